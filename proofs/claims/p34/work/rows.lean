section
-- ===== PART A: goes FIRST, ahead of the names: the tables' words, and 'selects' of the private methods out of them =====
/-- a private method of a class that the tables say can be made, by its rows of tables_1 -/
def lw_okq (q : MethodName × Nat) : Prop := (q.1.cls ≠ "java/lang/invoke/MethodHandle" ∧ q.1.cls ≠ "java/lang/invoke/VarHandle") ∧ Cond.instantiable q.1.cls q.2 ∈ tables_1 ∧ Cond.privateMethod q.1 ∈ tables_1 ∧ Cond.instanceMethod q.1 ∈ tables_1
theorem lw_p0 : lw_okq (⟨"java/lang/Throwable", "fillInStackTrace", "(I)Ljava/lang/Throwable;"⟩, 6) := ⟨⟨by decide +kernel, by decide +kernel⟩, List.mem_of_getElem? (i := 334) (by decide +kernel), List.mem_of_getElem? (i := 332) (by decide +kernel), List.mem_of_getElem? (i := 333) (by decide +kernel)⟩
theorem lw_p1 : lw_okq (⟨"Lantern", "start", "()V"⟩, 13) := ⟨⟨by decide +kernel, by decide +kernel⟩, List.mem_of_getElem? (i := 19) (by decide +kernel), List.mem_of_getElem? (i := 376) (by decide +kernel), List.mem_of_getElem? (i := 377) (by decide +kernel)⟩
theorem lw_p2 : lw_okq (⟨"Lantern", "stopBy", "(II)V"⟩, 13) := ⟨⟨by decide +kernel, by decide +kernel⟩, List.mem_of_getElem? (i := 19) (by decide +kernel), List.mem_of_getElem? (i := 404) (by decide +kernel), List.mem_of_getElem? (i := 405) (by decide +kernel)⟩
theorem lw_p3 : lw_okq (⟨"Lantern", "runTill", "(II)I"⟩, 13) := ⟨⟨by decide +kernel, by decide +kernel⟩, List.mem_of_getElem? (i := 19) (by decide +kernel), List.mem_of_getElem? (i := 448) (by decide +kernel), List.mem_of_getElem? (i := 449) (by decide +kernel)⟩
theorem lw_p4 : lw_okq (⟨"Lantern", "doStep", "()Z"⟩, 13) := ⟨⟨by decide +kernel, by decide +kernel⟩, List.mem_of_getElem? (i := 19) (by decide +kernel), List.mem_of_getElem? (i := 452) (by decide +kernel), List.mem_of_getElem? (i := 453) (by decide +kernel)⟩
theorem lw_p5 : lw_okq (⟨"Lantern$State", "failureOf", "(LLantern$Program;)I"⟩, 8) := ⟨⟨by decide +kernel, by decide +kernel⟩, List.mem_of_getElem? (i := 62) (by decide +kernel), List.mem_of_getElem? (i := 460) (by decide +kernel), List.mem_of_getElem? (i := 461) (by decide +kernel)⟩
theorem lw_p6 : lw_okq (⟨"Lantern$State", "isTooFullFor", "(I)Z"⟩, 8) := ⟨⟨by decide +kernel, by decide +kernel⟩, List.mem_of_getElem? (i := 62) (by decide +kernel), List.mem_of_getElem? (i := 492) (by decide +kernel), List.mem_of_getElem? (i := 493) (by decide +kernel)⟩
theorem lw_p7 : lw_okq (⟨"Lantern$State", "swap", "()V"⟩, 8) := ⟨⟨by decide +kernel, by decide +kernel⟩, List.mem_of_getElem? (i := 62) (by decide +kernel), List.mem_of_getElem? (i := 527) (by decide +kernel), List.mem_of_getElem? (i := 528) (by decide +kernel)⟩
theorem lw_p8 : lw_okq (⟨"Lantern$State", "storeAt", "()V"⟩, 8) := ⟨⟨by decide +kernel, by decide +kernel⟩, List.mem_of_getElem? (i := 62) (by decide +kernel), List.mem_of_getElem? (i := 535) (by decide +kernel), List.mem_of_getElem? (i := 536) (by decide +kernel)⟩
theorem lw_p9 : lw_okq (⟨"Lantern$State", "readFrom", "(LLantern$Row;)I"⟩, 8) := ⟨⟨by decide +kernel, by decide +kernel⟩, List.mem_of_getElem? (i := 62) (by decide +kernel), List.mem_of_getElem? (i := 539) (by decide +kernel), List.mem_of_getElem? (i := 540) (by decide +kernel)⟩
theorem lw_p10 : lw_okq (⟨"Lantern$State", "reckon", "(I)V"⟩, 8) := ⟨⟨by decide +kernel, by decide +kernel⟩, List.mem_of_getElem? (i := 62) (by decide +kernel), List.mem_of_getElem? (i := 544) (by decide +kernel), List.mem_of_getElem? (i := 545) (by decide +kernel)⟩
theorem lw_p11 : lw_okq (⟨"Lantern", "stopsRun", "(I)Z"⟩, 13) := ⟨⟨by decide +kernel, by decide +kernel⟩, List.mem_of_getElem? (i := 19) (by decide +kernel), List.mem_of_getElem? (i := 551) (by decide +kernel), List.mem_of_getElem? (i := 552) (by decide +kernel)⟩
theorem lw_p12 : lw_okq (⟨"Lantern", "watchMet", "()I"⟩, 13) := ⟨⟨by decide +kernel, by decide +kernel⟩, List.mem_of_getElem? (i := 19) (by decide +kernel), List.mem_of_getElem? (i := 555) (by decide +kernel), List.mem_of_getElem? (i := 556) (by decide +kernel)⟩
theorem lw_p13 : lw_okq (⟨"Lantern", "watchNumbered", "(I)LLantern$Watch;"⟩, 13) := ⟨⟨by decide +kernel, by decide +kernel⟩, List.mem_of_getElem? (i := 19) (by decide +kernel), List.mem_of_getElem? (i := 563) (by decide +kernel), List.mem_of_getElem? (i := 564) (by decide +kernel)⟩
theorem lw_p14 : lw_okq (⟨"Lantern", "pointStopping", "()I"⟩, 13) := ⟨⟨by decide +kernel, by decide +kernel⟩, List.mem_of_getElem? (i := 19) (by decide +kernel), List.mem_of_getElem? (i := 575) (by decide +kernel), List.mem_of_getElem? (i := 576) (by decide +kernel)⟩
theorem lw_p15 : lw_okq (⟨"Lantern", "pointNumbered", "(I)LLantern$Point;"⟩, 13) := ⟨⟨by decide +kernel, by decide +kernel⟩, List.mem_of_getElem? (i := 19) (by decide +kernel), List.mem_of_getElem? (i := 579) (by decide +kernel), List.mem_of_getElem? (i := 580) (by decide +kernel)⟩
def lw_privs_1 : List (MethodName × Nat) := [(⟨"java/lang/Throwable", "fillInStackTrace", "(I)Ljava/lang/Throwable;"⟩, 6), (⟨"Lantern", "start", "()V"⟩, 13), (⟨"Lantern", "stopBy", "(II)V"⟩, 13), (⟨"Lantern", "runTill", "(II)I"⟩, 13), (⟨"Lantern", "doStep", "()Z"⟩, 13), (⟨"Lantern$State", "failureOf", "(LLantern$Program;)I"⟩, 8), (⟨"Lantern$State", "isTooFullFor", "(I)Z"⟩, 8), (⟨"Lantern$State", "swap", "()V"⟩, 8), (⟨"Lantern$State", "storeAt", "()V"⟩, 8), (⟨"Lantern$State", "readFrom", "(LLantern$Row;)I"⟩, 8), (⟨"Lantern$State", "reckon", "(I)V"⟩, 8), (⟨"Lantern", "stopsRun", "(I)Z"⟩, 13), (⟨"Lantern", "watchMet", "()I"⟩, 13), (⟨"Lantern", "watchNumbered", "(I)LLantern$Watch;"⟩, 13), (⟨"Lantern", "pointStopping", "()I"⟩, 13), (⟨"Lantern", "pointNumbered", "(I)LLantern$Point;"⟩, 13)]
theorem lw_r1 : ∀ q ∈ lw_privs_1, lw_okq q := List.forall_mem_cons.mpr ⟨lw_p0, List.forall_mem_cons.mpr ⟨lw_p1, List.forall_mem_cons.mpr ⟨lw_p2, List.forall_mem_cons.mpr ⟨lw_p3, List.forall_mem_cons.mpr ⟨lw_p4, List.forall_mem_cons.mpr ⟨lw_p5, List.forall_mem_cons.mpr ⟨lw_p6, List.forall_mem_cons.mpr ⟨lw_p7, List.forall_mem_cons.mpr ⟨lw_p8, List.forall_mem_cons.mpr ⟨lw_p9, List.forall_mem_cons.mpr ⟨lw_p10, List.forall_mem_cons.mpr ⟨lw_p11, List.forall_mem_cons.mpr ⟨lw_p12, List.forall_mem_cons.mpr ⟨lw_p13, List.forall_mem_cons.mpr ⟨lw_p14, List.forall_mem_cons.mpr ⟨lw_p15, fun _ h => absurd h List.not_mem_nil⟩⟩⟩⟩⟩⟩⟩⟩⟩⟩⟩⟩⟩⟩⟩⟩
theorem lw_p16 : lw_okq (⟨"Lantern$Point", "holds", "(I)Z"⟩, 7) := ⟨⟨by decide +kernel, by decide +kernel⟩, List.mem_of_getElem? (i := 179) (by decide +kernel), List.mem_of_getElem? (i := 588) (by decide +kernel), List.mem_of_getElem? (i := 589) (by decide +kernel)⟩
theorem lw_p17 : lw_okq (⟨"Lantern", "goBack", "()LLantern$Moment;"⟩, 13) := ⟨⟨by decide +kernel, by decide +kernel⟩, List.mem_of_getElem? (i := 19) (by decide +kernel), List.mem_of_getElem? (i := 601) (by decide +kernel), List.mem_of_getElem? (i := 602) (by decide +kernel)⟩
theorem lw_p18 : lw_okq (⟨"Lantern", "ofNow", "(I)I"⟩, 13) := ⟨⟨by decide +kernel, by decide +kernel⟩, List.mem_of_getElem? (i := 19) (by decide +kernel), List.mem_of_getElem? (i := 687) (by decide +kernel), List.mem_of_getElem? (i := 688) (by decide +kernel)⟩
theorem lw_p19 : lw_okq (⟨"Lantern", "tapeAt", "(I)LLantern$Tape;"⟩, 13) := ⟨⟨by decide +kernel, by decide +kernel⟩, List.mem_of_getElem? (i := 19) (by decide +kernel), List.mem_of_getElem? (i := 707) (by decide +kernel), List.mem_of_getElem? (i := 708) (by decide +kernel)⟩
theorem lw_p20 : lw_okq (⟨"Lantern", "beginsAtStart", "()Z"⟩, 13) := ⟨⟨by decide +kernel, by decide +kernel⟩, List.mem_of_getElem? (i := 19) (by decide +kernel), List.mem_of_getElem? (i := 712) (by decide +kernel), List.mem_of_getElem? (i := 713) (by decide +kernel)⟩
theorem lw_p21 : lw_okq (⟨"Lantern$Past", "stepAt", "(I)I"⟩, 3) := ⟨⟨by decide +kernel, by decide +kernel⟩, List.mem_of_getElem? (i := 110) (by decide +kernel), List.mem_of_getElem? (i := 730) (by decide +kernel), List.mem_of_getElem? (i := 731) (by decide +kernel)⟩
theorem lw_p22 : lw_okq (⟨"Lantern", "tryOut", "(ILLantern$Row;)I"⟩, 13) := ⟨⟨by decide +kernel, by decide +kernel⟩, List.mem_of_getElem? (i := 19) (by decide +kernel), List.mem_of_getElem? (i := 761) (by decide +kernel), List.mem_of_getElem? (i := 762) (by decide +kernel)⟩
theorem lw_p23 : lw_okq (⟨"Lantern", "mixedProgram", "(J)J"⟩, 13) := ⟨⟨by decide +kernel, by decide +kernel⟩, List.mem_of_getElem? (i := 19) (by decide +kernel), List.mem_of_getElem? (i := 797) (by decide +kernel), List.mem_of_getElem? (i := 798) (by decide +kernel)⟩
theorem lw_p24 : lw_okq (⟨"Lantern", "mixedPoints", "(J)J"⟩, 13) := ⟨⟨by decide +kernel, by decide +kernel⟩, List.mem_of_getElem? (i := 19) (by decide +kernel), List.mem_of_getElem? (i := 801) (by decide +kernel), List.mem_of_getElem? (i := 802) (by decide +kernel)⟩
theorem lw_p25 : lw_okq (⟨"Lantern", "mixedThen", "(JI)J"⟩, 13) := ⟨⟨by decide +kernel, by decide +kernel⟩, List.mem_of_getElem? (i := 19) (by decide +kernel), List.mem_of_getElem? (i := 805) (by decide +kernel), List.mem_of_getElem? (i := 806) (by decide +kernel)⟩
def lw_privs_2 : List (MethodName × Nat) := [(⟨"Lantern$Point", "holds", "(I)Z"⟩, 7), (⟨"Lantern", "goBack", "()LLantern$Moment;"⟩, 13), (⟨"Lantern", "ofNow", "(I)I"⟩, 13), (⟨"Lantern", "tapeAt", "(I)LLantern$Tape;"⟩, 13), (⟨"Lantern", "beginsAtStart", "()Z"⟩, 13), (⟨"Lantern$Past", "stepAt", "(I)I"⟩, 3), (⟨"Lantern", "tryOut", "(ILLantern$Row;)I"⟩, 13), (⟨"Lantern", "mixedProgram", "(J)J"⟩, 13), (⟨"Lantern", "mixedPoints", "(J)J"⟩, 13), (⟨"Lantern", "mixedThen", "(JI)J"⟩, 13)]
theorem lw_r2 : ∀ q ∈ lw_privs_2, lw_okq q := List.forall_mem_cons.mpr ⟨lw_p16, List.forall_mem_cons.mpr ⟨lw_p17, List.forall_mem_cons.mpr ⟨lw_p18, List.forall_mem_cons.mpr ⟨lw_p19, List.forall_mem_cons.mpr ⟨lw_p20, List.forall_mem_cons.mpr ⟨lw_p21, List.forall_mem_cons.mpr ⟨lw_p22, List.forall_mem_cons.mpr ⟨lw_p23, List.forall_mem_cons.mpr ⟨lw_p24, List.forall_mem_cons.mpr ⟨lw_p25, fun _ h => absurd h List.not_mem_nil⟩⟩⟩⟩⟩⟩⟩⟩⟩⟩
def lw_privs : List (MethodName × Nat) := lw_privs_1 ++ (lw_privs_2)
def lw_tbl : List Cond := k2_sels lw_privs ++ tables_1
theorem lw_privs_ok : ∀ q ∈ lw_privs, lw_okq q := by
  show ∀ q ∈ lw_privs_1 ++ (lw_privs_2), lw_okq q
  exact List.forall_mem_append.mpr ⟨lw_r1, lw_r2⟩
/-- the streams that the claim lets the run draw from -/
abbrev lw_cs : List Choice := [Jvm.Choice.named "NaN.bits"]
theorem lw_bits : nanBits ∈ lw_cs := by first | decide | exact List.mem_cons_self | simp [lw_cs, nanBits]
-- names (printed)
def RX0 : String := "Lantern$Moment"
def TX0 : u_T := fun k => match k with
  | 0 => ("Lantern$Moment", "at", "I", false)
  | 1 => ("Lantern$Moment", "stackSize", "I", false)
  | 2 => ("Lantern$Moment", "top", "I", false)
  | 3 => ("Lantern$Moment", "second", "I", false)
  | 4 => ("Lantern$Moment", "frameCount", "I", false)
  | 5 => ("Lantern$Moment", "wayBack", "I", false)
  | 6 => ("Lantern$Moment", "read", "I", false)
  | 7 => ("Lantern$Moment", "outputSize", "I", false)
  | 8 => ("Lantern$Moment", "cell", "I", false)
  | 9 => ("Lantern$Moment", "before", "I", false)
  | _ => ("Lantern$Moment", "after", "I", false)
def tyX0 : Nat → FieldType := fun k => match k with
  | 0 => .int
  | 1 => .int
  | 2 => .int
  | 3 => .int
  | 4 => .int
  | 5 => .int
  | 6 => .int
  | 7 => .int
  | 8 => .int
  | 9 => .int
  | _ => .int
abbrev wsX00 : List Cond := u_ws RX0 TX0 11
theorem nmX0 : ∀ a, a < 11 → ∀ b, b < 11 → a ≠ b → (TX0 a).2.1 ≠ (TX0 b).2.1 := by decide +kernel
theorem tyX0_ok : ∀ k, k < 11 → parseFieldDescriptor (TX0 k).2.2.1 = some (tyX0 k) := by decide +kernel
abbrev cX0_init : ByteArray := prog_2_method_1_code
def yX0_init : MethodName := ⟨RX0, "<init>", "()V"⟩
abbrev cX0_describeStore : ByteArray := prog_2_method_2_code
def yX0_describeStore : MethodName := ⟨RX0, "describeStore", "(III)V"⟩
abbrev cX0_changed : ByteArray := prog_2_method_3_code
def yX0_changed : MethodName := ⟨RX0, "changed", "(I)Z"⟩
abbrev cX0_tellOf : ByteArray := prog_2_method_4_code
def yX0_tellOf : MethodName := ⟨RX0, "tellOf", "(I)I"⟩
def RX1 : String := "Lantern$Past"
def TX1 : u_T := fun k => match k with
  | 0 => ("Lantern$Past", "moments", "[LLantern$Moment;", true)
  | 1 => ("Lantern$Past", "first", "I", false)
  | _ => ("Lantern$Past", "count", "I", false)
def tyX1 : Nat → FieldType := fun k => match k with
  | 0 => .array (.object "Lantern$Moment")
  | 1 => .int
  | _ => .int
abbrev wsX10 : List Cond := u_ws RX1 TX1 3
theorem nmX1 : ∀ a, a < 3 → ∀ b, b < 3 → a ≠ b → (TX1 a).2.1 ≠ (TX1 b).2.1 := by decide +kernel
theorem tyX1_ok : ∀ k, k < 3 → parseFieldDescriptor (TX1 k).2.2.1 = some (tyX1 k) := by decide +kernel
abbrev cX1_init : ByteArray := prog_3_method_1_code
def yX1_init : MethodName := ⟨RX1, "<init>", "()V"⟩
abbrev cX1_size : ByteArray := prog_3_method_2_code
def yX1_size : MethodName := ⟨RX1, "size", "()I"⟩
abbrev cX1_clear : ByteArray := prog_3_method_3_code
def yX1_clear : MethodName := ⟨RX1, "clear", "()V"⟩
abbrev cX1_newest : ByteArray := prog_3_method_4_code
def yX1_newest : MethodName := ⟨RX1, "newest", "()LLantern$Moment;"⟩
abbrev cX1_dropLatest : ByteArray := prog_3_method_5_code
def yX1_dropLatest : MethodName := ⟨RX1, "dropLatest", "()V"⟩
abbrev cX1_ago : ByteArray := prog_3_method_6_code
def yX1_ago : MethodName := ⟨RX1, "ago", "(I)LLantern$Moment;"⟩
abbrev cX1_stepAt : ByteArray := prog_3_method_7_code
def yX1_stepAt : MethodName := ⟨RX1, "stepAt", "(I)I"⟩
abbrev cX1_cellAgo : ByteArray := prog_3_method_8_code
def yX1_cellAgo : MethodName := ⟨RX1, "cellAgo", "(III)I"⟩
abbrev cX1_storedAgo : ByteArray := prog_3_method_9_code
def yX1_storedAgo : MethodName := ⟨RX1, "storedAgo", "(I)I"⟩
abbrev cX1_writeSteps : ByteArray := prog_3_method_10_code
def yX1_writeSteps : MethodName := ⟨RX1, "writeSteps", "(LLantern$Row;)V"⟩
abbrev cX1_firstOther : ByteArray := prog_3_method_11_code
def yX1_firstOther : MethodName := ⟨RX1, "firstOther", "(LLantern$Row;)I"⟩
def RX2 : String := "Lantern$Point"
def TX2 : u_T := fun k => match k with
  | 0 => ("Lantern$Point", "step", "I", false)
  | 1 => ("Lantern$Point", "pass", "I", false)
  | 2 => ("Lantern$Point", "isOn", "Z", false)
  | 3 => ("Lantern$Point", "how", "I", false)
  | 4 => ("Lantern$Point", "cell", "I", false)
  | 5 => ("Lantern$Point", "n", "I", false)
  | _ => ("Lantern$Point", "stops", "I", false)
def tyX2 : Nat → FieldType := fun k => match k with
  | 0 => .int
  | 1 => .int
  | 2 => .boolean
  | 3 => .int
  | 4 => .int
  | 5 => .int
  | _ => .int
abbrev wsX20 : List Cond := u_ws RX2 TX2 7
theorem nmX2 : ∀ a, a < 7 → ∀ b, b < 7 → a ≠ b → (TX2 a).2.1 ≠ (TX2 b).2.1 := by decide +kernel
theorem tyX2_ok : ∀ k, k < 7 → parseFieldDescriptor (TX2 k).2.2.1 = some (tyX2 k) := by decide +kernel
abbrev cX2_init : ByteArray := prog_4_method_1_code
def yX2_init : MethodName := ⟨RX2, "<init>", "()V"⟩
abbrev cX2_place : ByteArray := prog_4_method_2_code
def yX2_place : MethodName := ⟨RX2, "place", "(II)V"⟩
abbrev cX2_isHit : ByteArray := prog_4_method_3_code
def yX2_isHit : MethodName := ⟨RX2, "isHit", "(LLantern$State;)Z"⟩
abbrev cX2_holds : ByteArray := prog_4_method_4_code
def yX2_holds : MethodName := ⟨RX2, "holds", "(I)Z"⟩
abbrev cX2_letsPass : ByteArray := prog_4_method_5_code
def yX2_letsPass : MethodName := ⟨RX2, "letsPass", "()Z"⟩
def RX3 : String := "Lantern$Program"
def TX3 : u_T := fun k => match k with
  | 0 => ("Lantern$Program", "codes", "LLantern$Row;", true)
  | 1 => ("Lantern$Program", "numbers", "LLantern$Row;", true)
  | _ => ("Lantern$Program", "times", "LLantern$Row;", true)
def tyX3 : Nat → FieldType := fun k => match k with
  | 0 => .object "Lantern$Row"
  | 1 => .object "Lantern$Row"
  | _ => .object "Lantern$Row"
abbrev wsX30 : List Cond := u_ws RX3 TX3 3
theorem nmX3 : ∀ a, a < 3 → ∀ b, b < 3 → a ≠ b → (TX3 a).2.1 ≠ (TX3 b).2.1 := by decide +kernel
theorem tyX3_ok : ∀ k, k < 3 → parseFieldDescriptor (TX3 k).2.2.1 = some (tyX3 k) := by decide +kernel
abbrev cX3_init : ByteArray := prog_5_method_1_code
def yX3_init : MethodName := ⟨RX3, "<init>", "()V"⟩
abbrev cX3_allows : ByteArray := prog_5_method_2_code
def yX3_allows : MethodName := ⟨RX3, "allows", "(II)Z"⟩
abbrev cX3_size : ByteArray := prog_5_method_3_code
def yX3_size : MethodName := ⟨RX3, "size", "()I"⟩
abbrev cX3_isFull : ByteArray := prog_5_method_4_code
def yX3_isFull : MethodName := ⟨RX3, "isFull", "()Z"⟩
abbrev cX3_has : ByteArray := prog_5_method_5_code
def yX3_has : MethodName := ⟨RX3, "has", "(I)Z"⟩
abbrev cX3_codeAt : ByteArray := prog_5_method_6_code
def yX3_codeAt : MethodName := ⟨RX3, "codeAt", "(I)I"⟩
abbrev cX3_numberAt : ByteArray := prog_5_method_7_code
def yX3_numberAt : MethodName := ⟨RX3, "numberAt", "(I)I"⟩
abbrev cX3_timesAt : ByteArray := prog_5_method_8_code
def yX3_timesAt : MethodName := ⟨RX3, "timesAt", "(I)I"⟩
abbrev cX3_add : ByteArray := prog_5_method_9_code
def yX3_add : MethodName := ⟨RX3, "add", "(II)V"⟩
abbrev cX3_countTime : ByteArray := prog_5_method_11_code
def yX3_countTime : MethodName := ⟨RX3, "countTime", "(I)V"⟩
abbrev cX3_forgetTimes : ByteArray := prog_5_method_12_code
def yX3_forgetTimes : MethodName := ⟨RX3, "forgetTimes", "()V"⟩
def RX4 : String := "Lantern$Row"
def TX4 : u_T := fun k => match k with
  | 0 => ("Lantern$Row", "items", "[I", true)
  | _ => ("Lantern$Row", "count", "I", false)
def tyX4 : Nat → FieldType := fun k => match k with
  | 0 => .array .int
  | _ => .int
abbrev wsX40 : List Cond := u_ws RX4 TX4 2
theorem nmX4 : ∀ a, a < 2 → ∀ b, b < 2 → a ≠ b → (TX4 a).2.1 ≠ (TX4 b).2.1 := by decide +kernel
theorem tyX4_ok : ∀ k, k < 2 → parseFieldDescriptor (TX4 k).2.2.1 = some (tyX4 k) := by decide +kernel
abbrev cX4_init : ByteArray := prog_6_method_1_code
def yX4_init : MethodName := ⟨RX4, "<init>", "(I)V"⟩
abbrev cX4_size : ByteArray := prog_6_method_2_code
def yX4_size : MethodName := ⟨RX4, "size", "()I"⟩
abbrev cX4_isFull : ByteArray := prog_6_method_3_code
def yX4_isFull : MethodName := ⟨RX4, "isFull", "()Z"⟩
abbrev cX4_has : ByteArray := prog_6_method_4_code
def yX4_has : MethodName := ⟨RX4, "has", "(I)Z"⟩
abbrev cX4_get : ByteArray := prog_6_method_5_code
def yX4_get : MethodName := ⟨RX4, "get", "(I)I"⟩
abbrev cX4_fromTop : ByteArray := prog_6_method_6_code
def yX4_fromTop : MethodName := ⟨RX4, "fromTop", "(I)I"⟩
abbrev cX4_put : ByteArray := prog_6_method_7_code
def yX4_put : MethodName := ⟨RX4, "put", "(II)V"⟩
abbrev cX4_putFromTop : ByteArray := prog_6_method_8_code
def yX4_putFromTop : MethodName := ⟨RX4, "putFromTop", "(II)V"⟩
abbrev cX4_push : ByteArray := prog_6_method_9_code
def yX4_push : MethodName := ⟨RX4, "push", "(I)V"⟩
abbrev cX4_pop : ByteArray := prog_6_method_10_code
def yX4_pop : MethodName := ⟨RX4, "pop", "()I"⟩
abbrev cX4_resize : ByteArray := prog_6_method_11_code
def yX4_resize : MethodName := ⟨RX4, "resize", "(I)V"⟩
abbrev cX4_fillWithZeros : ByteArray := prog_6_method_12_code
def yX4_fillWithZeros : MethodName := ⟨RX4, "fillWithZeros", "()V"⟩
abbrev cX4_copyFrom : ByteArray := prog_6_method_13_code
def yX4_copyFrom : MethodName := ⟨RX4, "copyFrom", "(LLantern$Row;)V"⟩
abbrev cX4_mixedInto : ByteArray := prog_6_method_15_code
def yX4_mixedInto : MethodName := ⟨RX4, "mixedInto", "(J)J"⟩
abbrev cX4_mixedFromTopInto : ByteArray := prog_6_method_16_code
def yX4_mixedFromTopInto : MethodName := ⟨RX4, "mixedFromTopInto", "(J)J"⟩
def RX5 : String := "Lantern$State"
def TX5 : u_T := fun k => match k with
  | 0 => ("Lantern$State", "stack", "LLantern$Row;", true)
  | 1 => ("Lantern$State", "cells", "LLantern$Row;", true)
  | 2 => ("Lantern$State", "frames", "LLantern$Row;", true)
  | 3 => ("Lantern$State", "output", "LLantern$Row;", true)
  | 4 => ("Lantern$State", "at", "I", false)
  | 5 => ("Lantern$State", "status", "I", false)
  | 6 => ("Lantern$State", "read", "I", false)
  | _ => ("Lantern$State", "clock", "I", false)
def tyX5 : Nat → FieldType := fun k => match k with
  | 0 => .object "Lantern$Row"
  | 1 => .object "Lantern$Row"
  | 2 => .object "Lantern$Row"
  | 3 => .object "Lantern$Row"
  | 4 => .int
  | 5 => .int
  | 6 => .int
  | _ => .int
abbrev wsX50 : List Cond := u_ws RX5 TX5 8
theorem nmX5 : ∀ a, a < 8 → ∀ b, b < 8 → a ≠ b → (TX5 a).2.1 ≠ (TX5 b).2.1 := by decide +kernel
theorem tyX5_ok : ∀ k, k < 8 → parseFieldDescriptor (TX5 k).2.2.1 = some (tyX5 k) := by decide +kernel
abbrev cX5_init : ByteArray := prog_7_method_1_code
def yX5_init : MethodName := ⟨RX5, "<init>", "()V"⟩
abbrev cX5_clear : ByteArray := prog_7_method_2_code
def yX5_clear : MethodName := ⟨RX5, "clear", "()V"⟩
abbrev cX5_copyFrom : ByteArray := prog_7_method_3_code
def yX5_copyFrom : MethodName := ⟨RX5, "copyFrom", "(LLantern$State;)V"⟩
abbrev cX5_readies : ByteArray := prog_7_method_4_code
def yX5_readies : MethodName := ⟨RX5, "readies", "(LLantern$Program;)Z"⟩
abbrev cX5_failureOf : ByteArray := prog_7_method_5_code
def yX5_failureOf : MethodName := ⟨RX5, "failureOf", "(LLantern$Program;)I"⟩
abbrev cX5_needOnStack : ByteArray := prog_7_method_6_code
def yX5_needOnStack : MethodName := ⟨RX5, "needOnStack", "(I)I"⟩
abbrev cX5_isTooFullFor : ByteArray := prog_7_method_7_code
def yX5_isTooFullFor : MethodName := ⟨RX5, "isTooFullFor", "(I)Z"⟩
abbrev cX5_perform : ByteArray := prog_7_method_8_code
def yX5_perform : MethodName := ⟨RX5, "perform", "(LLantern$Program;LLantern$Row;)V"⟩
abbrev cX5_swap : ByteArray := prog_7_method_9_code
def yX5_swap : MethodName := ⟨RX5, "swap", "()V"⟩
abbrev cX5_storeAt : ByteArray := prog_7_method_10_code
def yX5_storeAt : MethodName := ⟨RX5, "storeAt", "()V"⟩
abbrev cX5_readFrom : ByteArray := prog_7_method_11_code
def yX5_readFrom : MethodName := ⟨RX5, "readFrom", "(LLantern$Row;)I"⟩
abbrev cX5_reckon : ByteArray := prog_7_method_12_code
def yX5_reckon : MethodName := ⟨RX5, "reckon", "(I)V"⟩
abbrev cX5_reckoned : ByteArray := prog_7_method_13_code
def yX5_reckoned : MethodName := ⟨RX5, "reckoned", "(III)I"⟩
abbrev cX5_describe : ByteArray := prog_7_method_14_code
def yX5_describe : MethodName := ⟨RX5, "describe", "(LLantern$Moment;LLantern$Program;)V"⟩
abbrev cX5_goBackTo : ByteArray := prog_7_method_15_code
def yX5_goBackTo : MethodName := ⟨RX5, "goBackTo", "(LLantern$Moment;)V"⟩
abbrev cX5_mixedInto : ByteArray := prog_7_method_16_code
def yX5_mixedInto : MethodName := ⟨RX5, "mixedInto", "(J)J"⟩
def RX6 : String := "Lantern$Tape"
def TX6 : u_T := fun k => match k with
  | 0 => ("Lantern$Tape", "steps", "LLantern$Row;", true)
  | 1 => ("Lantern$Tape", "input", "LLantern$Row;", true)
  | _ => ("Lantern$Tape", "isRecorded", "Z", false)
def tyX6 : Nat → FieldType := fun k => match k with
  | 0 => .object "Lantern$Row"
  | 1 => .object "Lantern$Row"
  | _ => .boolean
abbrev wsX60 : List Cond := u_ws RX6 TX6 3
theorem nmX6 : ∀ a, a < 3 → ∀ b, b < 3 → a ≠ b → (TX6 a).2.1 ≠ (TX6 b).2.1 := by decide +kernel
theorem tyX6_ok : ∀ k, k < 3 → parseFieldDescriptor (TX6 k).2.2.1 = some (tyX6 k) := by decide +kernel
abbrev cX6_init : ByteArray := prog_8_method_1_code
def yX6_init : MethodName := ⟨RX6, "<init>", "()V"⟩
def RX7 : String := "Lantern$Watch"
def TX7 : u_T := fun k => match k with
  | 0 => ("Lantern$Watch", "cell", "I", false)
  | 1 => ("Lantern$Watch", "kind", "I", false)
  | _ => ("Lantern$Watch", "n", "I", false)
def tyX7 : Nat → FieldType := fun k => match k with
  | 0 => .int
  | 1 => .int
  | _ => .int
abbrev wsX70 : List Cond := u_ws RX7 TX7 3
theorem nmX7 : ∀ a, a < 3 → ∀ b, b < 3 → a ≠ b → (TX7 a).2.1 ≠ (TX7 b).2.1 := by decide +kernel
theorem tyX7_ok : ∀ k, k < 3 → parseFieldDescriptor (TX7 k).2.2.1 = some (tyX7 k) := by decide +kernel
abbrev cX7_init : ByteArray := prog_9_method_1_code
def yX7_init : MethodName := ⟨RX7, "<init>", "()V"⟩
abbrev cX7_isMetBy : ByteArray := prog_9_method_3_code
def yX7_isMetBy : MethodName := ⟨RX7, "isMetBy", "(LLantern$Moment;)Z"⟩
def RX8 : String := "Lantern"
def TX8 : u_T := fun k => match k with
  | 0 => ("Lantern", "program", "LLantern$Program;", true)
  | 1 => ("Lantern", "input", "LLantern$Row;", true)
  | 2 => ("Lantern", "state", "LLantern$State;", true)
  | 3 => ("Lantern", "past", "LLantern$Past;", true)
  | 4 => ("Lantern", "points", "[LLantern$Point;", true)
  | 5 => ("Lantern", "pointCount", "I", false)
  | 6 => ("Lantern", "watches", "[LLantern$Watch;", true)
  | 7 => ("Lantern", "watchCount", "I", false)
  | 8 => ("Lantern", "tapes", "[LLantern$Tape;", true)
  | 9 => ("Lantern", "reason", "I", false)
  | 10 => ("Lantern", "cause", "I", false)
  | 11 => ("Lantern", "trial", "LLantern$State;", true)
  | _ => ("Lantern", "trialInput", "LLantern$Row;", true)
def tyX8 : Nat → FieldType := fun k => match k with
  | 0 => .object "Lantern$Program"
  | 1 => .object "Lantern$Row"
  | 2 => .object "Lantern$State"
  | 3 => .object "Lantern$Past"
  | 4 => .array (.object "Lantern$Point")
  | 5 => .int
  | 6 => .array (.object "Lantern$Watch")
  | 7 => .int
  | 8 => .array (.object "Lantern$Tape")
  | 9 => .int
  | 10 => .int
  | 11 => .object "Lantern$State"
  | _ => .object "Lantern$Row"
abbrev wsX80 : List Cond := u_ws RX8 TX8 13
theorem nmX8 : ∀ a, a < 13 → ∀ b, b < 13 → a ≠ b → (TX8 a).2.1 ≠ (TX8 b).2.1 := by decide +kernel
theorem tyX8_ok : ∀ k, k < 13 → parseFieldDescriptor (TX8 k).2.2.1 = some (tyX8 k) := by decide +kernel
abbrev cX8_init : ByteArray := prog_1_method_1_code
def yX8_init : MethodName := ⟨RX8, "<init>", "()V"⟩
abbrev cX8_step : ByteArray := prog_1_method_2_code
def yX8_step : MethodName := ⟨RX8, "step", "(II)I"⟩
abbrev cX8_give : ByteArray := prog_1_method_4_code
def yX8_give : MethodName := ⟨RX8, "give", "(I)I"⟩
abbrev cX8_restart : ByteArray := prog_1_method_5_code
def yX8_restart : MethodName := ⟨RX8, "restart", "()I"⟩
abbrev cX8_start : ByteArray := prog_1_method_6_code
def yX8_start : MethodName := ⟨RX8, "start", "()V"⟩
abbrev cX8_point : ByteArray := prog_1_method_7_code
def yX8_point : MethodName := ⟨RX8, "point", "(II)I"⟩
abbrev cX8_isCell : ByteArray := prog_1_method_12_code
def yX8_isCell : MethodName := ⟨RX8, "isCell", "(I)Z"⟩
abbrev cX8_isPass : ByteArray := prog_1_method_13_code
def yX8_isPass : MethodName := ⟨RX8, "isPass", "(I)Z"⟩
abbrev cX8_pointNumbered : ByteArray := prog_1_method_14_code
def yX8_pointNumbered : MethodName := ⟨RX8, "pointNumbered", "(I)LLantern$Point;"⟩
abbrev cX8_watchNumbered : ByteArray := prog_1_method_15_code
def yX8_watchNumbered : MethodName := ⟨RX8, "watchNumbered", "(I)LLantern$Watch;"⟩
abbrev cX8_run : ByteArray := prog_1_method_16_code
def yX8_run : MethodName := ⟨RX8, "run", "(I)I"⟩
abbrev cX8_back : ByteArray := prog_1_method_19_code
def yX8_back : MethodName := ⟨RX8, "back", "(I)I"⟩
abbrev cX8_isRunLength : ByteArray := prog_1_method_21_code
def yX8_isRunLength : MethodName := ⟨RX8, "isRunLength", "(I)Z"⟩
abbrev cX8_stopBy : ByteArray := prog_1_method_22_code
def yX8_stopBy : MethodName := ⟨RX8, "stopBy", "(II)V"⟩
abbrev cX8_runTill : ByteArray := prog_1_method_23_code
def yX8_runTill : MethodName := ⟨RX8, "runTill", "(II)I"⟩
abbrev cX8_doStep : ByteArray := prog_1_method_24_code
def yX8_doStep : MethodName := ⟨RX8, "doStep", "()Z"⟩
abbrev cX8_stopsRun : ByteArray := prog_1_method_25_code
def yX8_stopsRun : MethodName := ⟨RX8, "stopsRun", "(I)Z"⟩
abbrev cX8_watchMet : ByteArray := prog_1_method_26_code
def yX8_watchMet : MethodName := ⟨RX8, "watchMet", "()I"⟩
abbrev cX8_pointStopping : ByteArray := prog_1_method_27_code
def yX8_pointStopping : MethodName := ⟨RX8, "pointStopping", "()I"⟩
abbrev cX8_goBack : ByteArray := prog_1_method_28_code
def yX8_goBack : MethodName := ⟨RX8, "goBack", "()LLantern$Moment;"⟩
abbrev cX8_told : ByteArray := prog_1_method_30_code
def yX8_told : MethodName := ⟨RX8, "told", "(I)I"⟩
abbrev cX8_stack : ByteArray := prog_1_method_31_code
def yX8_stack : MethodName := ⟨RX8, "stack", "(I)I"⟩
abbrev cX8_cell : ByteArray := prog_1_method_32_code
def yX8_cell : MethodName := ⟨RX8, "cell", "(I)I"⟩
abbrev cX8_frame : ByteArray := prog_1_method_33_code
def yX8_frame : MethodName := ⟨RX8, "frame", "(I)I"⟩
abbrev cX8_output : ByteArray := prog_1_method_34_code
def yX8_output : MethodName := ⟨RX8, "output", "(I)I"⟩
abbrev cX8_ofStep : ByteArray := prog_1_method_35_code
def yX8_ofStep : MethodName := ⟨RX8, "ofStep", "(II)I"⟩
abbrev cX8_ofPoint : ByteArray := prog_1_method_36_code
def yX8_ofPoint : MethodName := ⟨RX8, "ofPoint", "(II)I"⟩
abbrev cX8_then : ByteArray := prog_1_method_37_code
def yX8_then : MethodName := ⟨RX8, "then", "(II)I"⟩
abbrev cX8_wroteAgo : ByteArray := prog_1_method_38_code
def yX8_wroteAgo : MethodName := ⟨RX8, "wroteAgo", "(I)I"⟩
abbrev cX8_ofNow : ByteArray := prog_1_method_39_code
def yX8_ofNow : MethodName := ⟨RX8, "ofNow", "(I)I"⟩
abbrev cX8_truth : ByteArray := prog_1_method_40_code
def yX8_truth : MethodName := ⟨RX8, "truth", "(Z)I"⟩
abbrev cX8_record : ByteArray := prog_1_method_41_code
def yX8_record : MethodName := ⟨RX8, "record", "(I)I"⟩
abbrev cX8_replay : ByteArray := prog_1_method_42_code
def yX8_replay : MethodName := ⟨RX8, "replay", "(I)I"⟩
abbrev cX8_parts : ByteArray := prog_1_method_43_code
def yX8_parts : MethodName := ⟨RX8, "parts", "(I)I"⟩
abbrev cX8_tapeAt : ByteArray := prog_1_method_44_code
def yX8_tapeAt : MethodName := ⟨RX8, "tapeAt", "(I)LLantern$Tape;"⟩
abbrev cX8_beginsAtStart : ByteArray := prog_1_method_45_code
def yX8_beginsAtStart : MethodName := ⟨RX8, "beginsAtStart", "()Z"⟩
abbrev cX8_endsIn : ByteArray := prog_1_method_46_code
def yX8_endsIn : MethodName := ⟨RX8, "endsIn", "(I)I"⟩
abbrev cX8_cellIn : ByteArray := prog_1_method_47_code
def yX8_cellIn : MethodName := ⟨RX8, "cellIn", "(II)I"⟩
abbrev cX8_heat : ByteArray := prog_1_method_49_code
def yX8_heat : MethodName := ⟨RX8, "heat", "()D"⟩
abbrev cX8_digest : ByteArray := prog_1_method_50_code
def yX8_digest : MethodName := ⟨RX8, "digest", "()J"⟩
abbrev cX8_tryOut : ByteArray := prog_1_method_51_code
def yX8_tryOut : MethodName := ⟨RX8, "tryOut", "(ILLantern$Row;)I"⟩
abbrev cX8_mixed : ByteArray := prog_1_method_52_code
def yX8_mixed : MethodName := ⟨RX8, "mixed", "(JI)J"⟩
abbrev cX8_mixedProgram : ByteArray := prog_1_method_53_code
def yX8_mixedProgram : MethodName := ⟨RX8, "mixedProgram", "(J)J"⟩
abbrev cX8_mixedPoints : ByteArray := prog_1_method_54_code
def yX8_mixedPoints : MethodName := ⟨RX8, "mixedPoints", "(J)J"⟩
abbrev cX8_mixedThen : ByteArray := prog_1_method_55_code
def yX8_mixedThen : MethodName := ⟨RX8, "mixedThen", "(JI)J"⟩
def RX9 : String := "LanternModel$Point"
def TX9 : u_T := fun k => match k with
  | _ => ("", "", "", false)
def tyX9 : Nat → FieldType := fun k => match k with
  | _ => .int
abbrev wsX90 : List Cond := u_ws RX9 TX9 0
theorem nmX9 : ∀ a, a < 0 → ∀ b, b < 0 → a ≠ b → (TX9 a).2.1 ≠ (TX9 b).2.1 := by decide +kernel
theorem tyX9_ok : ∀ k, k < 0 → parseFieldDescriptor (TX9 k).2.2.1 = some (tyX9 k) := by decide +kernel
def RX10 : String := "LanternModel$Recorded"
def TX10 : u_T := fun k => match k with
  | _ => ("", "", "", false)
def tyX10 : Nat → FieldType := fun k => match k with
  | _ => .int
abbrev wsX100 : List Cond := u_ws RX10 TX10 0
theorem nmX10 : ∀ a, a < 0 → ∀ b, b < 0 → a ≠ b → (TX10 a).2.1 ≠ (TX10 b).2.1 := by decide +kernel
theorem tyX10_ok : ∀ k, k < 0 → parseFieldDescriptor (TX10 k).2.2.1 = some (tyX10 k) := by decide +kernel
def RX11 : String := "LanternModel$State"
def TX11 : u_T := fun k => match k with
  | _ => ("", "", "", false)
def tyX11 : Nat → FieldType := fun k => match k with
  | _ => .int
abbrev wsX110 : List Cond := u_ws RX11 TX11 0
theorem nmX11 : ∀ a, a < 0 → ∀ b, b < 0 → a ≠ b → (TX11 a).2.1 ≠ (TX11 b).2.1 := by decide +kernel
theorem tyX11_ok : ∀ k, k < 0 → parseFieldDescriptor (TX11 k).2.2.1 = some (tyX11 k) := by decide +kernel
def RX12 : String := "LanternModel"
def TX12 : u_T := fun k => match k with
  | _ => ("", "", "", false)
def tyX12 : Nat → FieldType := fun k => match k with
  | _ => .int
abbrev wsX120 : List Cond := u_ws RX12 TX12 0
theorem nmX12 : ∀ a, a < 0 → ∀ b, b < 0 → a ≠ b → (TX12 a).2.1 ≠ (TX12 b).2.1 := by decide +kernel
theorem tyX12_ok : ∀ k, k < 0 → parseFieldDescriptor (TX12 k).2.2.1 = some (tyX12 k) := by decide +kernel
def RL : String := "LanternLaw"
abbrev cL_below : ByteArray := method_2_code
def yL_below : MethodName := ⟨RL, "below", "(II)I"⟩
abbrev cL_cell : ByteArray := method_3_code
def yL_cell : MethodName := ⟨RL, "cell", "([II)I"⟩
abbrev cL_program : ByteArray := method_4_code
def yL_program : MethodName := ⟨RL, "program", "(LLantern;[II)[[I"⟩
abbrev cL_state : ByteArray := method_5_code
def yL_state : MethodName := ⟨RL, "state", "(LLantern;)J"⟩
abbrev cL_law : ByteArray := code
def yL_law : MethodName := ⟨RL, "law", "([I)Z"⟩
abbrev vwCl : List vw_C := [(RX0, TX0, 11), (RX1, TX1, 3), (RX2, TX2, 7), (RX3, TX3, 3), (RX4, TX4, 2), (RX5, TX5, 8), (RX6, TX6, 3), (RX7, TX7, 3), (RX8, TX8, 13)]
end
section
theorem dX0_init_0 : decode cX0_init 0 = .ok (.aload_n 0, 1) := by decide +kernel
theorem dX0_init_1 : decode cX0_init 1 = .ok (.invokespecial 1, 3) := by decide +kernel
theorem dX0_init_4 : decode cX0_init 4 = .ok (.return_, 1) := by decide +kernel
theorem dX0_describeStore_0 : decode cX0_describeStore 0 = .ok (.aload_n 0, 1) := by decide +kernel
theorem dX0_describeStore_1 : decode cX0_describeStore 1 = .ok (.iload_n 1, 1) := by decide +kernel
theorem dX0_describeStore_2 : decode cX0_describeStore 2 = .ok (.putfield 7, 3) := by decide +kernel
theorem dX0_describeStore_5 : decode cX0_describeStore 5 = .ok (.aload_n 0, 1) := by decide +kernel
theorem dX0_describeStore_6 : decode cX0_describeStore 6 = .ok (.iload_n 2, 1) := by decide +kernel
theorem dX0_describeStore_7 : decode cX0_describeStore 7 = .ok (.putfield 13, 3) := by decide +kernel
theorem dX0_describeStore_10 : decode cX0_describeStore 10 = .ok (.aload_n 0, 1) := by decide +kernel
theorem dX0_describeStore_11 : decode cX0_describeStore 11 = .ok (.iload_n 3, 1) := by decide +kernel
theorem dX0_describeStore_12 : decode cX0_describeStore 12 = .ok (.putfield 16, 3) := by decide +kernel
theorem dX0_describeStore_15 : decode cX0_describeStore 15 = .ok (.return_, 1) := by decide +kernel
theorem dX0_changed_0 : decode cX0_changed 0 = .ok (.aload_n 0, 1) := by decide +kernel
theorem dX0_changed_1 : decode cX0_changed 1 = .ok (.getfield 7, 3) := by decide +kernel
theorem dX0_changed_4 : decode cX0_changed 4 = .ok (.iload_n 1, 1) := by decide +kernel
theorem dX0_changed_5 : decode cX0_changed 5 = .ok (.if_icmp .ne 18, 3) := by decide +kernel
theorem dX0_changed_8 : decode cX0_changed 8 = .ok (.aload_n 0, 1) := by decide +kernel
theorem dX0_changed_9 : decode cX0_changed 9 = .ok (.getfield 13, 3) := by decide +kernel
theorem dX0_changed_12 : decode cX0_changed 12 = .ok (.aload_n 0, 1) := by decide +kernel
theorem dX0_changed_13 : decode cX0_changed 13 = .ok (.getfield 16, 3) := by decide +kernel
theorem dX0_changed_16 : decode cX0_changed 16 = .ok (.if_icmp .eq 7, 3) := by decide +kernel
theorem dX0_changed_19 : decode cX0_changed 19 = .ok (.iconst 1, 1) := by decide +kernel
theorem dX0_changed_20 : decode cX0_changed 20 = .ok (.goto 4, 3) := by decide +kernel
theorem dX0_changed_23 : decode cX0_changed 23 = .ok (.iconst 0, 1) := by decide +kernel
theorem dX0_changed_24 : decode cX0_changed 24 = .ok (.ireturn, 1) := by decide +kernel
theorem dX0_tellOf_0 : decode cX0_tellOf 0 = .ok (.iload_n 1, 1) := by decide +kernel
theorem dX0_tellOf_1 : decode cX0_tellOf 1 = .ok (.tableswitch 42 0 2 #[27, 32, 37], 27) := by decide +kernel
theorem dX0_tellOf_28 : decode cX0_tellOf 28 = .ok (.aload_n 0, 1) := by decide +kernel
theorem dX0_tellOf_29 : decode cX0_tellOf 29 = .ok (.getfield 19, 3) := by decide +kernel
theorem dX0_tellOf_32 : decode cX0_tellOf 32 = .ok (.ireturn, 1) := by decide +kernel
theorem dX0_tellOf_33 : decode cX0_tellOf 33 = .ok (.aload_n 0, 1) := by decide +kernel
theorem dX0_tellOf_34 : decode cX0_tellOf 34 = .ok (.getfield 22, 3) := by decide +kernel
theorem dX0_tellOf_37 : decode cX0_tellOf 37 = .ok (.ireturn, 1) := by decide +kernel
theorem dX0_tellOf_38 : decode cX0_tellOf 38 = .ok (.aload_n 0, 1) := by decide +kernel
theorem dX0_tellOf_39 : decode cX0_tellOf 39 = .ok (.getfield 25, 3) := by decide +kernel
theorem dX0_tellOf_42 : decode cX0_tellOf 42 = .ok (.ireturn, 1) := by decide +kernel
theorem dX0_tellOf_43 : decode cX0_tellOf 43 = .ok (.aload_n 0, 1) := by decide +kernel
theorem dX0_tellOf_44 : decode cX0_tellOf 44 = .ok (.getfield 28, 3) := by decide +kernel
theorem dX0_tellOf_47 : decode cX0_tellOf 47 = .ok (.ireturn, 1) := by decide +kernel
theorem dX1_init_0 : decode cX1_init 0 = .ok (.aload_n 0, 1) := by decide +kernel
theorem dX1_init_1 : decode cX1_init 1 = .ok (.invokespecial 3, 3) := by decide +kernel
theorem dX1_init_4 : decode cX1_init 4 = .ok (.aload_n 0, 1) := by decide +kernel
theorem dX1_init_5 : decode cX1_init 5 = .ok (.sipush 200, 3) := by decide +kernel
theorem dX1_init_8 : decode cX1_init 8 = .ok (.anewarray 9, 3) := by decide +kernel
theorem dX1_init_11 : decode cX1_init 11 = .ok (.putfield 11, 3) := by decide +kernel
theorem dX1_init_14 : decode cX1_init 14 = .ok (.iconst 0, 1) := by decide +kernel
theorem dX1_init_15 : decode cX1_init 15 = .ok (.istore_n 1, 1) := by decide +kernel
theorem dX1_init_16 : decode cX1_init 16 = .ok (.iload_n 1, 1) := by decide +kernel
theorem dX1_init_17 : decode cX1_init 17 = .ok (.aload_n 0, 1) := by decide +kernel
theorem dX1_init_18 : decode cX1_init 18 = .ok (.getfield 11, 3) := by decide +kernel
theorem dX1_init_21 : decode cX1_init 21 = .ok (.arraylength, 1) := by decide +kernel
theorem dX1_init_22 : decode cX1_init 22 = .ok (.if_icmp .ge 22, 3) := by decide +kernel
theorem dX1_init_25 : decode cX1_init 25 = .ok (.aload_n 0, 1) := by decide +kernel
theorem dX1_init_26 : decode cX1_init 26 = .ok (.getfield 11, 3) := by decide +kernel
theorem dX1_init_29 : decode cX1_init 29 = .ok (.iload_n 1, 1) := by decide +kernel
theorem dX1_init_30 : decode cX1_init 30 = .ok (.new 9, 3) := by decide +kernel
theorem dX1_init_33 : decode cX1_init 33 = .ok (.dup, 1) := by decide +kernel
theorem dX1_init_34 : decode cX1_init 34 = .ok (.invokespecial 17, 3) := by decide +kernel
theorem dX1_init_37 : decode cX1_init 37 = .ok (.aastore, 1) := by decide +kernel
theorem dX1_init_38 : decode cX1_init 38 = .ok (.iinc 1 1, 3) := by decide +kernel
theorem dX1_init_41 : decode cX1_init 41 = .ok (.goto (-25), 3) := by decide +kernel
theorem dX1_init_44 : decode cX1_init 44 = .ok (.return_, 1) := by decide +kernel
theorem dX1_size_0 : decode cX1_size 0 = .ok (.aload_n 0, 1) := by decide +kernel
theorem dX1_size_1 : decode cX1_size 1 = .ok (.getfield 18, 3) := by decide +kernel
theorem dX1_size_4 : decode cX1_size 4 = .ok (.ireturn, 1) := by decide +kernel
theorem dX1_clear_0 : decode cX1_clear 0 = .ok (.aload_n 0, 1) := by decide +kernel
theorem dX1_clear_1 : decode cX1_clear 1 = .ok (.iconst 0, 1) := by decide +kernel
theorem dX1_clear_2 : decode cX1_clear 2 = .ok (.putfield 22, 3) := by decide +kernel
theorem dX1_clear_5 : decode cX1_clear 5 = .ok (.aload_n 0, 1) := by decide +kernel
theorem dX1_clear_6 : decode cX1_clear 6 = .ok (.iconst 0, 1) := by decide +kernel
theorem dX1_clear_7 : decode cX1_clear 7 = .ok (.putfield 18, 3) := by decide +kernel
theorem dX1_clear_10 : decode cX1_clear 10 = .ok (.return_, 1) := by decide +kernel
theorem dX1_newest_0 : decode cX1_newest 0 = .ok (.aload_n 0, 1) := by decide +kernel
theorem dX1_newest_1 : decode cX1_newest 1 = .ok (.getfield 18, 3) := by decide +kernel
theorem dX1_newest_4 : decode cX1_newest 4 = .ok (.sipush 200, 3) := by decide +kernel
theorem dX1_newest_7 : decode cX1_newest 7 = .ok (.if_icmp .ge 16, 3) := by decide +kernel
theorem dX1_newest_10 : decode cX1_newest 10 = .ok (.aload_n 0, 1) := by decide +kernel
theorem dX1_newest_11 : decode cX1_newest 11 = .ok (.dup, 1) := by decide +kernel
theorem dX1_newest_12 : decode cX1_newest 12 = .ok (.getfield 18, 3) := by decide +kernel
theorem dX1_newest_15 : decode cX1_newest 15 = .ok (.iconst 1, 1) := by decide +kernel
theorem dX1_newest_16 : decode cX1_newest 16 = .ok (.iadd, 1) := by decide +kernel
theorem dX1_newest_17 : decode cX1_newest 17 = .ok (.putfield 18, 3) := by decide +kernel
theorem dX1_newest_20 : decode cX1_newest 20 = .ok (.goto 17, 3) := by decide +kernel
theorem dX1_newest_23 : decode cX1_newest 23 = .ok (.aload_n 0, 1) := by decide +kernel
theorem dX1_newest_24 : decode cX1_newest 24 = .ok (.aload_n 0, 1) := by decide +kernel
theorem dX1_newest_25 : decode cX1_newest 25 = .ok (.getfield 22, 3) := by decide +kernel
theorem dX1_newest_28 : decode cX1_newest 28 = .ok (.iconst 1, 1) := by decide +kernel
theorem dX1_newest_29 : decode cX1_newest 29 = .ok (.iadd, 1) := by decide +kernel
theorem dX1_newest_30 : decode cX1_newest 30 = .ok (.sipush 200, 3) := by decide +kernel
theorem dX1_newest_33 : decode cX1_newest 33 = .ok (.irem, 1) := by decide +kernel
theorem dX1_newest_34 : decode cX1_newest 34 = .ok (.putfield 22, 3) := by decide +kernel
theorem dX1_newest_37 : decode cX1_newest 37 = .ok (.aload_n 0, 1) := by decide +kernel
theorem dX1_newest_38 : decode cX1_newest 38 = .ok (.getfield 11, 3) := by decide +kernel
theorem dX1_newest_41 : decode cX1_newest 41 = .ok (.aload_n 0, 1) := by decide +kernel
theorem dX1_newest_42 : decode cX1_newest 42 = .ok (.getfield 22, 3) := by decide +kernel
theorem dX1_newest_45 : decode cX1_newest 45 = .ok (.aload_n 0, 1) := by decide +kernel
theorem dX1_newest_46 : decode cX1_newest 46 = .ok (.getfield 18, 3) := by decide +kernel
theorem dX1_newest_49 : decode cX1_newest 49 = .ok (.iadd, 1) := by decide +kernel
theorem dX1_newest_50 : decode cX1_newest 50 = .ok (.iconst 1, 1) := by decide +kernel
theorem dX1_newest_51 : decode cX1_newest 51 = .ok (.isub, 1) := by decide +kernel
theorem dX1_newest_52 : decode cX1_newest 52 = .ok (.sipush 200, 3) := by decide +kernel
theorem dX1_newest_55 : decode cX1_newest 55 = .ok (.irem, 1) := by decide +kernel
theorem dX1_newest_56 : decode cX1_newest 56 = .ok (.aaload, 1) := by decide +kernel
theorem dX1_newest_57 : decode cX1_newest 57 = .ok (.areturn, 1) := by decide +kernel
theorem dX1_dropLatest_0 : decode cX1_dropLatest 0 = .ok (.aload_n 0, 1) := by decide +kernel
theorem dX1_dropLatest_1 : decode cX1_dropLatest 1 = .ok (.getfield 18, 3) := by decide +kernel
theorem dX1_dropLatest_4 : decode cX1_dropLatest 4 = .ok (.ifCond .le 13, 3) := by decide +kernel
theorem dX1_dropLatest_7 : decode cX1_dropLatest 7 = .ok (.aload_n 0, 1) := by decide +kernel
theorem dX1_dropLatest_8 : decode cX1_dropLatest 8 = .ok (.dup, 1) := by decide +kernel
theorem dX1_dropLatest_9 : decode cX1_dropLatest 9 = .ok (.getfield 18, 3) := by decide +kernel
theorem dX1_dropLatest_12 : decode cX1_dropLatest 12 = .ok (.iconst 1, 1) := by decide +kernel
theorem dX1_dropLatest_13 : decode cX1_dropLatest 13 = .ok (.isub, 1) := by decide +kernel
theorem dX1_dropLatest_14 : decode cX1_dropLatest 14 = .ok (.putfield 18, 3) := by decide +kernel
theorem dX1_dropLatest_17 : decode cX1_dropLatest 17 = .ok (.return_, 1) := by decide +kernel
theorem dX1_ago_0 : decode cX1_ago 0 = .ok (.iload_n 1, 1) := by decide +kernel
theorem dX1_ago_1 : decode cX1_ago 1 = .ok (.iconst 1, 1) := by decide +kernel
theorem dX1_ago_2 : decode cX1_ago 2 = .ok (.if_icmp .lt 34, 3) := by decide +kernel
theorem dX1_ago_5 : decode cX1_ago 5 = .ok (.iload_n 1, 1) := by decide +kernel
theorem dX1_ago_6 : decode cX1_ago 6 = .ok (.aload_n 0, 1) := by decide +kernel
theorem dX1_ago_7 : decode cX1_ago 7 = .ok (.getfield 18, 3) := by decide +kernel
theorem dX1_ago_10 : decode cX1_ago 10 = .ok (.if_icmp .gt 26, 3) := by decide +kernel
theorem dX1_ago_13 : decode cX1_ago 13 = .ok (.aload_n 0, 1) := by decide +kernel
theorem dX1_ago_14 : decode cX1_ago 14 = .ok (.getfield 11, 3) := by decide +kernel
theorem dX1_ago_17 : decode cX1_ago 17 = .ok (.aload_n 0, 1) := by decide +kernel
theorem dX1_ago_18 : decode cX1_ago 18 = .ok (.getfield 22, 3) := by decide +kernel
theorem dX1_ago_21 : decode cX1_ago 21 = .ok (.aload_n 0, 1) := by decide +kernel
theorem dX1_ago_22 : decode cX1_ago 22 = .ok (.getfield 18, 3) := by decide +kernel
theorem dX1_ago_25 : decode cX1_ago 25 = .ok (.iadd, 1) := by decide +kernel
theorem dX1_ago_26 : decode cX1_ago 26 = .ok (.iload_n 1, 1) := by decide +kernel
theorem dX1_ago_27 : decode cX1_ago 27 = .ok (.isub, 1) := by decide +kernel
theorem dX1_ago_28 : decode cX1_ago 28 = .ok (.sipush 200, 3) := by decide +kernel
theorem dX1_ago_31 : decode cX1_ago 31 = .ok (.irem, 1) := by decide +kernel
theorem dX1_ago_32 : decode cX1_ago 32 = .ok (.aaload, 1) := by decide +kernel
theorem dX1_ago_33 : decode cX1_ago 33 = .ok (.goto 4, 3) := by decide +kernel
theorem dX1_ago_36 : decode cX1_ago 36 = .ok (.aconst_null, 1) := by decide +kernel
theorem dX1_ago_37 : decode cX1_ago 37 = .ok (.areturn, 1) := by decide +kernel
theorem dX1_stepAt_0 : decode cX1_stepAt 0 = .ok (.aload_n 0, 1) := by decide +kernel
theorem dX1_stepAt_1 : decode cX1_stepAt 1 = .ok (.aload_n 0, 1) := by decide +kernel
theorem dX1_stepAt_2 : decode cX1_stepAt 2 = .ok (.getfield 18, 3) := by decide +kernel
theorem dX1_stepAt_5 : decode cX1_stepAt 5 = .ok (.iload_n 1, 1) := by decide +kernel
theorem dX1_stepAt_6 : decode cX1_stepAt 6 = .ok (.isub, 1) := by decide +kernel
theorem dX1_stepAt_7 : decode cX1_stepAt 7 = .ok (.invokevirtual 25, 3) := by decide +kernel
theorem dX1_stepAt_10 : decode cX1_stepAt 10 = .ok (.astore_n 2, 1) := by decide +kernel
theorem dX1_stepAt_11 : decode cX1_stepAt 11 = .ok (.aload_n 2, 1) := by decide +kernel
theorem dX1_stepAt_12 : decode cX1_stepAt 12 = .ok (.ifnonnull 7, 3) := by decide +kernel
theorem dX1_stepAt_15 : decode cX1_stepAt 15 = .ok (.iconst (-1), 1) := by decide +kernel
theorem dX1_stepAt_16 : decode cX1_stepAt 16 = .ok (.goto 7, 3) := by decide +kernel
theorem dX1_stepAt_19 : decode cX1_stepAt 19 = .ok (.aload_n 2, 1) := by decide +kernel
theorem dX1_stepAt_20 : decode cX1_stepAt 20 = .ok (.getfield 29, 3) := by decide +kernel
theorem dX1_stepAt_23 : decode cX1_stepAt 23 = .ok (.ireturn, 1) := by decide +kernel
theorem dX1_cellAgo_0 : decode cX1_cellAgo 0 = .ok (.iload_n 3, 1) := by decide +kernel
theorem dX1_cellAgo_1 : decode cX1_cellAgo 1 = .ok (.istore 4, 2) := by decide +kernel
theorem dX1_cellAgo_3 : decode cX1_cellAgo 3 = .ok (.iconst 1, 1) := by decide +kernel
theorem dX1_cellAgo_4 : decode cX1_cellAgo 4 = .ok (.istore 5, 2) := by decide +kernel
theorem dX1_cellAgo_6 : decode cX1_cellAgo 6 = .ok (.iload 5, 2) := by decide +kernel
theorem dX1_cellAgo_8 : decode cX1_cellAgo 8 = .ok (.iload_n 2, 1) := by decide +kernel
theorem dX1_cellAgo_9 : decode cX1_cellAgo 9 = .ok (.if_icmp .gt 38, 3) := by decide +kernel
theorem dX1_cellAgo_12 : decode cX1_cellAgo 12 = .ok (.aload_n 0, 1) := by decide +kernel
theorem dX1_cellAgo_13 : decode cX1_cellAgo 13 = .ok (.iload 5, 2) := by decide +kernel
theorem dX1_cellAgo_15 : decode cX1_cellAgo 15 = .ok (.invokevirtual 25, 3) := by decide +kernel
theorem dX1_cellAgo_18 : decode cX1_cellAgo 18 = .ok (.astore 6, 2) := by decide +kernel
theorem dX1_cellAgo_20 : decode cX1_cellAgo 20 = .ok (.aload 6, 2) := by decide +kernel
theorem dX1_cellAgo_22 : decode cX1_cellAgo 22 = .ok (.ifnull 19, 3) := by decide +kernel
theorem dX1_cellAgo_25 : decode cX1_cellAgo 25 = .ok (.aload 6, 2) := by decide +kernel
theorem dX1_cellAgo_27 : decode cX1_cellAgo 27 = .ok (.getfield 32, 3) := by decide +kernel
theorem dX1_cellAgo_30 : decode cX1_cellAgo 30 = .ok (.iload_n 1, 1) := by decide +kernel
theorem dX1_cellAgo_31 : decode cX1_cellAgo 31 = .ok (.if_icmp .ne 10, 3) := by decide +kernel
theorem dX1_cellAgo_34 : decode cX1_cellAgo 34 = .ok (.aload 6, 2) := by decide +kernel
theorem dX1_cellAgo_36 : decode cX1_cellAgo 36 = .ok (.getfield 35, 3) := by decide +kernel
theorem dX1_cellAgo_39 : decode cX1_cellAgo 39 = .ok (.istore 4, 2) := by decide +kernel
theorem dX1_cellAgo_41 : decode cX1_cellAgo 41 = .ok (.iinc 5 1, 3) := by decide +kernel
theorem dX1_cellAgo_44 : decode cX1_cellAgo 44 = .ok (.goto (-38), 3) := by decide +kernel
theorem dX1_cellAgo_47 : decode cX1_cellAgo 47 = .ok (.iload 4, 2) := by decide +kernel
theorem dX1_cellAgo_49 : decode cX1_cellAgo 49 = .ok (.ireturn, 1) := by decide +kernel
theorem dX1_storedAgo_0 : decode cX1_storedAgo 0 = .ok (.iconst 1, 1) := by decide +kernel
theorem dX1_storedAgo_1 : decode cX1_storedAgo 1 = .ok (.istore_n 2, 1) := by decide +kernel
theorem dX1_storedAgo_2 : decode cX1_storedAgo 2 = .ok (.iload_n 2, 1) := by decide +kernel
theorem dX1_storedAgo_3 : decode cX1_storedAgo 3 = .ok (.aload_n 0, 1) := by decide +kernel
theorem dX1_storedAgo_4 : decode cX1_storedAgo 4 = .ok (.getfield 18, 3) := by decide +kernel
theorem dX1_storedAgo_7 : decode cX1_storedAgo 7 = .ok (.if_icmp .gt 29, 3) := by decide +kernel
theorem dX1_storedAgo_10 : decode cX1_storedAgo 10 = .ok (.aload_n 0, 1) := by decide +kernel
theorem dX1_storedAgo_11 : decode cX1_storedAgo 11 = .ok (.iload_n 2, 1) := by decide +kernel
theorem dX1_storedAgo_12 : decode cX1_storedAgo 12 = .ok (.invokevirtual 25, 3) := by decide +kernel
theorem dX1_storedAgo_15 : decode cX1_storedAgo 15 = .ok (.astore_n 3, 1) := by decide +kernel
theorem dX1_storedAgo_16 : decode cX1_storedAgo 16 = .ok (.aload_n 3, 1) := by decide +kernel
theorem dX1_storedAgo_17 : decode cX1_storedAgo 17 = .ok (.ifnull 13, 3) := by decide +kernel
theorem dX1_storedAgo_20 : decode cX1_storedAgo 20 = .ok (.aload_n 3, 1) := by decide +kernel
theorem dX1_storedAgo_21 : decode cX1_storedAgo 21 = .ok (.getfield 32, 3) := by decide +kernel
theorem dX1_storedAgo_24 : decode cX1_storedAgo 24 = .ok (.iload_n 1, 1) := by decide +kernel
theorem dX1_storedAgo_25 : decode cX1_storedAgo 25 = .ok (.if_icmp .ne 5, 3) := by decide +kernel
theorem dX1_storedAgo_28 : decode cX1_storedAgo 28 = .ok (.iload_n 2, 1) := by decide +kernel
theorem dX1_storedAgo_29 : decode cX1_storedAgo 29 = .ok (.ireturn, 1) := by decide +kernel
theorem dX1_storedAgo_30 : decode cX1_storedAgo 30 = .ok (.iinc 2 1, 3) := by decide +kernel
theorem dX1_storedAgo_33 : decode cX1_storedAgo 33 = .ok (.goto (-31), 3) := by decide +kernel
theorem dX1_storedAgo_36 : decode cX1_storedAgo 36 = .ok (.iconst 0, 1) := by decide +kernel
theorem dX1_storedAgo_37 : decode cX1_storedAgo 37 = .ok (.ireturn, 1) := by decide +kernel
theorem dX1_writeSteps_0 : decode cX1_writeSteps 0 = .ok (.aload_n 1, 1) := by decide +kernel
theorem dX1_writeSteps_1 : decode cX1_writeSteps 1 = .ok (.iconst 0, 1) := by decide +kernel
theorem dX1_writeSteps_2 : decode cX1_writeSteps 2 = .ok (.invokevirtual 38, 3) := by decide +kernel
theorem dX1_writeSteps_5 : decode cX1_writeSteps 5 = .ok (.iconst 0, 1) := by decide +kernel
theorem dX1_writeSteps_6 : decode cX1_writeSteps 6 = .ok (.istore_n 2, 1) := by decide +kernel
theorem dX1_writeSteps_7 : decode cX1_writeSteps 7 = .ok (.iload_n 2, 1) := by decide +kernel
theorem dX1_writeSteps_8 : decode cX1_writeSteps 8 = .ok (.aload_n 0, 1) := by decide +kernel
theorem dX1_writeSteps_9 : decode cX1_writeSteps 9 = .ok (.getfield 18, 3) := by decide +kernel
theorem dX1_writeSteps_12 : decode cX1_writeSteps 12 = .ok (.if_icmp .ge 18, 3) := by decide +kernel
theorem dX1_writeSteps_15 : decode cX1_writeSteps 15 = .ok (.aload_n 1, 1) := by decide +kernel
theorem dX1_writeSteps_16 : decode cX1_writeSteps 16 = .ok (.aload_n 0, 1) := by decide +kernel
theorem dX1_writeSteps_17 : decode cX1_writeSteps 17 = .ok (.iload_n 2, 1) := by decide +kernel
theorem dX1_writeSteps_18 : decode cX1_writeSteps 18 = .ok (.invokevirtual 44, 3) := by decide +kernel
theorem dX1_writeSteps_21 : decode cX1_writeSteps 21 = .ok (.invokevirtual 48, 3) := by decide +kernel
theorem dX1_writeSteps_24 : decode cX1_writeSteps 24 = .ok (.iinc 2 1, 3) := by decide +kernel
theorem dX1_writeSteps_27 : decode cX1_writeSteps 27 = .ok (.goto (-20), 3) := by decide +kernel
theorem dX1_writeSteps_30 : decode cX1_writeSteps 30 = .ok (.return_, 1) := by decide +kernel
theorem dX1_firstOther_0 : decode cX1_firstOther 0 = .ok (.aload_n 0, 1) := by decide +kernel
theorem dX1_firstOther_1 : decode cX1_firstOther 1 = .ok (.getfield 18, 3) := by decide +kernel
theorem dX1_firstOther_4 : decode cX1_firstOther 4 = .ok (.aload_n 1, 1) := by decide +kernel
theorem dX1_firstOther_5 : decode cX1_firstOther 5 = .ok (.invokevirtual 51, 3) := by decide +kernel
theorem dX1_firstOther_8 : decode cX1_firstOther 8 = .ok (.invokestatic 55, 3) := by decide +kernel
theorem dX1_firstOther_11 : decode cX1_firstOther 11 = .ok (.istore_n 2, 1) := by decide +kernel
theorem dX1_firstOther_12 : decode cX1_firstOther 12 = .ok (.iconst 0, 1) := by decide +kernel
theorem dX1_firstOther_13 : decode cX1_firstOther 13 = .ok (.istore_n 3, 1) := by decide +kernel
theorem dX1_firstOther_14 : decode cX1_firstOther 14 = .ok (.iload_n 3, 1) := by decide +kernel
theorem dX1_firstOther_15 : decode cX1_firstOther 15 = .ok (.iload_n 2, 1) := by decide +kernel
theorem dX1_firstOther_16 : decode cX1_firstOther 16 = .ok (.if_icmp .ge 24, 3) := by decide +kernel
theorem dX1_firstOther_19 : decode cX1_firstOther 19 = .ok (.aload_n 0, 1) := by decide +kernel
theorem dX1_firstOther_20 : decode cX1_firstOther 20 = .ok (.iload_n 3, 1) := by decide +kernel
theorem dX1_firstOther_21 : decode cX1_firstOther 21 = .ok (.invokevirtual 44, 3) := by decide +kernel
theorem dX1_firstOther_24 : decode cX1_firstOther 24 = .ok (.aload_n 1, 1) := by decide +kernel
theorem dX1_firstOther_25 : decode cX1_firstOther 25 = .ok (.iload_n 3, 1) := by decide +kernel
theorem dX1_firstOther_26 : decode cX1_firstOther 26 = .ok (.invokevirtual 61, 3) := by decide +kernel
theorem dX1_firstOther_29 : decode cX1_firstOther 29 = .ok (.if_icmp .eq 5, 3) := by decide +kernel
theorem dX1_firstOther_32 : decode cX1_firstOther 32 = .ok (.iload_n 3, 1) := by decide +kernel
theorem dX1_firstOther_33 : decode cX1_firstOther 33 = .ok (.ireturn, 1) := by decide +kernel
theorem dX1_firstOther_34 : decode cX1_firstOther 34 = .ok (.iinc 3 1, 3) := by decide +kernel
theorem dX1_firstOther_37 : decode cX1_firstOther 37 = .ok (.goto (-23), 3) := by decide +kernel
theorem dX1_firstOther_40 : decode cX1_firstOther 40 = .ok (.iconst (-1), 1) := by decide +kernel
theorem dX1_firstOther_41 : decode cX1_firstOther 41 = .ok (.ireturn, 1) := by decide +kernel
theorem dX2_init_0 : decode cX2_init 0 = .ok (.aload_n 0, 1) := by decide +kernel
theorem dX2_init_1 : decode cX2_init 1 = .ok (.invokespecial 3, 3) := by decide +kernel
theorem dX2_init_4 : decode cX2_init 4 = .ok (.return_, 1) := by decide +kernel
theorem dX2_place_0 : decode cX2_place 0 = .ok (.aload_n 0, 1) := by decide +kernel
theorem dX2_place_1 : decode cX2_place 1 = .ok (.iload_n 1, 1) := by decide +kernel
theorem dX2_place_2 : decode cX2_place 2 = .ok (.putfield 9, 3) := by decide +kernel
theorem dX2_place_5 : decode cX2_place 5 = .ok (.aload_n 0, 1) := by decide +kernel
theorem dX2_place_6 : decode cX2_place 6 = .ok (.iload_n 2, 1) := by decide +kernel
theorem dX2_place_7 : decode cX2_place 7 = .ok (.putfield 15, 3) := by decide +kernel
theorem dX2_place_10 : decode cX2_place 10 = .ok (.aload_n 0, 1) := by decide +kernel
theorem dX2_place_11 : decode cX2_place 11 = .ok (.iconst 1, 1) := by decide +kernel
theorem dX2_place_12 : decode cX2_place 12 = .ok (.putfield 18, 3) := by decide +kernel
theorem dX2_place_15 : decode cX2_place 15 = .ok (.return_, 1) := by decide +kernel
theorem dX2_isHit_0 : decode cX2_isHit 0 = .ok (.aload_n 0, 1) := by decide +kernel
theorem dX2_isHit_1 : decode cX2_isHit 1 = .ok (.getfield 18, 3) := by decide +kernel
theorem dX2_isHit_4 : decode cX2_isHit 4 = .ok (.ifCond .eq 43, 3) := by decide +kernel
theorem dX2_isHit_7 : decode cX2_isHit 7 = .ok (.aload_n 0, 1) := by decide +kernel
theorem dX2_isHit_8 : decode cX2_isHit 8 = .ok (.getfield 9, 3) := by decide +kernel
theorem dX2_isHit_11 : decode cX2_isHit 11 = .ok (.aload_n 1, 1) := by decide +kernel
theorem dX2_isHit_12 : decode cX2_isHit 12 = .ok (.getfield 22, 3) := by decide +kernel
theorem dX2_isHit_15 : decode cX2_isHit 15 = .ok (.if_icmp .ne 32, 3) := by decide +kernel
theorem dX2_isHit_18 : decode cX2_isHit 18 = .ok (.aload_n 1, 1) := by decide +kernel
theorem dX2_isHit_19 : decode cX2_isHit 19 = .ok (.getfield 27, 3) := by decide +kernel
theorem dX2_isHit_22 : decode cX2_isHit 22 = .ok (.ifCond .ne 25, 3) := by decide +kernel
theorem dX2_isHit_25 : decode cX2_isHit 25 = .ok (.aload_n 0, 1) := by decide +kernel
theorem dX2_isHit_26 : decode cX2_isHit 26 = .ok (.aload_n 1, 1) := by decide +kernel
theorem dX2_isHit_27 : decode cX2_isHit 27 = .ok (.getfield 30, 3) := by decide +kernel
theorem dX2_isHit_30 : decode cX2_isHit 30 = .ok (.aload_n 0, 1) := by decide +kernel
theorem dX2_isHit_31 : decode cX2_isHit 31 = .ok (.getfield 34, 3) := by decide +kernel
theorem dX2_isHit_34 : decode cX2_isHit 34 = .ok (.invokevirtual 37, 3) := by decide +kernel
theorem dX2_isHit_37 : decode cX2_isHit 37 = .ok (.invokevirtual 43, 3) := by decide +kernel
theorem dX2_isHit_40 : decode cX2_isHit 40 = .ok (.ifCond .eq 7, 3) := by decide +kernel
theorem dX2_isHit_43 : decode cX2_isHit 43 = .ok (.iconst 1, 1) := by decide +kernel
theorem dX2_isHit_44 : decode cX2_isHit 44 = .ok (.goto 4, 3) := by decide +kernel
theorem dX2_isHit_47 : decode cX2_isHit 47 = .ok (.iconst 0, 1) := by decide +kernel
theorem dX2_isHit_48 : decode cX2_isHit 48 = .ok (.ireturn, 1) := by decide +kernel
theorem dX2_holds_0 : decode cX2_holds 0 = .ok (.aload_n 0, 1) := by decide +kernel
theorem dX2_holds_1 : decode cX2_holds 1 = .ok (.getfield 47, 3) := by decide +kernel
theorem dX2_holds_4 : decode cX2_holds 4 = .ok (.tableswitch 70 1 3 #[28, 42, 56], 28) := by decide +kernel
theorem dX2_holds_32 : decode cX2_holds 32 = .ok (.iload_n 1, 1) := by decide +kernel
theorem dX2_holds_33 : decode cX2_holds 33 = .ok (.aload_n 0, 1) := by decide +kernel
theorem dX2_holds_34 : decode cX2_holds 34 = .ok (.getfield 50, 3) := by decide +kernel
theorem dX2_holds_37 : decode cX2_holds 37 = .ok (.if_icmp .ge 7, 3) := by decide +kernel
theorem dX2_holds_40 : decode cX2_holds 40 = .ok (.iconst 1, 1) := by decide +kernel
theorem dX2_holds_41 : decode cX2_holds 41 = .ok (.goto 4, 3) := by decide +kernel
theorem dX2_holds_44 : decode cX2_holds 44 = .ok (.iconst 0, 1) := by decide +kernel
theorem dX2_holds_45 : decode cX2_holds 45 = .ok (.ireturn, 1) := by decide +kernel
theorem dX2_holds_46 : decode cX2_holds 46 = .ok (.iload_n 1, 1) := by decide +kernel
theorem dX2_holds_47 : decode cX2_holds 47 = .ok (.aload_n 0, 1) := by decide +kernel
theorem dX2_holds_48 : decode cX2_holds 48 = .ok (.getfield 50, 3) := by decide +kernel
theorem dX2_holds_51 : decode cX2_holds 51 = .ok (.if_icmp .ne 7, 3) := by decide +kernel
theorem dX2_holds_54 : decode cX2_holds 54 = .ok (.iconst 1, 1) := by decide +kernel
theorem dX2_holds_55 : decode cX2_holds 55 = .ok (.goto 4, 3) := by decide +kernel
theorem dX2_holds_58 : decode cX2_holds 58 = .ok (.iconst 0, 1) := by decide +kernel
theorem dX2_holds_59 : decode cX2_holds 59 = .ok (.ireturn, 1) := by decide +kernel
theorem dX2_holds_60 : decode cX2_holds 60 = .ok (.iload_n 1, 1) := by decide +kernel
theorem dX2_holds_61 : decode cX2_holds 61 = .ok (.aload_n 0, 1) := by decide +kernel
theorem dX2_holds_62 : decode cX2_holds 62 = .ok (.getfield 50, 3) := by decide +kernel
theorem dX2_holds_65 : decode cX2_holds 65 = .ok (.if_icmp .le 7, 3) := by decide +kernel
theorem dX2_holds_68 : decode cX2_holds 68 = .ok (.iconst 1, 1) := by decide +kernel
theorem dX2_holds_69 : decode cX2_holds 69 = .ok (.goto 4, 3) := by decide +kernel
theorem dX2_holds_72 : decode cX2_holds 72 = .ok (.iconst 0, 1) := by decide +kernel
theorem dX2_holds_73 : decode cX2_holds 73 = .ok (.ireturn, 1) := by decide +kernel
theorem dX2_holds_74 : decode cX2_holds 74 = .ok (.iconst 1, 1) := by decide +kernel
theorem dX2_holds_75 : decode cX2_holds 75 = .ok (.ireturn, 1) := by decide +kernel
theorem dX2_letsPass_0 : decode cX2_letsPass 0 = .ok (.aload_n 0, 1) := by decide +kernel
theorem dX2_letsPass_1 : decode cX2_letsPass 1 = .ok (.getfield 15, 3) := by decide +kernel
theorem dX2_letsPass_4 : decode cX2_letsPass 4 = .ok (.ifCond .ne 5, 3) := by decide +kernel
theorem dX2_letsPass_7 : decode cX2_letsPass 7 = .ok (.iconst 0, 1) := by decide +kernel
theorem dX2_letsPass_8 : decode cX2_letsPass 8 = .ok (.ireturn, 1) := by decide +kernel
theorem dX2_letsPass_9 : decode cX2_letsPass 9 = .ok (.aload_n 0, 1) := by decide +kernel
theorem dX2_letsPass_10 : decode cX2_letsPass 10 = .ok (.dup, 1) := by decide +kernel
theorem dX2_letsPass_11 : decode cX2_letsPass 11 = .ok (.getfield 15, 3) := by decide +kernel
theorem dX2_letsPass_14 : decode cX2_letsPass 14 = .ok (.iconst 1, 1) := by decide +kernel
theorem dX2_letsPass_15 : decode cX2_letsPass 15 = .ok (.isub, 1) := by decide +kernel
theorem dX2_letsPass_16 : decode cX2_letsPass 16 = .ok (.putfield 15, 3) := by decide +kernel
theorem dX2_letsPass_19 : decode cX2_letsPass 19 = .ok (.iconst 1, 1) := by decide +kernel
theorem dX2_letsPass_20 : decode cX2_letsPass 20 = .ok (.ireturn, 1) := by decide +kernel
theorem dX3_init_0 : decode cX3_init 0 = .ok (.aload_n 0, 1) := by decide +kernel
theorem dX3_init_1 : decode cX3_init 1 = .ok (.invokespecial 3, 3) := by decide +kernel
theorem dX3_init_4 : decode cX3_init 4 = .ok (.aload_n 0, 1) := by decide +kernel
theorem dX3_init_5 : decode cX3_init 5 = .ok (.new 9, 3) := by decide +kernel
theorem dX3_init_8 : decode cX3_init 8 = .ok (.dup, 1) := by decide +kernel
theorem dX3_init_9 : decode cX3_init 9 = .ok (.bipush 80, 2) := by decide +kernel
theorem dX3_init_11 : decode cX3_init 11 = .ok (.invokespecial 11, 3) := by decide +kernel
theorem dX3_init_14 : decode cX3_init 14 = .ok (.putfield 14, 3) := by decide +kernel
theorem dX3_init_17 : decode cX3_init 17 = .ok (.aload_n 0, 1) := by decide +kernel
theorem dX3_init_18 : decode cX3_init 18 = .ok (.new 9, 3) := by decide +kernel
theorem dX3_init_21 : decode cX3_init 21 = .ok (.dup, 1) := by decide +kernel
theorem dX3_init_22 : decode cX3_init 22 = .ok (.bipush 80, 2) := by decide +kernel
theorem dX3_init_24 : decode cX3_init 24 = .ok (.invokespecial 11, 3) := by decide +kernel
theorem dX3_init_27 : decode cX3_init 27 = .ok (.putfield 20, 3) := by decide +kernel
theorem dX3_init_30 : decode cX3_init 30 = .ok (.aload_n 0, 1) := by decide +kernel
theorem dX3_init_31 : decode cX3_init 31 = .ok (.new 9, 3) := by decide +kernel
theorem dX3_init_34 : decode cX3_init 34 = .ok (.dup, 1) := by decide +kernel
theorem dX3_init_35 : decode cX3_init 35 = .ok (.bipush 80, 2) := by decide +kernel
theorem dX3_init_37 : decode cX3_init 37 = .ok (.invokespecial 11, 3) := by decide +kernel
theorem dX3_init_40 : decode cX3_init 40 = .ok (.putfield 23, 3) := by decide +kernel
theorem dX3_init_43 : decode cX3_init 43 = .ok (.return_, 1) := by decide +kernel
theorem dX3_allows_0 : decode cX3_allows 0 = .ok (.iload_n 0, 1) := by decide +kernel
theorem dX3_allows_1 : decode cX3_allows 1 = .ok (.bipush 12, 2) := by decide +kernel
theorem dX3_allows_3 : decode cX3_allows 3 = .ok (.if_icmp .eq 9, 3) := by decide +kernel
theorem dX3_allows_6 : decode cX3_allows 6 = .ok (.iload_n 0, 1) := by decide +kernel
theorem dX3_allows_7 : decode cX3_allows 7 = .ok (.bipush 13, 2) := by decide +kernel
theorem dX3_allows_9 : decode cX3_allows 9 = .ok (.if_icmp .ne 8, 3) := by decide +kernel
theorem dX3_allows_12 : decode cX3_allows 12 = .ok (.iload_n 1, 1) := by decide +kernel
theorem dX3_allows_13 : decode cX3_allows 13 = .ok (.invokestatic 26, 3) := by decide +kernel
theorem dX3_allows_16 : decode cX3_allows 16 = .ok (.ireturn, 1) := by decide +kernel
theorem dX3_allows_17 : decode cX3_allows 17 = .ok (.iload_n 0, 1) := by decide +kernel
theorem dX3_allows_18 : decode cX3_allows 18 = .ok (.bipush 16, 2) := by decide +kernel
theorem dX3_allows_20 : decode cX3_allows 20 = .ok (.if_icmp .eq 15, 3) := by decide +kernel
theorem dX3_allows_23 : decode cX3_allows 23 = .ok (.iload_n 0, 1) := by decide +kernel
theorem dX3_allows_24 : decode cX3_allows 24 = .ok (.bipush 17, 2) := by decide +kernel
theorem dX3_allows_26 : decode cX3_allows 26 = .ok (.if_icmp .eq 9, 3) := by decide +kernel
theorem dX3_allows_29 : decode cX3_allows 29 = .ok (.iload_n 0, 1) := by decide +kernel
theorem dX3_allows_30 : decode cX3_allows 30 = .ok (.bipush 18, 2) := by decide +kernel
theorem dX3_allows_32 : decode cX3_allows 32 = .ok (.if_icmp .ne 19, 3) := by decide +kernel
theorem dX3_allows_35 : decode cX3_allows 35 = .ok (.iload_n 1, 1) := by decide +kernel
theorem dX3_allows_36 : decode cX3_allows 36 = .ok (.ifCond .lt 13, 3) := by decide +kernel
theorem dX3_allows_39 : decode cX3_allows 39 = .ok (.iload_n 1, 1) := by decide +kernel
theorem dX3_allows_40 : decode cX3_allows 40 = .ok (.bipush 80, 2) := by decide +kernel
theorem dX3_allows_42 : decode cX3_allows 42 = .ok (.if_icmp .gt 7, 3) := by decide +kernel
theorem dX3_allows_45 : decode cX3_allows 45 = .ok (.iconst 1, 1) := by decide +kernel
theorem dX3_allows_46 : decode cX3_allows 46 = .ok (.goto 4, 3) := by decide +kernel
theorem dX3_allows_49 : decode cX3_allows 49 = .ok (.iconst 0, 1) := by decide +kernel
theorem dX3_allows_50 : decode cX3_allows 50 = .ok (.ireturn, 1) := by decide +kernel
theorem dX3_allows_51 : decode cX3_allows 51 = .ok (.iload_n 0, 1) := by decide +kernel
theorem dX3_allows_52 : decode cX3_allows 52 = .ok (.ifCond .lt 13, 3) := by decide +kernel
theorem dX3_allows_55 : decode cX3_allows 55 = .ok (.iload_n 0, 1) := by decide +kernel
theorem dX3_allows_56 : decode cX3_allows 56 = .ok (.bipush 22, 2) := by decide +kernel
theorem dX3_allows_58 : decode cX3_allows 58 = .ok (.if_icmp .gt 7, 3) := by decide +kernel
theorem dX3_allows_61 : decode cX3_allows 61 = .ok (.iconst 1, 1) := by decide +kernel
theorem dX3_allows_62 : decode cX3_allows 62 = .ok (.goto 4, 3) := by decide +kernel
theorem dX3_allows_65 : decode cX3_allows 65 = .ok (.iconst 0, 1) := by decide +kernel
theorem dX3_allows_66 : decode cX3_allows 66 = .ok (.ireturn, 1) := by decide +kernel
theorem dX3_size_0 : decode cX3_size 0 = .ok (.aload_n 0, 1) := by decide +kernel
theorem dX3_size_1 : decode cX3_size 1 = .ok (.getfield 14, 3) := by decide +kernel
theorem dX3_size_4 : decode cX3_size 4 = .ok (.invokevirtual 30, 3) := by decide +kernel
theorem dX3_size_7 : decode cX3_size 7 = .ok (.ireturn, 1) := by decide +kernel
theorem dX3_isFull_0 : decode cX3_isFull 0 = .ok (.aload_n 0, 1) := by decide +kernel
theorem dX3_isFull_1 : decode cX3_isFull 1 = .ok (.getfield 14, 3) := by decide +kernel
theorem dX3_isFull_4 : decode cX3_isFull 4 = .ok (.invokevirtual 34, 3) := by decide +kernel
theorem dX3_isFull_7 : decode cX3_isFull 7 = .ok (.ireturn, 1) := by decide +kernel
theorem dX3_has_0 : decode cX3_has 0 = .ok (.aload_n 0, 1) := by decide +kernel
theorem dX3_has_1 : decode cX3_has 1 = .ok (.getfield 14, 3) := by decide +kernel
theorem dX3_has_4 : decode cX3_has 4 = .ok (.iload_n 1, 1) := by decide +kernel
theorem dX3_has_5 : decode cX3_has 5 = .ok (.invokevirtual 38, 3) := by decide +kernel
theorem dX3_has_8 : decode cX3_has 8 = .ok (.ireturn, 1) := by decide +kernel
theorem dX3_codeAt_0 : decode cX3_codeAt 0 = .ok (.aload_n 0, 1) := by decide +kernel
theorem dX3_codeAt_1 : decode cX3_codeAt 1 = .ok (.getfield 14, 3) := by decide +kernel
theorem dX3_codeAt_4 : decode cX3_codeAt 4 = .ok (.iload_n 1, 1) := by decide +kernel
theorem dX3_codeAt_5 : decode cX3_codeAt 5 = .ok (.invokevirtual 41, 3) := by decide +kernel
theorem dX3_codeAt_8 : decode cX3_codeAt 8 = .ok (.ireturn, 1) := by decide +kernel
theorem dX3_numberAt_0 : decode cX3_numberAt 0 = .ok (.aload_n 0, 1) := by decide +kernel
theorem dX3_numberAt_1 : decode cX3_numberAt 1 = .ok (.getfield 20, 3) := by decide +kernel
theorem dX3_numberAt_4 : decode cX3_numberAt 4 = .ok (.iload_n 1, 1) := by decide +kernel
theorem dX3_numberAt_5 : decode cX3_numberAt 5 = .ok (.invokevirtual 41, 3) := by decide +kernel
theorem dX3_numberAt_8 : decode cX3_numberAt 8 = .ok (.ireturn, 1) := by decide +kernel
theorem dX3_timesAt_0 : decode cX3_timesAt 0 = .ok (.aload_n 0, 1) := by decide +kernel
theorem dX3_timesAt_1 : decode cX3_timesAt 1 = .ok (.getfield 23, 3) := by decide +kernel
theorem dX3_timesAt_4 : decode cX3_timesAt 4 = .ok (.iload_n 1, 1) := by decide +kernel
theorem dX3_timesAt_5 : decode cX3_timesAt 5 = .ok (.invokevirtual 41, 3) := by decide +kernel
theorem dX3_timesAt_8 : decode cX3_timesAt 8 = .ok (.ireturn, 1) := by decide +kernel
theorem dX3_add_0 : decode cX3_add 0 = .ok (.aload_n 0, 1) := by decide +kernel
theorem dX3_add_1 : decode cX3_add 1 = .ok (.getfield 14, 3) := by decide +kernel
theorem dX3_add_4 : decode cX3_add 4 = .ok (.iload_n 1, 1) := by decide +kernel
theorem dX3_add_5 : decode cX3_add 5 = .ok (.invokevirtual 45, 3) := by decide +kernel
theorem dX3_add_8 : decode cX3_add 8 = .ok (.aload_n 0, 1) := by decide +kernel
theorem dX3_add_9 : decode cX3_add 9 = .ok (.getfield 20, 3) := by decide +kernel
theorem dX3_add_12 : decode cX3_add 12 = .ok (.iload_n 2, 1) := by decide +kernel
theorem dX3_add_13 : decode cX3_add 13 = .ok (.invokevirtual 45, 3) := by decide +kernel
theorem dX3_add_16 : decode cX3_add 16 = .ok (.aload_n 0, 1) := by decide +kernel
theorem dX3_add_17 : decode cX3_add 17 = .ok (.getfield 23, 3) := by decide +kernel
theorem dX3_add_20 : decode cX3_add 20 = .ok (.iconst 0, 1) := by decide +kernel
theorem dX3_add_21 : decode cX3_add 21 = .ok (.invokevirtual 45, 3) := by decide +kernel
theorem dX3_add_24 : decode cX3_add 24 = .ok (.return_, 1) := by decide +kernel
theorem dX3_countTime_0 : decode cX3_countTime 0 = .ok (.aload_n 0, 1) := by decide +kernel
theorem dX3_countTime_1 : decode cX3_countTime 1 = .ok (.getfield 23, 3) := by decide +kernel
theorem dX3_countTime_4 : decode cX3_countTime 4 = .ok (.iload_n 1, 1) := by decide +kernel
theorem dX3_countTime_5 : decode cX3_countTime 5 = .ok (.aload_n 0, 1) := by decide +kernel
theorem dX3_countTime_6 : decode cX3_countTime 6 = .ok (.getfield 23, 3) := by decide +kernel
theorem dX3_countTime_9 : decode cX3_countTime 9 = .ok (.iload_n 1, 1) := by decide +kernel
theorem dX3_countTime_10 : decode cX3_countTime 10 = .ok (.invokevirtual 41, 3) := by decide +kernel
theorem dX3_countTime_13 : decode cX3_countTime 13 = .ok (.iconst 1, 1) := by decide +kernel
theorem dX3_countTime_14 : decode cX3_countTime 14 = .ok (.iadd, 1) := by decide +kernel
theorem dX3_countTime_15 : decode cX3_countTime 15 = .ok (.invokevirtual 48, 3) := by decide +kernel
theorem dX3_countTime_18 : decode cX3_countTime 18 = .ok (.return_, 1) := by decide +kernel
theorem dX3_forgetTimes_0 : decode cX3_forgetTimes 0 = .ok (.iconst 0, 1) := by decide +kernel
theorem dX3_forgetTimes_1 : decode cX3_forgetTimes 1 = .ok (.istore_n 1, 1) := by decide +kernel
theorem dX3_forgetTimes_2 : decode cX3_forgetTimes 2 = .ok (.iload_n 1, 1) := by decide +kernel
theorem dX3_forgetTimes_3 : decode cX3_forgetTimes 3 = .ok (.aload_n 0, 1) := by decide +kernel
theorem dX3_forgetTimes_4 : decode cX3_forgetTimes 4 = .ok (.getfield 23, 3) := by decide +kernel
theorem dX3_forgetTimes_7 : decode cX3_forgetTimes 7 = .ok (.invokevirtual 30, 3) := by decide +kernel
theorem dX3_forgetTimes_10 : decode cX3_forgetTimes 10 = .ok (.if_icmp .ge 18, 3) := by decide +kernel
theorem dX3_forgetTimes_13 : decode cX3_forgetTimes 13 = .ok (.aload_n 0, 1) := by decide +kernel
theorem dX3_forgetTimes_14 : decode cX3_forgetTimes 14 = .ok (.getfield 23, 3) := by decide +kernel
theorem dX3_forgetTimes_17 : decode cX3_forgetTimes 17 = .ok (.iload_n 1, 1) := by decide +kernel
theorem dX3_forgetTimes_18 : decode cX3_forgetTimes 18 = .ok (.iconst 0, 1) := by decide +kernel
theorem dX3_forgetTimes_19 : decode cX3_forgetTimes 19 = .ok (.invokevirtual 48, 3) := by decide +kernel
theorem dX3_forgetTimes_22 : decode cX3_forgetTimes 22 = .ok (.iinc 1 1, 3) := by decide +kernel
theorem dX3_forgetTimes_25 : decode cX3_forgetTimes 25 = .ok (.goto (-23), 3) := by decide +kernel
theorem dX3_forgetTimes_28 : decode cX3_forgetTimes 28 = .ok (.return_, 1) := by decide +kernel
theorem dX4_init_0 : decode cX4_init 0 = .ok (.aload_n 0, 1) := by decide +kernel
theorem dX4_init_1 : decode cX4_init 1 = .ok (.invokespecial 1, 3) := by decide +kernel
theorem dX4_init_4 : decode cX4_init 4 = .ok (.aload_n 0, 1) := by decide +kernel
theorem dX4_init_5 : decode cX4_init 5 = .ok (.iload_n 1, 1) := by decide +kernel
theorem dX4_init_6 : decode cX4_init 6 = .ok (.iconst 0, 1) := by decide +kernel
theorem dX4_init_7 : decode cX4_init 7 = .ok (.invokestatic 7, 3) := by decide +kernel
theorem dX4_init_10 : decode cX4_init 10 = .ok (.newarray .int, 2) := by decide +kernel
theorem dX4_init_12 : decode cX4_init 12 = .ok (.putfield 13, 3) := by decide +kernel
theorem dX4_init_15 : decode cX4_init 15 = .ok (.return_, 1) := by decide +kernel
theorem dX4_size_0 : decode cX4_size 0 = .ok (.aload_n 0, 1) := by decide +kernel
theorem dX4_size_1 : decode cX4_size 1 = .ok (.getfield 19, 3) := by decide +kernel
theorem dX4_size_4 : decode cX4_size 4 = .ok (.ireturn, 1) := by decide +kernel
theorem dX4_isFull_0 : decode cX4_isFull 0 = .ok (.aload_n 0, 1) := by decide +kernel
theorem dX4_isFull_1 : decode cX4_isFull 1 = .ok (.getfield 19, 3) := by decide +kernel
theorem dX4_isFull_4 : decode cX4_isFull 4 = .ok (.aload_n 0, 1) := by decide +kernel
theorem dX4_isFull_5 : decode cX4_isFull 5 = .ok (.getfield 13, 3) := by decide +kernel
theorem dX4_isFull_8 : decode cX4_isFull 8 = .ok (.arraylength, 1) := by decide +kernel
theorem dX4_isFull_9 : decode cX4_isFull 9 = .ok (.if_icmp .lt 7, 3) := by decide +kernel
theorem dX4_isFull_12 : decode cX4_isFull 12 = .ok (.iconst 1, 1) := by decide +kernel
theorem dX4_isFull_13 : decode cX4_isFull 13 = .ok (.goto 4, 3) := by decide +kernel
theorem dX4_isFull_16 : decode cX4_isFull 16 = .ok (.iconst 0, 1) := by decide +kernel
theorem dX4_isFull_17 : decode cX4_isFull 17 = .ok (.ireturn, 1) := by decide +kernel
theorem dX4_has_0 : decode cX4_has 0 = .ok (.iload_n 1, 1) := by decide +kernel
theorem dX4_has_1 : decode cX4_has 1 = .ok (.ifCond .lt 15, 3) := by decide +kernel
theorem dX4_has_4 : decode cX4_has 4 = .ok (.iload_n 1, 1) := by decide +kernel
theorem dX4_has_5 : decode cX4_has 5 = .ok (.aload_n 0, 1) := by decide +kernel
theorem dX4_has_6 : decode cX4_has 6 = .ok (.getfield 19, 3) := by decide +kernel
theorem dX4_has_9 : decode cX4_has 9 = .ok (.if_icmp .ge 7, 3) := by decide +kernel
theorem dX4_has_12 : decode cX4_has 12 = .ok (.iconst 1, 1) := by decide +kernel
theorem dX4_has_13 : decode cX4_has 13 = .ok (.goto 4, 3) := by decide +kernel
theorem dX4_has_16 : decode cX4_has 16 = .ok (.iconst 0, 1) := by decide +kernel
theorem dX4_has_17 : decode cX4_has 17 = .ok (.ireturn, 1) := by decide +kernel
theorem dX4_get_0 : decode cX4_get 0 = .ok (.iload_n 1, 1) := by decide +kernel
theorem dX4_get_1 : decode cX4_get 1 = .ok (.ifCond .lt 20, 3) := by decide +kernel
theorem dX4_get_4 : decode cX4_get 4 = .ok (.iload_n 1, 1) := by decide +kernel
theorem dX4_get_5 : decode cX4_get 5 = .ok (.aload_n 0, 1) := by decide +kernel
theorem dX4_get_6 : decode cX4_get 6 = .ok (.getfield 19, 3) := by decide +kernel
theorem dX4_get_9 : decode cX4_get 9 = .ok (.if_icmp .ge 12, 3) := by decide +kernel
theorem dX4_get_12 : decode cX4_get 12 = .ok (.aload_n 0, 1) := by decide +kernel
theorem dX4_get_13 : decode cX4_get 13 = .ok (.getfield 13, 3) := by decide +kernel
theorem dX4_get_16 : decode cX4_get 16 = .ok (.iload_n 1, 1) := by decide +kernel
theorem dX4_get_17 : decode cX4_get 17 = .ok (.iaload, 1) := by decide +kernel
theorem dX4_get_18 : decode cX4_get 18 = .ok (.goto 4, 3) := by decide +kernel
theorem dX4_get_21 : decode cX4_get 21 = .ok (.iconst 0, 1) := by decide +kernel
theorem dX4_get_22 : decode cX4_get 22 = .ok (.ireturn, 1) := by decide +kernel
theorem dX4_fromTop_0 : decode cX4_fromTop 0 = .ok (.aload_n 0, 1) := by decide +kernel
theorem dX4_fromTop_1 : decode cX4_fromTop 1 = .ok (.aload_n 0, 1) := by decide +kernel
theorem dX4_fromTop_2 : decode cX4_fromTop 2 = .ok (.getfield 19, 3) := by decide +kernel
theorem dX4_fromTop_5 : decode cX4_fromTop 5 = .ok (.iconst 1, 1) := by decide +kernel
theorem dX4_fromTop_6 : decode cX4_fromTop 6 = .ok (.isub, 1) := by decide +kernel
theorem dX4_fromTop_7 : decode cX4_fromTop 7 = .ok (.iload_n 1, 1) := by decide +kernel
theorem dX4_fromTop_8 : decode cX4_fromTop 8 = .ok (.isub, 1) := by decide +kernel
theorem dX4_fromTop_9 : decode cX4_fromTop 9 = .ok (.invokevirtual 23, 3) := by decide +kernel
theorem dX4_fromTop_12 : decode cX4_fromTop 12 = .ok (.ireturn, 1) := by decide +kernel
theorem dX4_put_0 : decode cX4_put 0 = .ok (.iload_n 1, 1) := by decide +kernel
theorem dX4_put_1 : decode cX4_put 1 = .ok (.ifCond .lt 18, 3) := by decide +kernel
theorem dX4_put_4 : decode cX4_put 4 = .ok (.iload_n 1, 1) := by decide +kernel
theorem dX4_put_5 : decode cX4_put 5 = .ok (.aload_n 0, 1) := by decide +kernel
theorem dX4_put_6 : decode cX4_put 6 = .ok (.getfield 19, 3) := by decide +kernel
theorem dX4_put_9 : decode cX4_put 9 = .ok (.if_icmp .ge 10, 3) := by decide +kernel
theorem dX4_put_12 : decode cX4_put 12 = .ok (.aload_n 0, 1) := by decide +kernel
theorem dX4_put_13 : decode cX4_put 13 = .ok (.getfield 13, 3) := by decide +kernel
theorem dX4_put_16 : decode cX4_put 16 = .ok (.iload_n 1, 1) := by decide +kernel
theorem dX4_put_17 : decode cX4_put 17 = .ok (.iload_n 2, 1) := by decide +kernel
theorem dX4_put_18 : decode cX4_put 18 = .ok (.iastore, 1) := by decide +kernel
theorem dX4_put_19 : decode cX4_put 19 = .ok (.return_, 1) := by decide +kernel
theorem dX4_putFromTop_0 : decode cX4_putFromTop 0 = .ok (.aload_n 0, 1) := by decide +kernel
theorem dX4_putFromTop_1 : decode cX4_putFromTop 1 = .ok (.aload_n 0, 1) := by decide +kernel
theorem dX4_putFromTop_2 : decode cX4_putFromTop 2 = .ok (.getfield 19, 3) := by decide +kernel
theorem dX4_putFromTop_5 : decode cX4_putFromTop 5 = .ok (.iconst 1, 1) := by decide +kernel
theorem dX4_putFromTop_6 : decode cX4_putFromTop 6 = .ok (.isub, 1) := by decide +kernel
theorem dX4_putFromTop_7 : decode cX4_putFromTop 7 = .ok (.iload_n 1, 1) := by decide +kernel
theorem dX4_putFromTop_8 : decode cX4_putFromTop 8 = .ok (.isub, 1) := by decide +kernel
theorem dX4_putFromTop_9 : decode cX4_putFromTop 9 = .ok (.iload_n 2, 1) := by decide +kernel
theorem dX4_putFromTop_10 : decode cX4_putFromTop 10 = .ok (.invokevirtual 27, 3) := by decide +kernel
theorem dX4_putFromTop_13 : decode cX4_putFromTop 13 = .ok (.return_, 1) := by decide +kernel
theorem dX4_push_0 : decode cX4_push 0 = .ok (.aload_n 0, 1) := by decide +kernel
theorem dX4_push_1 : decode cX4_push 1 = .ok (.getfield 19, 3) := by decide +kernel
theorem dX4_push_4 : decode cX4_push 4 = .ok (.aload_n 0, 1) := by decide +kernel
theorem dX4_push_5 : decode cX4_push 5 = .ok (.getfield 13, 3) := by decide +kernel
theorem dX4_push_8 : decode cX4_push 8 = .ok (.arraylength, 1) := by decide +kernel
theorem dX4_push_9 : decode cX4_push 9 = .ok (.if_icmp .ge 23, 3) := by decide +kernel
theorem dX4_push_12 : decode cX4_push 12 = .ok (.aload_n 0, 1) := by decide +kernel
theorem dX4_push_13 : decode cX4_push 13 = .ok (.getfield 13, 3) := by decide +kernel
theorem dX4_push_16 : decode cX4_push 16 = .ok (.aload_n 0, 1) := by decide +kernel
theorem dX4_push_17 : decode cX4_push 17 = .ok (.getfield 19, 3) := by decide +kernel
theorem dX4_push_20 : decode cX4_push 20 = .ok (.iload_n 1, 1) := by decide +kernel
theorem dX4_push_21 : decode cX4_push 21 = .ok (.iastore, 1) := by decide +kernel
theorem dX4_push_22 : decode cX4_push 22 = .ok (.aload_n 0, 1) := by decide +kernel
theorem dX4_push_23 : decode cX4_push 23 = .ok (.dup, 1) := by decide +kernel
theorem dX4_push_24 : decode cX4_push 24 = .ok (.getfield 19, 3) := by decide +kernel
theorem dX4_push_27 : decode cX4_push 27 = .ok (.iconst 1, 1) := by decide +kernel
theorem dX4_push_28 : decode cX4_push 28 = .ok (.iadd, 1) := by decide +kernel
theorem dX4_push_29 : decode cX4_push 29 = .ok (.putfield 19, 3) := by decide +kernel
theorem dX4_push_32 : decode cX4_push 32 = .ok (.return_, 1) := by decide +kernel
theorem dX4_pop_0 : decode cX4_pop 0 = .ok (.aload_n 0, 1) := by decide +kernel
theorem dX4_pop_1 : decode cX4_pop 1 = .ok (.getfield 19, 3) := by decide +kernel
theorem dX4_pop_4 : decode cX4_pop 4 = .ok (.ifCond .gt 5, 3) := by decide +kernel
theorem dX4_pop_7 : decode cX4_pop 7 = .ok (.iconst 0, 1) := by decide +kernel
theorem dX4_pop_8 : decode cX4_pop 8 = .ok (.ireturn, 1) := by decide +kernel
theorem dX4_pop_9 : decode cX4_pop 9 = .ok (.aload_n 0, 1) := by decide +kernel
theorem dX4_pop_10 : decode cX4_pop 10 = .ok (.dup, 1) := by decide +kernel
theorem dX4_pop_11 : decode cX4_pop 11 = .ok (.getfield 19, 3) := by decide +kernel
theorem dX4_pop_14 : decode cX4_pop 14 = .ok (.iconst 1, 1) := by decide +kernel
theorem dX4_pop_15 : decode cX4_pop 15 = .ok (.isub, 1) := by decide +kernel
theorem dX4_pop_16 : decode cX4_pop 16 = .ok (.putfield 19, 3) := by decide +kernel
theorem dX4_pop_19 : decode cX4_pop 19 = .ok (.aload_n 0, 1) := by decide +kernel
theorem dX4_pop_20 : decode cX4_pop 20 = .ok (.getfield 13, 3) := by decide +kernel
theorem dX4_pop_23 : decode cX4_pop 23 = .ok (.aload_n 0, 1) := by decide +kernel
theorem dX4_pop_24 : decode cX4_pop 24 = .ok (.getfield 19, 3) := by decide +kernel
theorem dX4_pop_27 : decode cX4_pop 27 = .ok (.iaload, 1) := by decide +kernel
theorem dX4_pop_28 : decode cX4_pop 28 = .ok (.ireturn, 1) := by decide +kernel
theorem dX4_resize_0 : decode cX4_resize 0 = .ok (.aload_n 0, 1) := by decide +kernel
theorem dX4_resize_1 : decode cX4_resize 1 = .ok (.iconst 0, 1) := by decide +kernel
theorem dX4_resize_2 : decode cX4_resize 2 = .ok (.iload_n 1, 1) := by decide +kernel
theorem dX4_resize_3 : decode cX4_resize 3 = .ok (.aload_n 0, 1) := by decide +kernel
theorem dX4_resize_4 : decode cX4_resize 4 = .ok (.getfield 13, 3) := by decide +kernel
theorem dX4_resize_7 : decode cX4_resize 7 = .ok (.arraylength, 1) := by decide +kernel
theorem dX4_resize_8 : decode cX4_resize 8 = .ok (.invokestatic 31, 3) := by decide +kernel
theorem dX4_resize_11 : decode cX4_resize 11 = .ok (.invokestatic 7, 3) := by decide +kernel
theorem dX4_resize_14 : decode cX4_resize 14 = .ok (.putfield 19, 3) := by decide +kernel
theorem dX4_resize_17 : decode cX4_resize 17 = .ok (.return_, 1) := by decide +kernel
theorem dX4_fillWithZeros_0 : decode cX4_fillWithZeros 0 = .ok (.aload_n 0, 1) := by decide +kernel
theorem dX4_fillWithZeros_1 : decode cX4_fillWithZeros 1 = .ok (.aload_n 0, 1) := by decide +kernel
theorem dX4_fillWithZeros_2 : decode cX4_fillWithZeros 2 = .ok (.getfield 13, 3) := by decide +kernel
theorem dX4_fillWithZeros_5 : decode cX4_fillWithZeros 5 = .ok (.arraylength, 1) := by decide +kernel
theorem dX4_fillWithZeros_6 : decode cX4_fillWithZeros 6 = .ok (.putfield 19, 3) := by decide +kernel
theorem dX4_fillWithZeros_9 : decode cX4_fillWithZeros 9 = .ok (.iconst 0, 1) := by decide +kernel
theorem dX4_fillWithZeros_10 : decode cX4_fillWithZeros 10 = .ok (.istore_n 1, 1) := by decide +kernel
theorem dX4_fillWithZeros_11 : decode cX4_fillWithZeros 11 = .ok (.iload_n 1, 1) := by decide +kernel
theorem dX4_fillWithZeros_12 : decode cX4_fillWithZeros 12 = .ok (.aload_n 0, 1) := by decide +kernel
theorem dX4_fillWithZeros_13 : decode cX4_fillWithZeros 13 = .ok (.getfield 13, 3) := by decide +kernel
theorem dX4_fillWithZeros_16 : decode cX4_fillWithZeros 16 = .ok (.arraylength, 1) := by decide +kernel
theorem dX4_fillWithZeros_17 : decode cX4_fillWithZeros 17 = .ok (.if_icmp .ge 16, 3) := by decide +kernel
theorem dX4_fillWithZeros_20 : decode cX4_fillWithZeros 20 = .ok (.aload_n 0, 1) := by decide +kernel
theorem dX4_fillWithZeros_21 : decode cX4_fillWithZeros 21 = .ok (.getfield 13, 3) := by decide +kernel
theorem dX4_fillWithZeros_24 : decode cX4_fillWithZeros 24 = .ok (.iload_n 1, 1) := by decide +kernel
theorem dX4_fillWithZeros_25 : decode cX4_fillWithZeros 25 = .ok (.iconst 0, 1) := by decide +kernel
theorem dX4_fillWithZeros_26 : decode cX4_fillWithZeros 26 = .ok (.iastore, 1) := by decide +kernel
theorem dX4_fillWithZeros_27 : decode cX4_fillWithZeros 27 = .ok (.iinc 1 1, 3) := by decide +kernel
theorem dX4_fillWithZeros_30 : decode cX4_fillWithZeros 30 = .ok (.goto (-19), 3) := by decide +kernel
theorem dX4_fillWithZeros_33 : decode cX4_fillWithZeros 33 = .ok (.return_, 1) := by decide +kernel
theorem dX4_copyFrom_0 : decode cX4_copyFrom 0 = .ok (.aload_n 0, 1) := by decide +kernel
theorem dX4_copyFrom_1 : decode cX4_copyFrom 1 = .ok (.aload_n 1, 1) := by decide +kernel
theorem dX4_copyFrom_2 : decode cX4_copyFrom 2 = .ok (.getfield 19, 3) := by decide +kernel
theorem dX4_copyFrom_5 : decode cX4_copyFrom 5 = .ok (.invokevirtual 34, 3) := by decide +kernel
theorem dX4_copyFrom_8 : decode cX4_copyFrom 8 = .ok (.aload_n 1, 1) := by decide +kernel
theorem dX4_copyFrom_9 : decode cX4_copyFrom 9 = .ok (.getfield 13, 3) := by decide +kernel
theorem dX4_copyFrom_12 : decode cX4_copyFrom 12 = .ok (.iconst 0, 1) := by decide +kernel
theorem dX4_copyFrom_13 : decode cX4_copyFrom 13 = .ok (.aload_n 0, 1) := by decide +kernel
theorem dX4_copyFrom_14 : decode cX4_copyFrom 14 = .ok (.getfield 13, 3) := by decide +kernel
theorem dX4_copyFrom_17 : decode cX4_copyFrom 17 = .ok (.iconst 0, 1) := by decide +kernel
theorem dX4_copyFrom_18 : decode cX4_copyFrom 18 = .ok (.aload_n 0, 1) := by decide +kernel
theorem dX4_copyFrom_19 : decode cX4_copyFrom 19 = .ok (.getfield 19, 3) := by decide +kernel
theorem dX4_copyFrom_22 : decode cX4_copyFrom 22 = .ok (.invokestatic 38, 3) := by decide +kernel
theorem dX4_copyFrom_25 : decode cX4_copyFrom 25 = .ok (.return_, 1) := by decide +kernel
theorem dX4_mixedInto_0 : decode cX4_mixedInto 0 = .ok (.lload_n 1, 1) := by decide +kernel
theorem dX4_mixedInto_1 : decode cX4_mixedInto 1 = .ok (.lstore_n 3, 1) := by decide +kernel
theorem dX4_mixedInto_2 : decode cX4_mixedInto 2 = .ok (.iconst 0, 1) := by decide +kernel
theorem dX4_mixedInto_3 : decode cX4_mixedInto 3 = .ok (.istore 5, 2) := by decide +kernel
theorem dX4_mixedInto_5 : decode cX4_mixedInto 5 = .ok (.iload 5, 2) := by decide +kernel
theorem dX4_mixedInto_7 : decode cX4_mixedInto 7 = .ok (.aload_n 0, 1) := by decide +kernel
theorem dX4_mixedInto_8 : decode cX4_mixedInto 8 = .ok (.getfield 19, 3) := by decide +kernel
theorem dX4_mixedInto_11 : decode cX4_mixedInto 11 = .ok (.if_icmp .ge 21, 3) := by decide +kernel
theorem dX4_mixedInto_14 : decode cX4_mixedInto 14 = .ok (.lload_n 3, 1) := by decide +kernel
theorem dX4_mixedInto_15 : decode cX4_mixedInto 15 = .ok (.aload_n 0, 1) := by decide +kernel
theorem dX4_mixedInto_16 : decode cX4_mixedInto 16 = .ok (.getfield 13, 3) := by decide +kernel
theorem dX4_mixedInto_19 : decode cX4_mixedInto 19 = .ok (.iload 5, 2) := by decide +kernel
theorem dX4_mixedInto_21 : decode cX4_mixedInto 21 = .ok (.iaload, 1) := by decide +kernel
theorem dX4_mixedInto_22 : decode cX4_mixedInto 22 = .ok (.invokestatic 44, 3) := by decide +kernel
theorem dX4_mixedInto_25 : decode cX4_mixedInto 25 = .ok (.lstore_n 3, 1) := by decide +kernel
theorem dX4_mixedInto_26 : decode cX4_mixedInto 26 = .ok (.iinc 5 1, 3) := by decide +kernel
theorem dX4_mixedInto_29 : decode cX4_mixedInto 29 = .ok (.goto (-24), 3) := by decide +kernel
theorem dX4_mixedInto_32 : decode cX4_mixedInto 32 = .ok (.lload_n 3, 1) := by decide +kernel
theorem dX4_mixedInto_33 : decode cX4_mixedInto 33 = .ok (.lreturn, 1) := by decide +kernel
theorem dX4_mixedFromTopInto_0 : decode cX4_mixedFromTopInto 0 = .ok (.lload_n 1, 1) := by decide +kernel
theorem dX4_mixedFromTopInto_1 : decode cX4_mixedFromTopInto 1 = .ok (.lstore_n 3, 1) := by decide +kernel
theorem dX4_mixedFromTopInto_2 : decode cX4_mixedFromTopInto 2 = .ok (.iconst 0, 1) := by decide +kernel
theorem dX4_mixedFromTopInto_3 : decode cX4_mixedFromTopInto 3 = .ok (.istore 5, 2) := by decide +kernel
theorem dX4_mixedFromTopInto_5 : decode cX4_mixedFromTopInto 5 = .ok (.iload 5, 2) := by decide +kernel
theorem dX4_mixedFromTopInto_7 : decode cX4_mixedFromTopInto 7 = .ok (.aload_n 0, 1) := by decide +kernel
theorem dX4_mixedFromTopInto_8 : decode cX4_mixedFromTopInto 8 = .ok (.getfield 19, 3) := by decide +kernel
theorem dX4_mixedFromTopInto_11 : decode cX4_mixedFromTopInto 11 = .ok (.if_icmp .ge 20, 3) := by decide +kernel
theorem dX4_mixedFromTopInto_14 : decode cX4_mixedFromTopInto 14 = .ok (.lload_n 3, 1) := by decide +kernel
theorem dX4_mixedFromTopInto_15 : decode cX4_mixedFromTopInto 15 = .ok (.aload_n 0, 1) := by decide +kernel
theorem dX4_mixedFromTopInto_16 : decode cX4_mixedFromTopInto 16 = .ok (.iload 5, 2) := by decide +kernel
theorem dX4_mixedFromTopInto_18 : decode cX4_mixedFromTopInto 18 = .ok (.invokevirtual 50, 3) := by decide +kernel
theorem dX4_mixedFromTopInto_21 : decode cX4_mixedFromTopInto 21 = .ok (.invokestatic 44, 3) := by decide +kernel
theorem dX4_mixedFromTopInto_24 : decode cX4_mixedFromTopInto 24 = .ok (.lstore_n 3, 1) := by decide +kernel
theorem dX4_mixedFromTopInto_25 : decode cX4_mixedFromTopInto 25 = .ok (.iinc 5 1, 3) := by decide +kernel
theorem dX4_mixedFromTopInto_28 : decode cX4_mixedFromTopInto 28 = .ok (.goto (-23), 3) := by decide +kernel
theorem dX4_mixedFromTopInto_31 : decode cX4_mixedFromTopInto 31 = .ok (.lload_n 3, 1) := by decide +kernel
theorem dX4_mixedFromTopInto_32 : decode cX4_mixedFromTopInto 32 = .ok (.lreturn, 1) := by decide +kernel
theorem dX6_init_0 : decode cX6_init 0 = .ok (.aload_n 0, 1) := by decide +kernel
theorem dX6_init_1 : decode cX6_init 1 = .ok (.invokespecial 3, 3) := by decide +kernel
theorem dX6_init_4 : decode cX6_init 4 = .ok (.aload_n 0, 1) := by decide +kernel
theorem dX6_init_5 : decode cX6_init 5 = .ok (.new 9, 3) := by decide +kernel
theorem dX6_init_8 : decode cX6_init 8 = .ok (.dup, 1) := by decide +kernel
theorem dX6_init_9 : decode cX6_init 9 = .ok (.sipush 200, 3) := by decide +kernel
theorem dX6_init_12 : decode cX6_init 12 = .ok (.invokespecial 11, 3) := by decide +kernel
theorem dX6_init_15 : decode cX6_init 15 = .ok (.putfield 14, 3) := by decide +kernel
theorem dX6_init_18 : decode cX6_init 18 = .ok (.aload_n 0, 1) := by decide +kernel
theorem dX6_init_19 : decode cX6_init 19 = .ok (.new 9, 3) := by decide +kernel
theorem dX6_init_22 : decode cX6_init 22 = .ok (.dup, 1) := by decide +kernel
theorem dX6_init_23 : decode cX6_init 23 = .ok (.bipush 20, 2) := by decide +kernel
theorem dX6_init_25 : decode cX6_init 25 = .ok (.invokespecial 11, 3) := by decide +kernel
theorem dX6_init_28 : decode cX6_init 28 = .ok (.putfield 20, 3) := by decide +kernel
theorem dX6_init_31 : decode cX6_init 31 = .ok (.return_, 1) := by decide +kernel
theorem dX7_init_0 : decode cX7_init 0 = .ok (.aload_n 0, 1) := by decide +kernel
theorem dX7_init_1 : decode cX7_init 1 = .ok (.invokespecial 3, 3) := by decide +kernel
theorem dX7_init_4 : decode cX7_init 4 = .ok (.return_, 1) := by decide +kernel
theorem dX7_isMetBy_0 : decode cX7_isMetBy 0 = .ok (.aload_n 0, 1) := by decide +kernel
theorem dX7_isMetBy_1 : decode cX7_isMetBy 1 = .ok (.getfield 15, 3) := by decide +kernel
theorem dX7_isMetBy_4 : decode cX7_isMetBy 4 = .ok (.lookupswitch 54 #[(0, 28), (1, 37)], 28) := by decide +kernel
theorem dX7_isMetBy_32 : decode cX7_isMetBy 32 = .ok (.aload_n 1, 1) := by decide +kernel
theorem dX7_isMetBy_33 : decode cX7_isMetBy 33 = .ok (.aload_n 0, 1) := by decide +kernel
theorem dX7_isMetBy_34 : decode cX7_isMetBy 34 = .ok (.getfield 9, 3) := by decide +kernel
theorem dX7_isMetBy_37 : decode cX7_isMetBy 37 = .ok (.invokevirtual 21, 3) := by decide +kernel
theorem dX7_isMetBy_40 : decode cX7_isMetBy 40 = .ok (.ireturn, 1) := by decide +kernel
theorem dX7_isMetBy_41 : decode cX7_isMetBy 41 = .ok (.aload_n 1, 1) := by decide +kernel
theorem dX7_isMetBy_42 : decode cX7_isMetBy 42 = .ok (.getfield 27, 3) := by decide +kernel
theorem dX7_isMetBy_45 : decode cX7_isMetBy 45 = .ok (.aload_n 0, 1) := by decide +kernel
theorem dX7_isMetBy_46 : decode cX7_isMetBy 46 = .ok (.getfield 9, 3) := by decide +kernel
theorem dX7_isMetBy_49 : decode cX7_isMetBy 49 = .ok (.if_icmp .ne 7, 3) := by decide +kernel
theorem dX7_isMetBy_52 : decode cX7_isMetBy 52 = .ok (.iconst 1, 1) := by decide +kernel
theorem dX7_isMetBy_53 : decode cX7_isMetBy 53 = .ok (.goto 4, 3) := by decide +kernel
theorem dX7_isMetBy_56 : decode cX7_isMetBy 56 = .ok (.iconst 0, 1) := by decide +kernel
theorem dX7_isMetBy_57 : decode cX7_isMetBy 57 = .ok (.ireturn, 1) := by decide +kernel
theorem dX7_isMetBy_58 : decode cX7_isMetBy 58 = .ok (.aload_n 1, 1) := by decide +kernel
theorem dX7_isMetBy_59 : decode cX7_isMetBy 59 = .ok (.aload_n 0, 1) := by decide +kernel
theorem dX7_isMetBy_60 : decode cX7_isMetBy 60 = .ok (.getfield 9, 3) := by decide +kernel
theorem dX7_isMetBy_63 : decode cX7_isMetBy 63 = .ok (.invokevirtual 21, 3) := by decide +kernel
theorem dX7_isMetBy_66 : decode cX7_isMetBy 66 = .ok (.ifCond .eq 18, 3) := by decide +kernel
theorem dX7_isMetBy_69 : decode cX7_isMetBy 69 = .ok (.aload_n 1, 1) := by decide +kernel
theorem dX7_isMetBy_70 : decode cX7_isMetBy 70 = .ok (.getfield 28, 3) := by decide +kernel
theorem dX7_isMetBy_73 : decode cX7_isMetBy 73 = .ok (.aload_n 0, 1) := by decide +kernel
theorem dX7_isMetBy_74 : decode cX7_isMetBy 74 = .ok (.getfield 18, 3) := by decide +kernel
theorem dX7_isMetBy_77 : decode cX7_isMetBy 77 = .ok (.if_icmp .ne 7, 3) := by decide +kernel
theorem dX7_isMetBy_80 : decode cX7_isMetBy 80 = .ok (.iconst 1, 1) := by decide +kernel
theorem dX7_isMetBy_81 : decode cX7_isMetBy 81 = .ok (.goto 4, 3) := by decide +kernel
theorem dX7_isMetBy_84 : decode cX7_isMetBy 84 = .ok (.iconst 0, 1) := by decide +kernel
theorem dX7_isMetBy_85 : decode cX7_isMetBy 85 = .ok (.ireturn, 1) := by decide +kernel
end
section
theorem dX5_init_0 : decode cX5_init 0 = .ok (.aload_n 0, 1) := by decide +kernel
theorem dX5_init_1 : decode cX5_init 1 = .ok (.invokespecial 3, 3) := by decide +kernel
theorem dX5_init_4 : decode cX5_init 4 = .ok (.aload_n 0, 1) := by decide +kernel
theorem dX5_init_5 : decode cX5_init 5 = .ok (.new 9, 3) := by decide +kernel
theorem dX5_init_8 : decode cX5_init 8 = .ok (.dup, 1) := by decide +kernel
theorem dX5_init_9 : decode cX5_init 9 = .ok (.bipush 24, 2) := by decide +kernel
theorem dX5_init_11 : decode cX5_init 11 = .ok (.invokespecial 11, 3) := by decide +kernel
theorem dX5_init_14 : decode cX5_init 14 = .ok (.putfield 14, 3) := by decide +kernel
theorem dX5_init_17 : decode cX5_init 17 = .ok (.aload_n 0, 1) := by decide +kernel
theorem dX5_init_18 : decode cX5_init 18 = .ok (.new 9, 3) := by decide +kernel
theorem dX5_init_21 : decode cX5_init 21 = .ok (.dup, 1) := by decide +kernel
theorem dX5_init_22 : decode cX5_init 22 = .ok (.bipush 12, 2) := by decide +kernel
theorem dX5_init_24 : decode cX5_init 24 = .ok (.invokespecial 11, 3) := by decide +kernel
theorem dX5_init_27 : decode cX5_init 27 = .ok (.putfield 20, 3) := by decide +kernel
theorem dX5_init_30 : decode cX5_init 30 = .ok (.aload_n 0, 1) := by decide +kernel
theorem dX5_init_31 : decode cX5_init 31 = .ok (.new 9, 3) := by decide +kernel
theorem dX5_init_34 : decode cX5_init 34 = .ok (.dup, 1) := by decide +kernel
theorem dX5_init_35 : decode cX5_init 35 = .ok (.bipush 8, 2) := by decide +kernel
theorem dX5_init_37 : decode cX5_init 37 = .ok (.invokespecial 11, 3) := by decide +kernel
theorem dX5_init_40 : decode cX5_init 40 = .ok (.putfield 23, 3) := by decide +kernel
theorem dX5_init_43 : decode cX5_init 43 = .ok (.aload_n 0, 1) := by decide +kernel
theorem dX5_init_44 : decode cX5_init 44 = .ok (.new 9, 3) := by decide +kernel
theorem dX5_init_47 : decode cX5_init 47 = .ok (.dup, 1) := by decide +kernel
theorem dX5_init_48 : decode cX5_init 48 = .ok (.bipush 30, 2) := by decide +kernel
theorem dX5_init_50 : decode cX5_init 50 = .ok (.invokespecial 11, 3) := by decide +kernel
theorem dX5_init_53 : decode cX5_init 53 = .ok (.putfield 26, 3) := by decide +kernel
theorem dX5_init_56 : decode cX5_init 56 = .ok (.aload_n 0, 1) := by decide +kernel
theorem dX5_init_57 : decode cX5_init 57 = .ok (.getfield 20, 3) := by decide +kernel
theorem dX5_init_60 : decode cX5_init 60 = .ok (.invokevirtual 29, 3) := by decide +kernel
theorem dX5_init_63 : decode cX5_init 63 = .ok (.return_, 1) := by decide +kernel
theorem dX5_clear_0 : decode cX5_clear 0 = .ok (.aload_n 0, 1) := by decide +kernel
theorem dX5_clear_1 : decode cX5_clear 1 = .ok (.getfield 14, 3) := by decide +kernel
theorem dX5_clear_4 : decode cX5_clear 4 = .ok (.iconst 0, 1) := by decide +kernel
theorem dX5_clear_5 : decode cX5_clear 5 = .ok (.invokevirtual 32, 3) := by decide +kernel
theorem dX5_clear_8 : decode cX5_clear 8 = .ok (.aload_n 0, 1) := by decide +kernel
theorem dX5_clear_9 : decode cX5_clear 9 = .ok (.getfield 20, 3) := by decide +kernel
theorem dX5_clear_12 : decode cX5_clear 12 = .ok (.invokevirtual 29, 3) := by decide +kernel
theorem dX5_clear_15 : decode cX5_clear 15 = .ok (.aload_n 0, 1) := by decide +kernel
theorem dX5_clear_16 : decode cX5_clear 16 = .ok (.getfield 23, 3) := by decide +kernel
theorem dX5_clear_19 : decode cX5_clear 19 = .ok (.iconst 0, 1) := by decide +kernel
theorem dX5_clear_20 : decode cX5_clear 20 = .ok (.invokevirtual 32, 3) := by decide +kernel
theorem dX5_clear_23 : decode cX5_clear 23 = .ok (.aload_n 0, 1) := by decide +kernel
theorem dX5_clear_24 : decode cX5_clear 24 = .ok (.getfield 26, 3) := by decide +kernel
theorem dX5_clear_27 : decode cX5_clear 27 = .ok (.iconst 0, 1) := by decide +kernel
theorem dX5_clear_28 : decode cX5_clear 28 = .ok (.invokevirtual 32, 3) := by decide +kernel
theorem dX5_clear_31 : decode cX5_clear 31 = .ok (.aload_n 0, 1) := by decide +kernel
theorem dX5_clear_32 : decode cX5_clear 32 = .ok (.iconst 0, 1) := by decide +kernel
theorem dX5_clear_33 : decode cX5_clear 33 = .ok (.putfield 35, 3) := by decide +kernel
theorem dX5_clear_36 : decode cX5_clear 36 = .ok (.aload_n 0, 1) := by decide +kernel
theorem dX5_clear_37 : decode cX5_clear 37 = .ok (.iconst 0, 1) := by decide +kernel
theorem dX5_clear_38 : decode cX5_clear 38 = .ok (.putfield 39, 3) := by decide +kernel
theorem dX5_clear_41 : decode cX5_clear 41 = .ok (.aload_n 0, 1) := by decide +kernel
theorem dX5_clear_42 : decode cX5_clear 42 = .ok (.iconst 0, 1) := by decide +kernel
theorem dX5_clear_43 : decode cX5_clear 43 = .ok (.putfield 42, 3) := by decide +kernel
theorem dX5_clear_46 : decode cX5_clear 46 = .ok (.aload_n 0, 1) := by decide +kernel
theorem dX5_clear_47 : decode cX5_clear 47 = .ok (.iconst 0, 1) := by decide +kernel
theorem dX5_clear_48 : decode cX5_clear 48 = .ok (.putfield 45, 3) := by decide +kernel
theorem dX5_clear_51 : decode cX5_clear 51 = .ok (.return_, 1) := by decide +kernel
theorem dX5_copyFrom_0 : decode cX5_copyFrom 0 = .ok (.aload_n 0, 1) := by decide +kernel
theorem dX5_copyFrom_1 : decode cX5_copyFrom 1 = .ok (.getfield 14, 3) := by decide +kernel
theorem dX5_copyFrom_4 : decode cX5_copyFrom 4 = .ok (.aload_n 1, 1) := by decide +kernel
theorem dX5_copyFrom_5 : decode cX5_copyFrom 5 = .ok (.getfield 14, 3) := by decide +kernel
theorem dX5_copyFrom_8 : decode cX5_copyFrom 8 = .ok (.invokevirtual 48, 3) := by decide +kernel
theorem dX5_copyFrom_11 : decode cX5_copyFrom 11 = .ok (.aload_n 0, 1) := by decide +kernel
theorem dX5_copyFrom_12 : decode cX5_copyFrom 12 = .ok (.getfield 20, 3) := by decide +kernel
theorem dX5_copyFrom_15 : decode cX5_copyFrom 15 = .ok (.aload_n 1, 1) := by decide +kernel
theorem dX5_copyFrom_16 : decode cX5_copyFrom 16 = .ok (.getfield 20, 3) := by decide +kernel
theorem dX5_copyFrom_19 : decode cX5_copyFrom 19 = .ok (.invokevirtual 48, 3) := by decide +kernel
theorem dX5_copyFrom_22 : decode cX5_copyFrom 22 = .ok (.aload_n 0, 1) := by decide +kernel
theorem dX5_copyFrom_23 : decode cX5_copyFrom 23 = .ok (.getfield 23, 3) := by decide +kernel
theorem dX5_copyFrom_26 : decode cX5_copyFrom 26 = .ok (.aload_n 1, 1) := by decide +kernel
theorem dX5_copyFrom_27 : decode cX5_copyFrom 27 = .ok (.getfield 23, 3) := by decide +kernel
theorem dX5_copyFrom_30 : decode cX5_copyFrom 30 = .ok (.invokevirtual 48, 3) := by decide +kernel
theorem dX5_copyFrom_33 : decode cX5_copyFrom 33 = .ok (.aload_n 0, 1) := by decide +kernel
theorem dX5_copyFrom_34 : decode cX5_copyFrom 34 = .ok (.getfield 26, 3) := by decide +kernel
theorem dX5_copyFrom_37 : decode cX5_copyFrom 37 = .ok (.aload_n 1, 1) := by decide +kernel
theorem dX5_copyFrom_38 : decode cX5_copyFrom 38 = .ok (.getfield 26, 3) := by decide +kernel
theorem dX5_copyFrom_41 : decode cX5_copyFrom 41 = .ok (.invokevirtual 48, 3) := by decide +kernel
theorem dX5_copyFrom_44 : decode cX5_copyFrom 44 = .ok (.aload_n 0, 1) := by decide +kernel
theorem dX5_copyFrom_45 : decode cX5_copyFrom 45 = .ok (.aload_n 1, 1) := by decide +kernel
theorem dX5_copyFrom_46 : decode cX5_copyFrom 46 = .ok (.getfield 35, 3) := by decide +kernel
theorem dX5_copyFrom_49 : decode cX5_copyFrom 49 = .ok (.putfield 35, 3) := by decide +kernel
theorem dX5_copyFrom_52 : decode cX5_copyFrom 52 = .ok (.aload_n 0, 1) := by decide +kernel
theorem dX5_copyFrom_53 : decode cX5_copyFrom 53 = .ok (.aload_n 1, 1) := by decide +kernel
theorem dX5_copyFrom_54 : decode cX5_copyFrom 54 = .ok (.getfield 39, 3) := by decide +kernel
theorem dX5_copyFrom_57 : decode cX5_copyFrom 57 = .ok (.putfield 39, 3) := by decide +kernel
theorem dX5_copyFrom_60 : decode cX5_copyFrom 60 = .ok (.aload_n 0, 1) := by decide +kernel
theorem dX5_copyFrom_61 : decode cX5_copyFrom 61 = .ok (.aload_n 1, 1) := by decide +kernel
theorem dX5_copyFrom_62 : decode cX5_copyFrom 62 = .ok (.getfield 42, 3) := by decide +kernel
theorem dX5_copyFrom_65 : decode cX5_copyFrom 65 = .ok (.putfield 42, 3) := by decide +kernel
theorem dX5_copyFrom_68 : decode cX5_copyFrom 68 = .ok (.aload_n 0, 1) := by decide +kernel
theorem dX5_copyFrom_69 : decode cX5_copyFrom 69 = .ok (.aload_n 1, 1) := by decide +kernel
theorem dX5_copyFrom_70 : decode cX5_copyFrom 70 = .ok (.getfield 45, 3) := by decide +kernel
theorem dX5_copyFrom_73 : decode cX5_copyFrom 73 = .ok (.putfield 45, 3) := by decide +kernel
theorem dX5_copyFrom_76 : decode cX5_copyFrom 76 = .ok (.return_, 1) := by decide +kernel
theorem dX5_readies_0 : decode cX5_readies 0 = .ok (.aload_n 0, 1) := by decide +kernel
theorem dX5_readies_1 : decode cX5_readies 1 = .ok (.getfield 39, 3) := by decide +kernel
theorem dX5_readies_4 : decode cX5_readies 4 = .ok (.ifCond .ne 12, 3) := by decide +kernel
theorem dX5_readies_7 : decode cX5_readies 7 = .ok (.aload_n 0, 1) := by decide +kernel
theorem dX5_readies_8 : decode cX5_readies 8 = .ok (.aload_n 0, 1) := by decide +kernel
theorem dX5_readies_9 : decode cX5_readies 9 = .ok (.aload_n 1, 1) := by decide +kernel
theorem dX5_readies_10 : decode cX5_readies 10 = .ok (.invokevirtual 52, 3) := by decide +kernel
theorem dX5_readies_13 : decode cX5_readies 13 = .ok (.putfield 39, 3) := by decide +kernel
theorem dX5_readies_16 : decode cX5_readies 16 = .ok (.aload_n 0, 1) := by decide +kernel
theorem dX5_readies_17 : decode cX5_readies 17 = .ok (.getfield 39, 3) := by decide +kernel
theorem dX5_readies_20 : decode cX5_readies 20 = .ok (.ifCond .ne 7, 3) := by decide +kernel
theorem dX5_readies_23 : decode cX5_readies 23 = .ok (.iconst 1, 1) := by decide +kernel
theorem dX5_readies_24 : decode cX5_readies 24 = .ok (.goto 4, 3) := by decide +kernel
theorem dX5_readies_27 : decode cX5_readies 27 = .ok (.iconst 0, 1) := by decide +kernel
theorem dX5_readies_28 : decode cX5_readies 28 = .ok (.ireturn, 1) := by decide +kernel
theorem dX5_failureOf_0 : decode cX5_failureOf 0 = .ok (.aload_n 1, 1) := by decide +kernel
theorem dX5_failureOf_1 : decode cX5_failureOf 1 = .ok (.aload_n 0, 1) := by decide +kernel
theorem dX5_failureOf_2 : decode cX5_failureOf 2 = .ok (.getfield 35, 3) := by decide +kernel
theorem dX5_failureOf_5 : decode cX5_failureOf 5 = .ok (.invokevirtual 56, 3) := by decide +kernel
theorem dX5_failureOf_8 : decode cX5_failureOf 8 = .ok (.ifCond .ne 6, 3) := by decide +kernel
theorem dX5_failureOf_11 : decode cX5_failureOf 11 = .ok (.bipush 6, 2) := by decide +kernel
theorem dX5_failureOf_13 : decode cX5_failureOf 13 = .ok (.ireturn, 1) := by decide +kernel
theorem dX5_failureOf_14 : decode cX5_failureOf 14 = .ok (.aload_n 1, 1) := by decide +kernel
theorem dX5_failureOf_15 : decode cX5_failureOf 15 = .ok (.aload_n 0, 1) := by decide +kernel
theorem dX5_failureOf_16 : decode cX5_failureOf 16 = .ok (.getfield 35, 3) := by decide +kernel
theorem dX5_failureOf_19 : decode cX5_failureOf 19 = .ok (.invokevirtual 62, 3) := by decide +kernel
theorem dX5_failureOf_22 : decode cX5_failureOf 22 = .ok (.istore_n 2, 1) := by decide +kernel
theorem dX5_failureOf_23 : decode cX5_failureOf 23 = .ok (.aload_n 0, 1) := by decide +kernel
theorem dX5_failureOf_24 : decode cX5_failureOf 24 = .ok (.getfield 14, 3) := by decide +kernel
theorem dX5_failureOf_27 : decode cX5_failureOf 27 = .ok (.invokevirtual 66, 3) := by decide +kernel
theorem dX5_failureOf_30 : decode cX5_failureOf 30 = .ok (.iload_n 2, 1) := by decide +kernel
theorem dX5_failureOf_31 : decode cX5_failureOf 31 = .ok (.invokestatic 70, 3) := by decide +kernel
theorem dX5_failureOf_34 : decode cX5_failureOf 34 = .ok (.if_icmp .lt 19, 3) := by decide +kernel
theorem dX5_failureOf_37 : decode cX5_failureOf 37 = .ok (.iload_n 2, 1) := by decide +kernel
theorem dX5_failureOf_38 : decode cX5_failureOf 38 = .ok (.bipush 19, 2) := by decide +kernel
theorem dX5_failureOf_40 : decode cX5_failureOf 40 = .ok (.if_icmp .ne 15, 3) := by decide +kernel
theorem dX5_failureOf_43 : decode cX5_failureOf 43 = .ok (.aload_n 0, 1) := by decide +kernel
theorem dX5_failureOf_44 : decode cX5_failureOf 44 = .ok (.getfield 23, 3) := by decide +kernel
theorem dX5_failureOf_47 : decode cX5_failureOf 47 = .ok (.invokevirtual 66, 3) := by decide +kernel
theorem dX5_failureOf_50 : decode cX5_failureOf 50 = .ok (.ifCond .ne 5, 3) := by decide +kernel
theorem dX5_failureOf_53 : decode cX5_failureOf 53 = .ok (.iconst 2, 1) := by decide +kernel
theorem dX5_failureOf_54 : decode cX5_failureOf 54 = .ok (.ireturn, 1) := by decide +kernel
theorem dX5_failureOf_55 : decode cX5_failureOf 55 = .ok (.iload_n 2, 1) := by decide +kernel
theorem dX5_failureOf_56 : decode cX5_failureOf 56 = .ok (.bipush 8, 2) := by decide +kernel
theorem dX5_failureOf_58 : decode cX5_failureOf 58 = .ok (.if_icmp .ne 16, 3) := by decide +kernel
theorem dX5_failureOf_61 : decode cX5_failureOf 61 = .ok (.aload_n 0, 1) := by decide +kernel
theorem dX5_failureOf_62 : decode cX5_failureOf 62 = .ok (.getfield 14, 3) := by decide +kernel
theorem dX5_failureOf_65 : decode cX5_failureOf 65 = .ok (.iconst 0, 1) := by decide +kernel
theorem dX5_failureOf_66 : decode cX5_failureOf 66 = .ok (.invokevirtual 73, 3) := by decide +kernel
theorem dX5_failureOf_69 : decode cX5_failureOf 69 = .ok (.ifCond .ne 5, 3) := by decide +kernel
theorem dX5_failureOf_72 : decode cX5_failureOf 72 = .ok (.iconst 4, 1) := by decide +kernel
theorem dX5_failureOf_73 : decode cX5_failureOf 73 = .ok (.ireturn, 1) := by decide +kernel
theorem dX5_failureOf_74 : decode cX5_failureOf 74 = .ok (.iload_n 2, 1) := by decide +kernel
theorem dX5_failureOf_75 : decode cX5_failureOf 75 = .ok (.bipush 14, 2) := by decide +kernel
theorem dX5_failureOf_77 : decode cX5_failureOf 77 = .ok (.if_icmp .eq 9, 3) := by decide +kernel
theorem dX5_failureOf_80 : decode cX5_failureOf 80 = .ok (.iload_n 2, 1) := by decide +kernel
theorem dX5_failureOf_81 : decode cX5_failureOf 81 = .ok (.bipush 15, 2) := by decide +kernel
theorem dX5_failureOf_83 : decode cX5_failureOf 83 = .ok (.if_icmp .ne 19, 3) := by decide +kernel
theorem dX5_failureOf_86 : decode cX5_failureOf 86 = .ok (.aload_n 0, 1) := by decide +kernel
theorem dX5_failureOf_87 : decode cX5_failureOf 87 = .ok (.getfield 14, 3) := by decide +kernel
theorem dX5_failureOf_90 : decode cX5_failureOf 90 = .ok (.iconst 0, 1) := by decide +kernel
theorem dX5_failureOf_91 : decode cX5_failureOf 91 = .ok (.invokevirtual 73, 3) := by decide +kernel
theorem dX5_failureOf_94 : decode cX5_failureOf 94 = .ok (.invokestatic 76, 3) := by decide +kernel
theorem dX5_failureOf_97 : decode cX5_failureOf 97 = .ok (.ifCond .ne 5, 3) := by decide +kernel
theorem dX5_failureOf_100 : decode cX5_failureOf 100 = .ok (.iconst 5, 1) := by decide +kernel
theorem dX5_failureOf_101 : decode cX5_failureOf 101 = .ok (.ireturn, 1) := by decide +kernel
theorem dX5_failureOf_102 : decode cX5_failureOf 102 = .ok (.aload_n 0, 1) := by decide +kernel
theorem dX5_failureOf_103 : decode cX5_failureOf 103 = .ok (.iload_n 2, 1) := by decide +kernel
theorem dX5_failureOf_104 : decode cX5_failureOf 104 = .ok (.invokevirtual 79, 3) := by decide +kernel
theorem dX5_failureOf_107 : decode cX5_failureOf 107 = .ok (.ifCond .eq 7, 3) := by decide +kernel
theorem dX5_failureOf_110 : decode cX5_failureOf 110 = .ok (.iconst 3, 1) := by decide +kernel
theorem dX5_failureOf_111 : decode cX5_failureOf 111 = .ok (.goto 4, 3) := by decide +kernel
theorem dX5_failureOf_114 : decode cX5_failureOf 114 = .ok (.iconst 0, 1) := by decide +kernel
theorem dX5_failureOf_115 : decode cX5_failureOf 115 = .ok (.ireturn, 1) := by decide +kernel
theorem dX5_needOnStack_0 : decode cX5_needOnStack 0 = .ok (.iload_n 0, 1) := by decide +kernel
theorem dX5_needOnStack_1 : decode cX5_needOnStack 1 = .ok (.tableswitch 111 0 22 #[107, 109, 109, 111, 111, 111, 111, 111, 111, 111, 111, 109, 107, 109, 109, 111, 107, 109, 107, 107, 107, 109, 107], 107) := by decide +kernel
theorem dX5_needOnStack_108 : decode cX5_needOnStack 108 = .ok (.iconst 0, 1) := by decide +kernel
theorem dX5_needOnStack_109 : decode cX5_needOnStack 109 = .ok (.ireturn, 1) := by decide +kernel
theorem dX5_needOnStack_110 : decode cX5_needOnStack 110 = .ok (.iconst 1, 1) := by decide +kernel
theorem dX5_needOnStack_111 : decode cX5_needOnStack 111 = .ok (.ireturn, 1) := by decide +kernel
theorem dX5_needOnStack_112 : decode cX5_needOnStack 112 = .ok (.iconst 2, 1) := by decide +kernel
theorem dX5_needOnStack_113 : decode cX5_needOnStack 113 = .ok (.ireturn, 1) := by decide +kernel
theorem dX5_isTooFullFor_0 : decode cX5_isTooFullFor 0 = .ok (.iload_n 1, 1) := by decide +kernel
theorem dX5_isTooFullFor_1 : decode cX5_isTooFullFor 1 = .ok (.tableswitch 127 0 21 #[103, 127, 103, 127, 103, 127, 127, 127, 127, 127, 127, 127, 103, 127, 127, 127, 127, 127, 111, 127, 103, 119], 103) := by decide +kernel
theorem dX5_isTooFullFor_104 : decode cX5_isTooFullFor 104 = .ok (.aload_n 0, 1) := by decide +kernel
theorem dX5_isTooFullFor_105 : decode cX5_isTooFullFor 105 = .ok (.getfield 14, 3) := by decide +kernel
theorem dX5_isTooFullFor_108 : decode cX5_isTooFullFor 108 = .ok (.invokevirtual 82, 3) := by decide +kernel
theorem dX5_isTooFullFor_111 : decode cX5_isTooFullFor 111 = .ok (.ireturn, 1) := by decide +kernel
theorem dX5_isTooFullFor_112 : decode cX5_isTooFullFor 112 = .ok (.aload_n 0, 1) := by decide +kernel
theorem dX5_isTooFullFor_113 : decode cX5_isTooFullFor 113 = .ok (.getfield 23, 3) := by decide +kernel
theorem dX5_isTooFullFor_116 : decode cX5_isTooFullFor 116 = .ok (.invokevirtual 82, 3) := by decide +kernel
theorem dX5_isTooFullFor_119 : decode cX5_isTooFullFor 119 = .ok (.ireturn, 1) := by decide +kernel
theorem dX5_isTooFullFor_120 : decode cX5_isTooFullFor 120 = .ok (.aload_n 0, 1) := by decide +kernel
theorem dX5_isTooFullFor_121 : decode cX5_isTooFullFor 121 = .ok (.getfield 26, 3) := by decide +kernel
theorem dX5_isTooFullFor_124 : decode cX5_isTooFullFor 124 = .ok (.invokevirtual 82, 3) := by decide +kernel
theorem dX5_isTooFullFor_127 : decode cX5_isTooFullFor 127 = .ok (.ireturn, 1) := by decide +kernel
theorem dX5_isTooFullFor_128 : decode cX5_isTooFullFor 128 = .ok (.iconst 0, 1) := by decide +kernel
theorem dX5_isTooFullFor_129 : decode cX5_isTooFullFor 129 = .ok (.ireturn, 1) := by decide +kernel
theorem dX5_perform_0 : decode cX5_perform 0 = .ok (.aload_n 1, 1) := by decide +kernel
theorem dX5_perform_1 : decode cX5_perform 1 = .ok (.aload_n 0, 1) := by decide +kernel
theorem dX5_perform_2 : decode cX5_perform 2 = .ok (.getfield 35, 3) := by decide +kernel
theorem dX5_perform_5 : decode cX5_perform 5 = .ok (.invokevirtual 62, 3) := by decide +kernel
theorem dX5_perform_8 : decode cX5_perform 8 = .ok (.istore_n 3, 1) := by decide +kernel
theorem dX5_perform_9 : decode cX5_perform 9 = .ok (.aload_n 1, 1) := by decide +kernel
theorem dX5_perform_10 : decode cX5_perform 10 = .ok (.aload_n 0, 1) := by decide +kernel
theorem dX5_perform_11 : decode cX5_perform 11 = .ok (.getfield 35, 3) := by decide +kernel
theorem dX5_perform_14 : decode cX5_perform 14 = .ok (.invokevirtual 86, 3) := by decide +kernel
theorem dX5_perform_17 : decode cX5_perform 17 = .ok (.istore 4, 2) := by decide +kernel
theorem dX5_perform_19 : decode cX5_perform 19 = .ok (.aload_n 0, 1) := by decide +kernel
theorem dX5_perform_20 : decode cX5_perform 20 = .ok (.getfield 35, 3) := by decide +kernel
theorem dX5_perform_23 : decode cX5_perform 23 = .ok (.iconst 1, 1) := by decide +kernel
theorem dX5_perform_24 : decode cX5_perform 24 = .ok (.iadd, 1) := by decide +kernel
theorem dX5_perform_25 : decode cX5_perform 25 = .ok (.istore 5, 2) := by decide +kernel
theorem dX5_perform_27 : decode cX5_perform 27 = .ok (.iload_n 3, 1) := by decide +kernel
theorem dX5_perform_28 : decode cX5_perform 28 = .ok (.tableswitch 374 0 22 #[108, 120, 131, 149, 156, 374, 374, 374, 374, 374, 374, 174, 202, 221, 240, 264, 271, 278, 300, 316, 328, 343, 360], 108) := by decide +kernel
theorem dX5_perform_136 : decode cX5_perform 136 = .ok (.aload_n 0, 1) := by decide +kernel
theorem dX5_perform_137 : decode cX5_perform 137 = .ok (.getfield 14, 3) := by decide +kernel
theorem dX5_perform_140 : decode cX5_perform 140 = .ok (.iload 4, 2) := by decide +kernel
theorem dX5_perform_142 : decode cX5_perform 142 = .ok (.invokevirtual 89, 3) := by decide +kernel
theorem dX5_perform_145 : decode cX5_perform 145 = .ok (.goto 262, 3) := by decide +kernel
theorem dX5_perform_148 : decode cX5_perform 148 = .ok (.aload_n 0, 1) := by decide +kernel
theorem dX5_perform_149 : decode cX5_perform 149 = .ok (.getfield 14, 3) := by decide +kernel
theorem dX5_perform_152 : decode cX5_perform 152 = .ok (.invokevirtual 92, 3) := by decide +kernel
theorem dX5_perform_155 : decode cX5_perform 155 = .ok (.pop, 1) := by decide +kernel
theorem dX5_perform_156 : decode cX5_perform 156 = .ok (.goto 251, 3) := by decide +kernel
theorem dX5_perform_159 : decode cX5_perform 159 = .ok (.aload_n 0, 1) := by decide +kernel
theorem dX5_perform_160 : decode cX5_perform 160 = .ok (.getfield 14, 3) := by decide +kernel
theorem dX5_perform_163 : decode cX5_perform 163 = .ok (.aload_n 0, 1) := by decide +kernel
theorem dX5_perform_164 : decode cX5_perform 164 = .ok (.getfield 14, 3) := by decide +kernel
theorem dX5_perform_167 : decode cX5_perform 167 = .ok (.iconst 0, 1) := by decide +kernel
theorem dX5_perform_168 : decode cX5_perform 168 = .ok (.invokevirtual 73, 3) := by decide +kernel
theorem dX5_perform_171 : decode cX5_perform 171 = .ok (.invokevirtual 89, 3) := by decide +kernel
theorem dX5_perform_174 : decode cX5_perform 174 = .ok (.goto 233, 3) := by decide +kernel
theorem dX5_perform_177 : decode cX5_perform 177 = .ok (.aload_n 0, 1) := by decide +kernel
theorem dX5_perform_178 : decode cX5_perform 178 = .ok (.invokevirtual 95, 3) := by decide +kernel
theorem dX5_perform_181 : decode cX5_perform 181 = .ok (.goto 226, 3) := by decide +kernel
theorem dX5_perform_184 : decode cX5_perform 184 = .ok (.aload_n 0, 1) := by decide +kernel
theorem dX5_perform_185 : decode cX5_perform 185 = .ok (.getfield 14, 3) := by decide +kernel
theorem dX5_perform_188 : decode cX5_perform 188 = .ok (.aload_n 0, 1) := by decide +kernel
theorem dX5_perform_189 : decode cX5_perform 189 = .ok (.getfield 14, 3) := by decide +kernel
theorem dX5_perform_192 : decode cX5_perform 192 = .ok (.iconst 1, 1) := by decide +kernel
theorem dX5_perform_193 : decode cX5_perform 193 = .ok (.invokevirtual 73, 3) := by decide +kernel
theorem dX5_perform_196 : decode cX5_perform 196 = .ok (.invokevirtual 89, 3) := by decide +kernel
theorem dX5_perform_199 : decode cX5_perform 199 = .ok (.goto 208, 3) := by decide +kernel
theorem dX5_perform_202 : decode cX5_perform 202 = .ok (.aload_n 0, 1) := by decide +kernel
theorem dX5_perform_203 : decode cX5_perform 203 = .ok (.getfield 14, 3) := by decide +kernel
theorem dX5_perform_206 : decode cX5_perform 206 = .ok (.aload_n 0, 1) := by decide +kernel
theorem dX5_perform_207 : decode cX5_perform 207 = .ok (.getfield 14, 3) := by decide +kernel
theorem dX5_perform_210 : decode cX5_perform 210 = .ok (.invokevirtual 92, 3) := by decide +kernel
theorem dX5_perform_213 : decode cX5_perform 213 = .ok (.ifCond .ne 7, 3) := by decide +kernel
theorem dX5_perform_216 : decode cX5_perform 216 = .ok (.iconst 1, 1) := by decide +kernel
theorem dX5_perform_217 : decode cX5_perform 217 = .ok (.goto 4, 3) := by decide +kernel
theorem dX5_perform_220 : decode cX5_perform 220 = .ok (.iconst 0, 1) := by decide +kernel
theorem dX5_perform_221 : decode cX5_perform 221 = .ok (.invokestatic 98, 3) := by decide +kernel
theorem dX5_perform_224 : decode cX5_perform 224 = .ok (.invokevirtual 89, 3) := by decide +kernel
theorem dX5_perform_227 : decode cX5_perform 227 = .ok (.goto 180, 3) := by decide +kernel
theorem dX5_perform_230 : decode cX5_perform 230 = .ok (.aload_n 0, 1) := by decide +kernel
theorem dX5_perform_231 : decode cX5_perform 231 = .ok (.getfield 14, 3) := by decide +kernel
theorem dX5_perform_234 : decode cX5_perform 234 = .ok (.aload_n 0, 1) := by decide +kernel
theorem dX5_perform_235 : decode cX5_perform 235 = .ok (.getfield 20, 3) := by decide +kernel
theorem dX5_perform_238 : decode cX5_perform 238 = .ok (.iload 4, 2) := by decide +kernel
theorem dX5_perform_240 : decode cX5_perform 240 = .ok (.invokevirtual 102, 3) := by decide +kernel
theorem dX5_perform_243 : decode cX5_perform 243 = .ok (.invokevirtual 89, 3) := by decide +kernel
theorem dX5_perform_246 : decode cX5_perform 246 = .ok (.goto 161, 3) := by decide +kernel
theorem dX5_perform_249 : decode cX5_perform 249 = .ok (.aload_n 0, 1) := by decide +kernel
theorem dX5_perform_250 : decode cX5_perform 250 = .ok (.getfield 20, 3) := by decide +kernel
theorem dX5_perform_253 : decode cX5_perform 253 = .ok (.iload 4, 2) := by decide +kernel
theorem dX5_perform_255 : decode cX5_perform 255 = .ok (.aload_n 0, 1) := by decide +kernel
theorem dX5_perform_256 : decode cX5_perform 256 = .ok (.getfield 14, 3) := by decide +kernel
theorem dX5_perform_259 : decode cX5_perform 259 = .ok (.invokevirtual 92, 3) := by decide +kernel
theorem dX5_perform_262 : decode cX5_perform 262 = .ok (.invokevirtual 105, 3) := by decide +kernel
theorem dX5_perform_265 : decode cX5_perform 265 = .ok (.goto 142, 3) := by decide +kernel
theorem dX5_perform_268 : decode cX5_perform 268 = .ok (.aload_n 0, 1) := by decide +kernel
theorem dX5_perform_269 : decode cX5_perform 269 = .ok (.getfield 14, 3) := by decide +kernel
theorem dX5_perform_272 : decode cX5_perform 272 = .ok (.aload_n 0, 1) := by decide +kernel
theorem dX5_perform_273 : decode cX5_perform 273 = .ok (.getfield 20, 3) := by decide +kernel
theorem dX5_perform_276 : decode cX5_perform 276 = .ok (.aload_n 0, 1) := by decide +kernel
theorem dX5_perform_277 : decode cX5_perform 277 = .ok (.getfield 14, 3) := by decide +kernel
theorem dX5_perform_280 : decode cX5_perform 280 = .ok (.invokevirtual 92, 3) := by decide +kernel
theorem dX5_perform_283 : decode cX5_perform 283 = .ok (.invokevirtual 102, 3) := by decide +kernel
theorem dX5_perform_286 : decode cX5_perform 286 = .ok (.invokevirtual 89, 3) := by decide +kernel
theorem dX5_perform_289 : decode cX5_perform 289 = .ok (.goto 118, 3) := by decide +kernel
theorem dX5_perform_292 : decode cX5_perform 292 = .ok (.aload_n 0, 1) := by decide +kernel
theorem dX5_perform_293 : decode cX5_perform 293 = .ok (.invokevirtual 109, 3) := by decide +kernel
theorem dX5_perform_296 : decode cX5_perform 296 = .ok (.goto 111, 3) := by decide +kernel
theorem dX5_perform_299 : decode cX5_perform 299 = .ok (.iload 4, 2) := by decide +kernel
theorem dX5_perform_301 : decode cX5_perform 301 = .ok (.istore 5, 2) := by decide +kernel
theorem dX5_perform_303 : decode cX5_perform 303 = .ok (.goto 104, 3) := by decide +kernel
theorem dX5_perform_306 : decode cX5_perform 306 = .ok (.aload_n 0, 1) := by decide +kernel
theorem dX5_perform_307 : decode cX5_perform 307 = .ok (.getfield 14, 3) := by decide +kernel
theorem dX5_perform_310 : decode cX5_perform 310 = .ok (.invokevirtual 92, 3) := by decide +kernel
theorem dX5_perform_313 : decode cX5_perform 313 = .ok (.ifCond .ne 8, 3) := by decide +kernel
theorem dX5_perform_316 : decode cX5_perform 316 = .ok (.iload 4, 2) := by decide +kernel
theorem dX5_perform_318 : decode cX5_perform 318 = .ok (.goto 5, 3) := by decide +kernel
theorem dX5_perform_321 : decode cX5_perform 321 = .ok (.iload 5, 2) := by decide +kernel
theorem dX5_perform_323 : decode cX5_perform 323 = .ok (.istore 5, 2) := by decide +kernel
theorem dX5_perform_325 : decode cX5_perform 325 = .ok (.goto 82, 3) := by decide +kernel
theorem dX5_perform_328 : decode cX5_perform 328 = .ok (.aload_n 0, 1) := by decide +kernel
theorem dX5_perform_329 : decode cX5_perform 329 = .ok (.getfield 23, 3) := by decide +kernel
theorem dX5_perform_332 : decode cX5_perform 332 = .ok (.iload 5, 2) := by decide +kernel
theorem dX5_perform_334 : decode cX5_perform 334 = .ok (.invokevirtual 89, 3) := by decide +kernel
theorem dX5_perform_337 : decode cX5_perform 337 = .ok (.iload 4, 2) := by decide +kernel
theorem dX5_perform_339 : decode cX5_perform 339 = .ok (.istore 5, 2) := by decide +kernel
theorem dX5_perform_341 : decode cX5_perform 341 = .ok (.goto 66, 3) := by decide +kernel
theorem dX5_perform_344 : decode cX5_perform 344 = .ok (.aload_n 0, 1) := by decide +kernel
theorem dX5_perform_345 : decode cX5_perform 345 = .ok (.getfield 23, 3) := by decide +kernel
theorem dX5_perform_348 : decode cX5_perform 348 = .ok (.invokevirtual 92, 3) := by decide +kernel
theorem dX5_perform_351 : decode cX5_perform 351 = .ok (.istore 5, 2) := by decide +kernel
theorem dX5_perform_353 : decode cX5_perform 353 = .ok (.goto 54, 3) := by decide +kernel
theorem dX5_perform_356 : decode cX5_perform 356 = .ok (.aload_n 0, 1) := by decide +kernel
theorem dX5_perform_357 : decode cX5_perform 357 = .ok (.getfield 14, 3) := by decide +kernel
theorem dX5_perform_360 : decode cX5_perform 360 = .ok (.aload_n 0, 1) := by decide +kernel
theorem dX5_perform_361 : decode cX5_perform 361 = .ok (.aload_n 2, 1) := by decide +kernel
theorem dX5_perform_362 : decode cX5_perform 362 = .ok (.invokevirtual 112, 3) := by decide +kernel
theorem dX5_perform_365 : decode cX5_perform 365 = .ok (.invokevirtual 89, 3) := by decide +kernel
theorem dX5_perform_368 : decode cX5_perform 368 = .ok (.goto 39, 3) := by decide +kernel
theorem dX5_perform_371 : decode cX5_perform 371 = .ok (.aload_n 0, 1) := by decide +kernel
theorem dX5_perform_372 : decode cX5_perform 372 = .ok (.getfield 26, 3) := by decide +kernel
theorem dX5_perform_375 : decode cX5_perform 375 = .ok (.aload_n 0, 1) := by decide +kernel
theorem dX5_perform_376 : decode cX5_perform 376 = .ok (.getfield 14, 3) := by decide +kernel
theorem dX5_perform_379 : decode cX5_perform 379 = .ok (.invokevirtual 92, 3) := by decide +kernel
theorem dX5_perform_382 : decode cX5_perform 382 = .ok (.invokevirtual 89, 3) := by decide +kernel
theorem dX5_perform_385 : decode cX5_perform 385 = .ok (.goto 22, 3) := by decide +kernel
theorem dX5_perform_388 : decode cX5_perform 388 = .ok (.aload_n 0, 1) := by decide +kernel
theorem dX5_perform_389 : decode cX5_perform 389 = .ok (.iconst 1, 1) := by decide +kernel
theorem dX5_perform_390 : decode cX5_perform 390 = .ok (.putfield 39, 3) := by decide +kernel
theorem dX5_perform_393 : decode cX5_perform 393 = .ok (.aload_n 0, 1) := by decide +kernel
theorem dX5_perform_394 : decode cX5_perform 394 = .ok (.getfield 35, 3) := by decide +kernel
theorem dX5_perform_397 : decode cX5_perform 397 = .ok (.istore 5, 2) := by decide +kernel
theorem dX5_perform_399 : decode cX5_perform 399 = .ok (.goto 8, 3) := by decide +kernel
theorem dX5_perform_402 : decode cX5_perform 402 = .ok (.aload_n 0, 1) := by decide +kernel
theorem dX5_perform_403 : decode cX5_perform 403 = .ok (.iload_n 3, 1) := by decide +kernel
theorem dX5_perform_404 : decode cX5_perform 404 = .ok (.invokevirtual 116, 3) := by decide +kernel
theorem dX5_perform_407 : decode cX5_perform 407 = .ok (.aload_n 0, 1) := by decide +kernel
theorem dX5_perform_408 : decode cX5_perform 408 = .ok (.iload 5, 2) := by decide +kernel
theorem dX5_perform_410 : decode cX5_perform 410 = .ok (.putfield 35, 3) := by decide +kernel
theorem dX5_perform_413 : decode cX5_perform 413 = .ok (.aload_n 0, 1) := by decide +kernel
theorem dX5_perform_414 : decode cX5_perform 414 = .ok (.dup, 1) := by decide +kernel
theorem dX5_perform_415 : decode cX5_perform 415 = .ok (.getfield 45, 3) := by decide +kernel
theorem dX5_perform_418 : decode cX5_perform 418 = .ok (.iconst 1, 1) := by decide +kernel
theorem dX5_perform_419 : decode cX5_perform 419 = .ok (.iadd, 1) := by decide +kernel
theorem dX5_perform_420 : decode cX5_perform 420 = .ok (.putfield 45, 3) := by decide +kernel
theorem dX5_perform_423 : decode cX5_perform 423 = .ok (.return_, 1) := by decide +kernel
theorem dX5_swap_0 : decode cX5_swap 0 = .ok (.aload_n 0, 1) := by decide +kernel
theorem dX5_swap_1 : decode cX5_swap 1 = .ok (.getfield 14, 3) := by decide +kernel
theorem dX5_swap_4 : decode cX5_swap 4 = .ok (.invokevirtual 92, 3) := by decide +kernel
theorem dX5_swap_7 : decode cX5_swap 7 = .ok (.istore_n 1, 1) := by decide +kernel
theorem dX5_swap_8 : decode cX5_swap 8 = .ok (.aload_n 0, 1) := by decide +kernel
theorem dX5_swap_9 : decode cX5_swap 9 = .ok (.getfield 14, 3) := by decide +kernel
theorem dX5_swap_12 : decode cX5_swap 12 = .ok (.invokevirtual 92, 3) := by decide +kernel
theorem dX5_swap_15 : decode cX5_swap 15 = .ok (.istore_n 2, 1) := by decide +kernel
theorem dX5_swap_16 : decode cX5_swap 16 = .ok (.aload_n 0, 1) := by decide +kernel
theorem dX5_swap_17 : decode cX5_swap 17 = .ok (.getfield 14, 3) := by decide +kernel
theorem dX5_swap_20 : decode cX5_swap 20 = .ok (.iload_n 1, 1) := by decide +kernel
theorem dX5_swap_21 : decode cX5_swap 21 = .ok (.invokevirtual 89, 3) := by decide +kernel
theorem dX5_swap_24 : decode cX5_swap 24 = .ok (.aload_n 0, 1) := by decide +kernel
theorem dX5_swap_25 : decode cX5_swap 25 = .ok (.getfield 14, 3) := by decide +kernel
theorem dX5_swap_28 : decode cX5_swap 28 = .ok (.iload_n 2, 1) := by decide +kernel
theorem dX5_swap_29 : decode cX5_swap 29 = .ok (.invokevirtual 89, 3) := by decide +kernel
theorem dX5_swap_32 : decode cX5_swap 32 = .ok (.return_, 1) := by decide +kernel
theorem dX5_storeAt_0 : decode cX5_storeAt 0 = .ok (.aload_n 0, 1) := by decide +kernel
theorem dX5_storeAt_1 : decode cX5_storeAt 1 = .ok (.getfield 14, 3) := by decide +kernel
theorem dX5_storeAt_4 : decode cX5_storeAt 4 = .ok (.invokevirtual 92, 3) := by decide +kernel
theorem dX5_storeAt_7 : decode cX5_storeAt 7 = .ok (.istore_n 1, 1) := by decide +kernel
theorem dX5_storeAt_8 : decode cX5_storeAt 8 = .ok (.aload_n 0, 1) := by decide +kernel
theorem dX5_storeAt_9 : decode cX5_storeAt 9 = .ok (.getfield 20, 3) := by decide +kernel
theorem dX5_storeAt_12 : decode cX5_storeAt 12 = .ok (.iload_n 1, 1) := by decide +kernel
theorem dX5_storeAt_13 : decode cX5_storeAt 13 = .ok (.aload_n 0, 1) := by decide +kernel
theorem dX5_storeAt_14 : decode cX5_storeAt 14 = .ok (.getfield 14, 3) := by decide +kernel
theorem dX5_storeAt_17 : decode cX5_storeAt 17 = .ok (.invokevirtual 92, 3) := by decide +kernel
theorem dX5_storeAt_20 : decode cX5_storeAt 20 = .ok (.invokevirtual 105, 3) := by decide +kernel
theorem dX5_storeAt_23 : decode cX5_storeAt 23 = .ok (.return_, 1) := by decide +kernel
theorem dX5_readFrom_0 : decode cX5_readFrom 0 = .ok (.aload_n 1, 1) := by decide +kernel
theorem dX5_readFrom_1 : decode cX5_readFrom 1 = .ok (.aload_n 0, 1) := by decide +kernel
theorem dX5_readFrom_2 : decode cX5_readFrom 2 = .ok (.getfield 42, 3) := by decide +kernel
theorem dX5_readFrom_5 : decode cX5_readFrom 5 = .ok (.invokevirtual 119, 3) := by decide +kernel
theorem dX5_readFrom_8 : decode cX5_readFrom 8 = .ok (.ifCond .ne 5, 3) := by decide +kernel
theorem dX5_readFrom_11 : decode cX5_readFrom 11 = .ok (.iconst 0, 1) := by decide +kernel
theorem dX5_readFrom_12 : decode cX5_readFrom 12 = .ok (.ireturn, 1) := by decide +kernel
theorem dX5_readFrom_13 : decode cX5_readFrom 13 = .ok (.aload_n 0, 1) := by decide +kernel
theorem dX5_readFrom_14 : decode cX5_readFrom 14 = .ok (.dup, 1) := by decide +kernel
theorem dX5_readFrom_15 : decode cX5_readFrom 15 = .ok (.getfield 42, 3) := by decide +kernel
theorem dX5_readFrom_18 : decode cX5_readFrom 18 = .ok (.iconst 1, 1) := by decide +kernel
theorem dX5_readFrom_19 : decode cX5_readFrom 19 = .ok (.iadd, 1) := by decide +kernel
theorem dX5_readFrom_20 : decode cX5_readFrom 20 = .ok (.putfield 42, 3) := by decide +kernel
theorem dX5_readFrom_23 : decode cX5_readFrom 23 = .ok (.aload_n 1, 1) := by decide +kernel
theorem dX5_readFrom_24 : decode cX5_readFrom 24 = .ok (.aload_n 0, 1) := by decide +kernel
theorem dX5_readFrom_25 : decode cX5_readFrom 25 = .ok (.getfield 42, 3) := by decide +kernel
theorem dX5_readFrom_28 : decode cX5_readFrom 28 = .ok (.iconst 1, 1) := by decide +kernel
theorem dX5_readFrom_29 : decode cX5_readFrom 29 = .ok (.isub, 1) := by decide +kernel
theorem dX5_readFrom_30 : decode cX5_readFrom 30 = .ok (.invokevirtual 102, 3) := by decide +kernel
theorem dX5_readFrom_33 : decode cX5_readFrom 33 = .ok (.ireturn, 1) := by decide +kernel
theorem dX5_reckon_0 : decode cX5_reckon 0 = .ok (.aload_n 0, 1) := by decide +kernel
theorem dX5_reckon_1 : decode cX5_reckon 1 = .ok (.getfield 14, 3) := by decide +kernel
theorem dX5_reckon_4 : decode cX5_reckon 4 = .ok (.invokevirtual 92, 3) := by decide +kernel
theorem dX5_reckon_7 : decode cX5_reckon 7 = .ok (.istore_n 2, 1) := by decide +kernel
theorem dX5_reckon_8 : decode cX5_reckon 8 = .ok (.aload_n 0, 1) := by decide +kernel
theorem dX5_reckon_9 : decode cX5_reckon 9 = .ok (.getfield 14, 3) := by decide +kernel
theorem dX5_reckon_12 : decode cX5_reckon 12 = .ok (.invokevirtual 92, 3) := by decide +kernel
theorem dX5_reckon_15 : decode cX5_reckon 15 = .ok (.istore_n 3, 1) := by decide +kernel
theorem dX5_reckon_16 : decode cX5_reckon 16 = .ok (.aload_n 0, 1) := by decide +kernel
theorem dX5_reckon_17 : decode cX5_reckon 17 = .ok (.getfield 14, 3) := by decide +kernel
theorem dX5_reckon_20 : decode cX5_reckon 20 = .ok (.iload_n 1, 1) := by decide +kernel
theorem dX5_reckon_21 : decode cX5_reckon 21 = .ok (.iload_n 3, 1) := by decide +kernel
theorem dX5_reckon_22 : decode cX5_reckon 22 = .ok (.iload_n 2, 1) := by decide +kernel
theorem dX5_reckon_23 : decode cX5_reckon 23 = .ok (.invokestatic 120, 3) := by decide +kernel
theorem dX5_reckon_26 : decode cX5_reckon 26 = .ok (.invokevirtual 89, 3) := by decide +kernel
theorem dX5_reckon_29 : decode cX5_reckon 29 = .ok (.return_, 1) := by decide +kernel
theorem dX5_reckoned_0 : decode cX5_reckoned 0 = .ok (.iload_n 0, 1) := by decide +kernel
theorem dX5_reckoned_1 : decode cX5_reckoned 1 = .ok (.tableswitch 91 5 10 #[39, 43, 47, 51, 63, 77], 39) := by decide +kernel
theorem dX5_reckoned_40 : decode cX5_reckoned 40 = .ok (.iload_n 1, 1) := by decide +kernel
theorem dX5_reckoned_41 : decode cX5_reckoned 41 = .ok (.iload_n 2, 1) := by decide +kernel
theorem dX5_reckoned_42 : decode cX5_reckoned 42 = .ok (.iadd, 1) := by decide +kernel
theorem dX5_reckoned_43 : decode cX5_reckoned 43 = .ok (.ireturn, 1) := by decide +kernel
theorem dX5_reckoned_44 : decode cX5_reckoned 44 = .ok (.iload_n 1, 1) := by decide +kernel
theorem dX5_reckoned_45 : decode cX5_reckoned 45 = .ok (.iload_n 2, 1) := by decide +kernel
theorem dX5_reckoned_46 : decode cX5_reckoned 46 = .ok (.isub, 1) := by decide +kernel
theorem dX5_reckoned_47 : decode cX5_reckoned 47 = .ok (.ireturn, 1) := by decide +kernel
theorem dX5_reckoned_48 : decode cX5_reckoned 48 = .ok (.iload_n 1, 1) := by decide +kernel
theorem dX5_reckoned_49 : decode cX5_reckoned 49 = .ok (.iload_n 2, 1) := by decide +kernel
theorem dX5_reckoned_50 : decode cX5_reckoned 50 = .ok (.imul, 1) := by decide +kernel
theorem dX5_reckoned_51 : decode cX5_reckoned 51 = .ok (.ireturn, 1) := by decide +kernel
theorem dX5_reckoned_52 : decode cX5_reckoned 52 = .ok (.iload_n 2, 1) := by decide +kernel
theorem dX5_reckoned_53 : decode cX5_reckoned 53 = .ok (.ifCond .ne 7, 3) := by decide +kernel
theorem dX5_reckoned_56 : decode cX5_reckoned 56 = .ok (.iconst 0, 1) := by decide +kernel
theorem dX5_reckoned_57 : decode cX5_reckoned 57 = .ok (.goto 6, 3) := by decide +kernel
theorem dX5_reckoned_60 : decode cX5_reckoned 60 = .ok (.iload_n 1, 1) := by decide +kernel
theorem dX5_reckoned_61 : decode cX5_reckoned 61 = .ok (.iload_n 2, 1) := by decide +kernel
theorem dX5_reckoned_62 : decode cX5_reckoned 62 = .ok (.idiv, 1) := by decide +kernel
theorem dX5_reckoned_63 : decode cX5_reckoned 63 = .ok (.ireturn, 1) := by decide +kernel
theorem dX5_reckoned_64 : decode cX5_reckoned 64 = .ok (.iload_n 1, 1) := by decide +kernel
theorem dX5_reckoned_65 : decode cX5_reckoned 65 = .ok (.iload_n 2, 1) := by decide +kernel
theorem dX5_reckoned_66 : decode cX5_reckoned 66 = .ok (.if_icmp .ge 7, 3) := by decide +kernel
theorem dX5_reckoned_69 : decode cX5_reckoned 69 = .ok (.iconst 1, 1) := by decide +kernel
theorem dX5_reckoned_70 : decode cX5_reckoned 70 = .ok (.goto 4, 3) := by decide +kernel
theorem dX5_reckoned_73 : decode cX5_reckoned 73 = .ok (.iconst 0, 1) := by decide +kernel
theorem dX5_reckoned_74 : decode cX5_reckoned 74 = .ok (.invokestatic 98, 3) := by decide +kernel
theorem dX5_reckoned_77 : decode cX5_reckoned 77 = .ok (.ireturn, 1) := by decide +kernel
theorem dX5_reckoned_78 : decode cX5_reckoned 78 = .ok (.iload_n 1, 1) := by decide +kernel
theorem dX5_reckoned_79 : decode cX5_reckoned 79 = .ok (.iload_n 2, 1) := by decide +kernel
theorem dX5_reckoned_80 : decode cX5_reckoned 80 = .ok (.if_icmp .ne 7, 3) := by decide +kernel
theorem dX5_reckoned_83 : decode cX5_reckoned 83 = .ok (.iconst 1, 1) := by decide +kernel
theorem dX5_reckoned_84 : decode cX5_reckoned 84 = .ok (.goto 4, 3) := by decide +kernel
theorem dX5_reckoned_87 : decode cX5_reckoned 87 = .ok (.iconst 0, 1) := by decide +kernel
theorem dX5_reckoned_88 : decode cX5_reckoned 88 = .ok (.invokestatic 98, 3) := by decide +kernel
theorem dX5_reckoned_91 : decode cX5_reckoned 91 = .ok (.ireturn, 1) := by decide +kernel
theorem dX5_reckoned_92 : decode cX5_reckoned 92 = .ok (.iconst 0, 1) := by decide +kernel
theorem dX5_reckoned_93 : decode cX5_reckoned 93 = .ok (.ireturn, 1) := by decide +kernel
theorem dX5_describe_0 : decode cX5_describe 0 = .ok (.aload_n 2, 1) := by decide +kernel
theorem dX5_describe_1 : decode cX5_describe 1 = .ok (.aload_n 0, 1) := by decide +kernel
theorem dX5_describe_2 : decode cX5_describe 2 = .ok (.getfield 35, 3) := by decide +kernel
theorem dX5_describe_5 : decode cX5_describe 5 = .ok (.invokevirtual 62, 3) := by decide +kernel
theorem dX5_describe_8 : decode cX5_describe 8 = .ok (.istore_n 3, 1) := by decide +kernel
theorem dX5_describe_9 : decode cX5_describe 9 = .ok (.aload_n 1, 1) := by decide +kernel
theorem dX5_describe_10 : decode cX5_describe 10 = .ok (.aload_n 0, 1) := by decide +kernel
theorem dX5_describe_11 : decode cX5_describe 11 = .ok (.getfield 35, 3) := by decide +kernel
theorem dX5_describe_14 : decode cX5_describe 14 = .ok (.putfield 124, 3) := by decide +kernel
theorem dX5_describe_17 : decode cX5_describe 17 = .ok (.aload_n 1, 1) := by decide +kernel
theorem dX5_describe_18 : decode cX5_describe 18 = .ok (.aload_n 0, 1) := by decide +kernel
theorem dX5_describe_19 : decode cX5_describe 19 = .ok (.getfield 14, 3) := by decide +kernel
theorem dX5_describe_22 : decode cX5_describe 22 = .ok (.invokevirtual 66, 3) := by decide +kernel
theorem dX5_describe_25 : decode cX5_describe 25 = .ok (.putfield 127, 3) := by decide +kernel
theorem dX5_describe_28 : decode cX5_describe 28 = .ok (.aload_n 1, 1) := by decide +kernel
theorem dX5_describe_29 : decode cX5_describe 29 = .ok (.aload_n 0, 1) := by decide +kernel
theorem dX5_describe_30 : decode cX5_describe 30 = .ok (.getfield 14, 3) := by decide +kernel
theorem dX5_describe_33 : decode cX5_describe 33 = .ok (.iconst 0, 1) := by decide +kernel
theorem dX5_describe_34 : decode cX5_describe 34 = .ok (.invokevirtual 73, 3) := by decide +kernel
theorem dX5_describe_37 : decode cX5_describe 37 = .ok (.putfield 130, 3) := by decide +kernel
theorem dX5_describe_40 : decode cX5_describe 40 = .ok (.aload_n 1, 1) := by decide +kernel
theorem dX5_describe_41 : decode cX5_describe 41 = .ok (.aload_n 0, 1) := by decide +kernel
theorem dX5_describe_42 : decode cX5_describe 42 = .ok (.getfield 14, 3) := by decide +kernel
theorem dX5_describe_45 : decode cX5_describe 45 = .ok (.iconst 1, 1) := by decide +kernel
theorem dX5_describe_46 : decode cX5_describe 46 = .ok (.invokevirtual 73, 3) := by decide +kernel
theorem dX5_describe_49 : decode cX5_describe 49 = .ok (.putfield 133, 3) := by decide +kernel
theorem dX5_describe_52 : decode cX5_describe 52 = .ok (.aload_n 1, 1) := by decide +kernel
theorem dX5_describe_53 : decode cX5_describe 53 = .ok (.aload_n 0, 1) := by decide +kernel
theorem dX5_describe_54 : decode cX5_describe 54 = .ok (.getfield 23, 3) := by decide +kernel
theorem dX5_describe_57 : decode cX5_describe 57 = .ok (.invokevirtual 66, 3) := by decide +kernel
theorem dX5_describe_60 : decode cX5_describe 60 = .ok (.putfield 136, 3) := by decide +kernel
theorem dX5_describe_63 : decode cX5_describe 63 = .ok (.aload_n 1, 1) := by decide +kernel
theorem dX5_describe_64 : decode cX5_describe 64 = .ok (.aload_n 0, 1) := by decide +kernel
theorem dX5_describe_65 : decode cX5_describe 65 = .ok (.getfield 23, 3) := by decide +kernel
theorem dX5_describe_68 : decode cX5_describe 68 = .ok (.iconst 0, 1) := by decide +kernel
theorem dX5_describe_69 : decode cX5_describe 69 = .ok (.invokevirtual 73, 3) := by decide +kernel
theorem dX5_describe_72 : decode cX5_describe 72 = .ok (.putfield 139, 3) := by decide +kernel
theorem dX5_describe_75 : decode cX5_describe 75 = .ok (.aload_n 1, 1) := by decide +kernel
theorem dX5_describe_76 : decode cX5_describe 76 = .ok (.aload_n 0, 1) := by decide +kernel
theorem dX5_describe_77 : decode cX5_describe 77 = .ok (.getfield 42, 3) := by decide +kernel
theorem dX5_describe_80 : decode cX5_describe 80 = .ok (.putfield 142, 3) := by decide +kernel
theorem dX5_describe_83 : decode cX5_describe 83 = .ok (.aload_n 1, 1) := by decide +kernel
theorem dX5_describe_84 : decode cX5_describe 84 = .ok (.aload_n 0, 1) := by decide +kernel
theorem dX5_describe_85 : decode cX5_describe 85 = .ok (.getfield 26, 3) := by decide +kernel
theorem dX5_describe_88 : decode cX5_describe 88 = .ok (.invokevirtual 66, 3) := by decide +kernel
theorem dX5_describe_91 : decode cX5_describe 91 = .ok (.putfield 143, 3) := by decide +kernel
theorem dX5_describe_94 : decode cX5_describe 94 = .ok (.aload_n 1, 1) := by decide +kernel
theorem dX5_describe_95 : decode cX5_describe 95 = .ok (.iconst (-1), 1) := by decide +kernel
theorem dX5_describe_96 : decode cX5_describe 96 = .ok (.putfield 146, 3) := by decide +kernel
theorem dX5_describe_99 : decode cX5_describe 99 = .ok (.iload_n 3, 1) := by decide +kernel
theorem dX5_describe_100 : decode cX5_describe 100 = .ok (.bipush 13, 2) := by decide +kernel
theorem dX5_describe_102 : decode cX5_describe 102 = .ok (.if_icmp .ne 34, 3) := by decide +kernel
theorem dX5_describe_105 : decode cX5_describe 105 = .ok (.aload_n 1, 1) := by decide +kernel
theorem dX5_describe_106 : decode cX5_describe 106 = .ok (.aload_n 2, 1) := by decide +kernel
theorem dX5_describe_107 : decode cX5_describe 107 = .ok (.aload_n 0, 1) := by decide +kernel
theorem dX5_describe_108 : decode cX5_describe 108 = .ok (.getfield 35, 3) := by decide +kernel
theorem dX5_describe_111 : decode cX5_describe 111 = .ok (.invokevirtual 86, 3) := by decide +kernel
theorem dX5_describe_114 : decode cX5_describe 114 = .ok (.aload_n 0, 1) := by decide +kernel
theorem dX5_describe_115 : decode cX5_describe 115 = .ok (.getfield 20, 3) := by decide +kernel
theorem dX5_describe_118 : decode cX5_describe 118 = .ok (.aload_n 2, 1) := by decide +kernel
theorem dX5_describe_119 : decode cX5_describe 119 = .ok (.aload_n 0, 1) := by decide +kernel
theorem dX5_describe_120 : decode cX5_describe 120 = .ok (.getfield 35, 3) := by decide +kernel
theorem dX5_describe_123 : decode cX5_describe 123 = .ok (.invokevirtual 86, 3) := by decide +kernel
theorem dX5_describe_126 : decode cX5_describe 126 = .ok (.invokevirtual 102, 3) := by decide +kernel
theorem dX5_describe_129 : decode cX5_describe 129 = .ok (.aload_n 1, 1) := by decide +kernel
theorem dX5_describe_130 : decode cX5_describe 130 = .ok (.getfield 130, 3) := by decide +kernel
theorem dX5_describe_133 : decode cX5_describe 133 = .ok (.invokevirtual 149, 3) := by decide +kernel
theorem dX5_describe_136 : decode cX5_describe 136 = .ok (.iload_n 3, 1) := by decide +kernel
theorem dX5_describe_137 : decode cX5_describe 137 = .ok (.bipush 15, 2) := by decide +kernel
theorem dX5_describe_139 : decode cX5_describe 139 = .ok (.if_icmp .ne 26, 3) := by decide +kernel
theorem dX5_describe_142 : decode cX5_describe 142 = .ok (.aload_n 1, 1) := by decide +kernel
theorem dX5_describe_143 : decode cX5_describe 143 = .ok (.aload_n 1, 1) := by decide +kernel
theorem dX5_describe_144 : decode cX5_describe 144 = .ok (.getfield 130, 3) := by decide +kernel
theorem dX5_describe_147 : decode cX5_describe 147 = .ok (.aload_n 0, 1) := by decide +kernel
theorem dX5_describe_148 : decode cX5_describe 148 = .ok (.getfield 20, 3) := by decide +kernel
theorem dX5_describe_151 : decode cX5_describe 151 = .ok (.aload_n 1, 1) := by decide +kernel
theorem dX5_describe_152 : decode cX5_describe 152 = .ok (.getfield 130, 3) := by decide +kernel
theorem dX5_describe_155 : decode cX5_describe 155 = .ok (.invokevirtual 102, 3) := by decide +kernel
theorem dX5_describe_158 : decode cX5_describe 158 = .ok (.aload_n 1, 1) := by decide +kernel
theorem dX5_describe_159 : decode cX5_describe 159 = .ok (.getfield 133, 3) := by decide +kernel
theorem dX5_describe_162 : decode cX5_describe 162 = .ok (.invokevirtual 149, 3) := by decide +kernel
theorem dX5_describe_165 : decode cX5_describe 165 = .ok (.return_, 1) := by decide +kernel
theorem dX5_goBackTo_0 : decode cX5_goBackTo 0 = .ok (.aload_n 0, 1) := by decide +kernel
theorem dX5_goBackTo_1 : decode cX5_goBackTo 1 = .ok (.aload_n 1, 1) := by decide +kernel
theorem dX5_goBackTo_2 : decode cX5_goBackTo 2 = .ok (.getfield 124, 3) := by decide +kernel
theorem dX5_goBackTo_5 : decode cX5_goBackTo 5 = .ok (.putfield 35, 3) := by decide +kernel
theorem dX5_goBackTo_8 : decode cX5_goBackTo 8 = .ok (.aload_n 0, 1) := by decide +kernel
theorem dX5_goBackTo_9 : decode cX5_goBackTo 9 = .ok (.getfield 14, 3) := by decide +kernel
theorem dX5_goBackTo_12 : decode cX5_goBackTo 12 = .ok (.aload_n 1, 1) := by decide +kernel
theorem dX5_goBackTo_13 : decode cX5_goBackTo 13 = .ok (.getfield 127, 3) := by decide +kernel
theorem dX5_goBackTo_16 : decode cX5_goBackTo 16 = .ok (.invokevirtual 32, 3) := by decide +kernel
theorem dX5_goBackTo_19 : decode cX5_goBackTo 19 = .ok (.aload_n 0, 1) := by decide +kernel
theorem dX5_goBackTo_20 : decode cX5_goBackTo 20 = .ok (.getfield 14, 3) := by decide +kernel
theorem dX5_goBackTo_23 : decode cX5_goBackTo 23 = .ok (.iconst 0, 1) := by decide +kernel
theorem dX5_goBackTo_24 : decode cX5_goBackTo 24 = .ok (.aload_n 1, 1) := by decide +kernel
theorem dX5_goBackTo_25 : decode cX5_goBackTo 25 = .ok (.getfield 130, 3) := by decide +kernel
theorem dX5_goBackTo_28 : decode cX5_goBackTo 28 = .ok (.invokevirtual 153, 3) := by decide +kernel
theorem dX5_goBackTo_31 : decode cX5_goBackTo 31 = .ok (.aload_n 0, 1) := by decide +kernel
theorem dX5_goBackTo_32 : decode cX5_goBackTo 32 = .ok (.getfield 14, 3) := by decide +kernel
theorem dX5_goBackTo_35 : decode cX5_goBackTo 35 = .ok (.iconst 1, 1) := by decide +kernel
theorem dX5_goBackTo_36 : decode cX5_goBackTo 36 = .ok (.aload_n 1, 1) := by decide +kernel
theorem dX5_goBackTo_37 : decode cX5_goBackTo 37 = .ok (.getfield 133, 3) := by decide +kernel
theorem dX5_goBackTo_40 : decode cX5_goBackTo 40 = .ok (.invokevirtual 153, 3) := by decide +kernel
theorem dX5_goBackTo_43 : decode cX5_goBackTo 43 = .ok (.aload_n 0, 1) := by decide +kernel
theorem dX5_goBackTo_44 : decode cX5_goBackTo 44 = .ok (.getfield 23, 3) := by decide +kernel
theorem dX5_goBackTo_47 : decode cX5_goBackTo 47 = .ok (.aload_n 1, 1) := by decide +kernel
theorem dX5_goBackTo_48 : decode cX5_goBackTo 48 = .ok (.getfield 136, 3) := by decide +kernel
theorem dX5_goBackTo_51 : decode cX5_goBackTo 51 = .ok (.invokevirtual 32, 3) := by decide +kernel
theorem dX5_goBackTo_54 : decode cX5_goBackTo 54 = .ok (.aload_n 0, 1) := by decide +kernel
theorem dX5_goBackTo_55 : decode cX5_goBackTo 55 = .ok (.getfield 23, 3) := by decide +kernel
theorem dX5_goBackTo_58 : decode cX5_goBackTo 58 = .ok (.iconst 0, 1) := by decide +kernel
theorem dX5_goBackTo_59 : decode cX5_goBackTo 59 = .ok (.aload_n 1, 1) := by decide +kernel
theorem dX5_goBackTo_60 : decode cX5_goBackTo 60 = .ok (.getfield 139, 3) := by decide +kernel
theorem dX5_goBackTo_63 : decode cX5_goBackTo 63 = .ok (.invokevirtual 153, 3) := by decide +kernel
theorem dX5_goBackTo_66 : decode cX5_goBackTo 66 = .ok (.aload_n 0, 1) := by decide +kernel
theorem dX5_goBackTo_67 : decode cX5_goBackTo 67 = .ok (.aload_n 1, 1) := by decide +kernel
theorem dX5_goBackTo_68 : decode cX5_goBackTo 68 = .ok (.getfield 142, 3) := by decide +kernel
theorem dX5_goBackTo_71 : decode cX5_goBackTo 71 = .ok (.putfield 42, 3) := by decide +kernel
theorem dX5_goBackTo_74 : decode cX5_goBackTo 74 = .ok (.aload_n 0, 1) := by decide +kernel
theorem dX5_goBackTo_75 : decode cX5_goBackTo 75 = .ok (.getfield 26, 3) := by decide +kernel
theorem dX5_goBackTo_78 : decode cX5_goBackTo 78 = .ok (.aload_n 1, 1) := by decide +kernel
theorem dX5_goBackTo_79 : decode cX5_goBackTo 79 = .ok (.getfield 143, 3) := by decide +kernel
theorem dX5_goBackTo_82 : decode cX5_goBackTo 82 = .ok (.invokevirtual 32, 3) := by decide +kernel
theorem dX5_goBackTo_85 : decode cX5_goBackTo 85 = .ok (.aload_n 0, 1) := by decide +kernel
theorem dX5_goBackTo_86 : decode cX5_goBackTo 86 = .ok (.getfield 20, 3) := by decide +kernel
theorem dX5_goBackTo_89 : decode cX5_goBackTo 89 = .ok (.aload_n 1, 1) := by decide +kernel
theorem dX5_goBackTo_90 : decode cX5_goBackTo 90 = .ok (.getfield 146, 3) := by decide +kernel
theorem dX5_goBackTo_93 : decode cX5_goBackTo 93 = .ok (.aload_n 1, 1) := by decide +kernel
theorem dX5_goBackTo_94 : decode cX5_goBackTo 94 = .ok (.getfield 156, 3) := by decide +kernel
theorem dX5_goBackTo_97 : decode cX5_goBackTo 97 = .ok (.invokevirtual 105, 3) := by decide +kernel
theorem dX5_goBackTo_100 : decode cX5_goBackTo 100 = .ok (.aload_n 0, 1) := by decide +kernel
theorem dX5_goBackTo_101 : decode cX5_goBackTo 101 = .ok (.iconst 0, 1) := by decide +kernel
theorem dX5_goBackTo_102 : decode cX5_goBackTo 102 = .ok (.putfield 39, 3) := by decide +kernel
theorem dX5_goBackTo_105 : decode cX5_goBackTo 105 = .ok (.aload_n 0, 1) := by decide +kernel
theorem dX5_goBackTo_106 : decode cX5_goBackTo 106 = .ok (.dup, 1) := by decide +kernel
theorem dX5_goBackTo_107 : decode cX5_goBackTo 107 = .ok (.getfield 45, 3) := by decide +kernel
theorem dX5_goBackTo_110 : decode cX5_goBackTo 110 = .ok (.iconst 1, 1) := by decide +kernel
theorem dX5_goBackTo_111 : decode cX5_goBackTo 111 = .ok (.isub, 1) := by decide +kernel
theorem dX5_goBackTo_112 : decode cX5_goBackTo 112 = .ok (.putfield 45, 3) := by decide +kernel
theorem dX5_goBackTo_115 : decode cX5_goBackTo 115 = .ok (.return_, 1) := by decide +kernel
theorem dX5_mixedInto_0 : decode cX5_mixedInto 0 = .ok (.aload_n 0, 1) := by decide +kernel
theorem dX5_mixedInto_1 : decode cX5_mixedInto 1 = .ok (.getfield 14, 3) := by decide +kernel
theorem dX5_mixedInto_4 : decode cX5_mixedInto 4 = .ok (.lload_n 1, 1) := by decide +kernel
theorem dX5_mixedInto_5 : decode cX5_mixedInto 5 = .ok (.invokevirtual 159, 3) := by decide +kernel
theorem dX5_mixedInto_8 : decode cX5_mixedInto 8 = .ok (.lstore_n 3, 1) := by decide +kernel
theorem dX5_mixedInto_9 : decode cX5_mixedInto 9 = .ok (.aload_n 0, 1) := by decide +kernel
theorem dX5_mixedInto_10 : decode cX5_mixedInto 10 = .ok (.getfield 20, 3) := by decide +kernel
theorem dX5_mixedInto_13 : decode cX5_mixedInto 13 = .ok (.lload_n 3, 1) := by decide +kernel
theorem dX5_mixedInto_14 : decode cX5_mixedInto 14 = .ok (.invokevirtual 163, 3) := by decide +kernel
theorem dX5_mixedInto_17 : decode cX5_mixedInto 17 = .ok (.lstore_n 3, 1) := by decide +kernel
theorem dX5_mixedInto_18 : decode cX5_mixedInto 18 = .ok (.aload_n 0, 1) := by decide +kernel
theorem dX5_mixedInto_19 : decode cX5_mixedInto 19 = .ok (.getfield 23, 3) := by decide +kernel
theorem dX5_mixedInto_22 : decode cX5_mixedInto 22 = .ok (.lload_n 3, 1) := by decide +kernel
theorem dX5_mixedInto_23 : decode cX5_mixedInto 23 = .ok (.invokevirtual 159, 3) := by decide +kernel
theorem dX5_mixedInto_26 : decode cX5_mixedInto 26 = .ok (.lstore_n 3, 1) := by decide +kernel
theorem dX5_mixedInto_27 : decode cX5_mixedInto 27 = .ok (.aload_n 0, 1) := by decide +kernel
theorem dX5_mixedInto_28 : decode cX5_mixedInto 28 = .ok (.getfield 26, 3) := by decide +kernel
theorem dX5_mixedInto_31 : decode cX5_mixedInto 31 = .ok (.lload_n 3, 1) := by decide +kernel
theorem dX5_mixedInto_32 : decode cX5_mixedInto 32 = .ok (.invokevirtual 163, 3) := by decide +kernel
theorem dX5_mixedInto_35 : decode cX5_mixedInto 35 = .ok (.lreturn, 1) := by decide +kernel
end
section
theorem dX8_init_0 : decode cX8_init 0 = .ok (.aload_n 0, 1) := by decide +kernel
theorem dX8_init_1 : decode cX8_init 1 = .ok (.invokespecial 1, 3) := by decide +kernel
theorem dX8_init_4 : decode cX8_init 4 = .ok (.aload_n 0, 1) := by decide +kernel
theorem dX8_init_5 : decode cX8_init 5 = .ok (.new 7, 3) := by decide +kernel
theorem dX8_init_8 : decode cX8_init 8 = .ok (.dup, 1) := by decide +kernel
theorem dX8_init_9 : decode cX8_init 9 = .ok (.invokespecial 9, 3) := by decide +kernel
theorem dX8_init_12 : decode cX8_init 12 = .ok (.putfield 10, 3) := by decide +kernel
theorem dX8_init_15 : decode cX8_init 15 = .ok (.aload_n 0, 1) := by decide +kernel
theorem dX8_init_16 : decode cX8_init 16 = .ok (.new 16, 3) := by decide +kernel
theorem dX8_init_19 : decode cX8_init 19 = .ok (.dup, 1) := by decide +kernel
theorem dX8_init_20 : decode cX8_init 20 = .ok (.bipush 20, 2) := by decide +kernel
theorem dX8_init_22 : decode cX8_init 22 = .ok (.invokespecial 18, 3) := by decide +kernel
theorem dX8_init_25 : decode cX8_init 25 = .ok (.putfield 21, 3) := by decide +kernel
theorem dX8_init_28 : decode cX8_init 28 = .ok (.aload_n 0, 1) := by decide +kernel
theorem dX8_init_29 : decode cX8_init 29 = .ok (.new 25, 3) := by decide +kernel
theorem dX8_init_32 : decode cX8_init 32 = .ok (.dup, 1) := by decide +kernel
theorem dX8_init_33 : decode cX8_init 33 = .ok (.invokespecial 27, 3) := by decide +kernel
theorem dX8_init_36 : decode cX8_init 36 = .ok (.putfield 28, 3) := by decide +kernel
theorem dX8_init_39 : decode cX8_init 39 = .ok (.aload_n 0, 1) := by decide +kernel
theorem dX8_init_40 : decode cX8_init 40 = .ok (.new 32, 3) := by decide +kernel
theorem dX8_init_43 : decode cX8_init 43 = .ok (.dup, 1) := by decide +kernel
theorem dX8_init_44 : decode cX8_init 44 = .ok (.invokespecial 34, 3) := by decide +kernel
theorem dX8_init_47 : decode cX8_init 47 = .ok (.putfield 35, 3) := by decide +kernel
theorem dX8_init_50 : decode cX8_init 50 = .ok (.aload_n 0, 1) := by decide +kernel
theorem dX8_init_51 : decode cX8_init 51 = .ok (.bipush 6, 2) := by decide +kernel
theorem dX8_init_53 : decode cX8_init 53 = .ok (.anewarray 39, 3) := by decide +kernel
theorem dX8_init_56 : decode cX8_init 56 = .ok (.putfield 41, 3) := by decide +kernel
theorem dX8_init_59 : decode cX8_init 59 = .ok (.iconst 0, 1) := by decide +kernel
theorem dX8_init_60 : decode cX8_init 60 = .ok (.istore_n 1, 1) := by decide +kernel
theorem dX8_init_61 : decode cX8_init 61 = .ok (.iload_n 1, 1) := by decide +kernel
theorem dX8_init_62 : decode cX8_init 62 = .ok (.aload_n 0, 1) := by decide +kernel
theorem dX8_init_63 : decode cX8_init 63 = .ok (.getfield 41, 3) := by decide +kernel
theorem dX8_init_66 : decode cX8_init 66 = .ok (.arraylength, 1) := by decide +kernel
theorem dX8_init_67 : decode cX8_init 67 = .ok (.if_icmp .ge 22, 3) := by decide +kernel
theorem dX8_init_70 : decode cX8_init 70 = .ok (.aload_n 0, 1) := by decide +kernel
theorem dX8_init_71 : decode cX8_init 71 = .ok (.getfield 41, 3) := by decide +kernel
theorem dX8_init_74 : decode cX8_init 74 = .ok (.iload_n 1, 1) := by decide +kernel
theorem dX8_init_75 : decode cX8_init 75 = .ok (.new 39, 3) := by decide +kernel
theorem dX8_init_78 : decode cX8_init 78 = .ok (.dup, 1) := by decide +kernel
theorem dX8_init_79 : decode cX8_init 79 = .ok (.invokespecial 45, 3) := by decide +kernel
theorem dX8_init_82 : decode cX8_init 82 = .ok (.aastore, 1) := by decide +kernel
theorem dX8_init_83 : decode cX8_init 83 = .ok (.iinc 1 1, 3) := by decide +kernel
theorem dX8_init_86 : decode cX8_init 86 = .ok (.goto (-25), 3) := by decide +kernel
theorem dX8_init_89 : decode cX8_init 89 = .ok (.aload_n 0, 1) := by decide +kernel
theorem dX8_init_90 : decode cX8_init 90 = .ok (.iconst 4, 1) := by decide +kernel
theorem dX8_init_91 : decode cX8_init 91 = .ok (.anewarray 46, 3) := by decide +kernel
theorem dX8_init_94 : decode cX8_init 94 = .ok (.putfield 48, 3) := by decide +kernel
theorem dX8_init_97 : decode cX8_init 97 = .ok (.iconst 0, 1) := by decide +kernel
theorem dX8_init_98 : decode cX8_init 98 = .ok (.istore_n 1, 1) := by decide +kernel
theorem dX8_init_99 : decode cX8_init 99 = .ok (.iload_n 1, 1) := by decide +kernel
theorem dX8_init_100 : decode cX8_init 100 = .ok (.aload_n 0, 1) := by decide +kernel
theorem dX8_init_101 : decode cX8_init 101 = .ok (.getfield 48, 3) := by decide +kernel
theorem dX8_init_104 : decode cX8_init 104 = .ok (.arraylength, 1) := by decide +kernel
theorem dX8_init_105 : decode cX8_init 105 = .ok (.if_icmp .ge 22, 3) := by decide +kernel
theorem dX8_init_108 : decode cX8_init 108 = .ok (.aload_n 0, 1) := by decide +kernel
theorem dX8_init_109 : decode cX8_init 109 = .ok (.getfield 48, 3) := by decide +kernel
theorem dX8_init_112 : decode cX8_init 112 = .ok (.iload_n 1, 1) := by decide +kernel
theorem dX8_init_113 : decode cX8_init 113 = .ok (.new 46, 3) := by decide +kernel
theorem dX8_init_116 : decode cX8_init 116 = .ok (.dup, 1) := by decide +kernel
theorem dX8_init_117 : decode cX8_init 117 = .ok (.invokespecial 52, 3) := by decide +kernel
theorem dX8_init_120 : decode cX8_init 120 = .ok (.aastore, 1) := by decide +kernel
theorem dX8_init_121 : decode cX8_init 121 = .ok (.iinc 1 1, 3) := by decide +kernel
theorem dX8_init_124 : decode cX8_init 124 = .ok (.goto (-25), 3) := by decide +kernel
theorem dX8_init_127 : decode cX8_init 127 = .ok (.aload_n 0, 1) := by decide +kernel
theorem dX8_init_128 : decode cX8_init 128 = .ok (.iconst 3, 1) := by decide +kernel
theorem dX8_init_129 : decode cX8_init 129 = .ok (.anewarray 53, 3) := by decide +kernel
theorem dX8_init_132 : decode cX8_init 132 = .ok (.putfield 55, 3) := by decide +kernel
theorem dX8_init_135 : decode cX8_init 135 = .ok (.iconst 0, 1) := by decide +kernel
theorem dX8_init_136 : decode cX8_init 136 = .ok (.istore_n 1, 1) := by decide +kernel
theorem dX8_init_137 : decode cX8_init 137 = .ok (.iload_n 1, 1) := by decide +kernel
theorem dX8_init_138 : decode cX8_init 138 = .ok (.aload_n 0, 1) := by decide +kernel
theorem dX8_init_139 : decode cX8_init 139 = .ok (.getfield 55, 3) := by decide +kernel
theorem dX8_init_142 : decode cX8_init 142 = .ok (.arraylength, 1) := by decide +kernel
theorem dX8_init_143 : decode cX8_init 143 = .ok (.if_icmp .ge 22, 3) := by decide +kernel
theorem dX8_init_146 : decode cX8_init 146 = .ok (.aload_n 0, 1) := by decide +kernel
theorem dX8_init_147 : decode cX8_init 147 = .ok (.getfield 55, 3) := by decide +kernel
theorem dX8_init_150 : decode cX8_init 150 = .ok (.iload_n 1, 1) := by decide +kernel
theorem dX8_init_151 : decode cX8_init 151 = .ok (.new 53, 3) := by decide +kernel
theorem dX8_init_154 : decode cX8_init 154 = .ok (.dup, 1) := by decide +kernel
theorem dX8_init_155 : decode cX8_init 155 = .ok (.invokespecial 59, 3) := by decide +kernel
theorem dX8_init_158 : decode cX8_init 158 = .ok (.aastore, 1) := by decide +kernel
theorem dX8_init_159 : decode cX8_init 159 = .ok (.iinc 1 1, 3) := by decide +kernel
theorem dX8_init_162 : decode cX8_init 162 = .ok (.goto (-25), 3) := by decide +kernel
theorem dX8_init_165 : decode cX8_init 165 = .ok (.aload_n 0, 1) := by decide +kernel
theorem dX8_init_166 : decode cX8_init 166 = .ok (.iconst 0, 1) := by decide +kernel
theorem dX8_init_167 : decode cX8_init 167 = .ok (.putfield 60, 3) := by decide +kernel
theorem dX8_init_170 : decode cX8_init 170 = .ok (.aload_n 0, 1) := by decide +kernel
theorem dX8_init_171 : decode cX8_init 171 = .ok (.iconst (-1), 1) := by decide +kernel
theorem dX8_init_172 : decode cX8_init 172 = .ok (.putfield 64, 3) := by decide +kernel
theorem dX8_init_175 : decode cX8_init 175 = .ok (.aload_n 0, 1) := by decide +kernel
theorem dX8_init_176 : decode cX8_init 176 = .ok (.new 25, 3) := by decide +kernel
theorem dX8_init_179 : decode cX8_init 179 = .ok (.dup, 1) := by decide +kernel
theorem dX8_init_180 : decode cX8_init 180 = .ok (.invokespecial 27, 3) := by decide +kernel
theorem dX8_init_183 : decode cX8_init 183 = .ok (.putfield 67, 3) := by decide +kernel
theorem dX8_init_186 : decode cX8_init 186 = .ok (.aload_n 0, 1) := by decide +kernel
theorem dX8_init_187 : decode cX8_init 187 = .ok (.new 16, 3) := by decide +kernel
theorem dX8_init_190 : decode cX8_init 190 = .ok (.dup, 1) := by decide +kernel
theorem dX8_init_191 : decode cX8_init 191 = .ok (.bipush 20, 2) := by decide +kernel
theorem dX8_init_193 : decode cX8_init 193 = .ok (.invokespecial 18, 3) := by decide +kernel
theorem dX8_init_196 : decode cX8_init 196 = .ok (.putfield 70, 3) := by decide +kernel
theorem dX8_init_199 : decode cX8_init 199 = .ok (.return_, 1) := by decide +kernel
theorem dX8_step_0 : decode cX8_step 0 = .ok (.iload_n 1, 1) := by decide +kernel
theorem dX8_step_1 : decode cX8_step 1 = .ok (.iload_n 2, 1) := by decide +kernel
theorem dX8_step_2 : decode cX8_step 2 = .ok (.invokestatic 73, 3) := by decide +kernel
theorem dX8_step_5 : decode cX8_step 5 = .ok (.ifCond .ne 13, 3) := by decide +kernel
theorem dX8_step_8 : decode cX8_step 8 = .ok (.new 77, 3) := by decide +kernel
theorem dX8_step_11 : decode cX8_step 11 = .ok (.dup, 1) := by decide +kernel
theorem dX8_step_12 : decode cX8_step 12 = .ok (.ldc 79, 2) := by decide +kernel
theorem dX8_step_14 : decode cX8_step 14 = .ok (.invokespecial 81, 3) := by decide +kernel
theorem dX8_step_17 : decode cX8_step 17 = .ok (.athrow, 1) := by decide +kernel
theorem dX8_step_18 : decode cX8_step 18 = .ok (.aload_n 0, 1) := by decide +kernel
theorem dX8_step_19 : decode cX8_step 19 = .ok (.getfield 10, 3) := by decide +kernel
theorem dX8_step_22 : decode cX8_step 22 = .ok (.invokevirtual 84, 3) := by decide +kernel
theorem dX8_step_25 : decode cX8_step 25 = .ok (.ifCond .eq 13, 3) := by decide +kernel
theorem dX8_step_28 : decode cX8_step 28 = .ok (.new 88, 3) := by decide +kernel
theorem dX8_step_31 : decode cX8_step 31 = .ok (.dup, 1) := by decide +kernel
theorem dX8_step_32 : decode cX8_step 32 = .ok (.ldc 90, 2) := by decide +kernel
theorem dX8_step_34 : decode cX8_step 34 = .ok (.invokespecial 92, 3) := by decide +kernel
theorem dX8_step_37 : decode cX8_step 37 = .ok (.athrow, 1) := by decide +kernel
theorem dX8_step_38 : decode cX8_step 38 = .ok (.aload_n 0, 1) := by decide +kernel
theorem dX8_step_39 : decode cX8_step 39 = .ok (.getfield 10, 3) := by decide +kernel
theorem dX8_step_42 : decode cX8_step 42 = .ok (.iload_n 1, 1) := by decide +kernel
theorem dX8_step_43 : decode cX8_step 43 = .ok (.iload_n 2, 1) := by decide +kernel
theorem dX8_step_44 : decode cX8_step 44 = .ok (.invokevirtual 93, 3) := by decide +kernel
theorem dX8_step_47 : decode cX8_step 47 = .ok (.aload_n 0, 1) := by decide +kernel
theorem dX8_step_48 : decode cX8_step 48 = .ok (.getfield 10, 3) := by decide +kernel
theorem dX8_step_51 : decode cX8_step 51 = .ok (.invokevirtual 97, 3) := by decide +kernel
theorem dX8_step_54 : decode cX8_step 54 = .ok (.iconst 1, 1) := by decide +kernel
theorem dX8_step_55 : decode cX8_step 55 = .ok (.isub, 1) := by decide +kernel
theorem dX8_step_56 : decode cX8_step 56 = .ok (.ireturn, 1) := by decide +kernel
theorem dX8_give_0 : decode cX8_give 0 = .ok (.aload_n 0, 1) := by decide +kernel
theorem dX8_give_1 : decode cX8_give 1 = .ok (.getfield 21, 3) := by decide +kernel
theorem dX8_give_4 : decode cX8_give 4 = .ok (.invokevirtual 118, 3) := by decide +kernel
theorem dX8_give_7 : decode cX8_give 7 = .ok (.ifCond .eq 13, 3) := by decide +kernel
theorem dX8_give_10 : decode cX8_give 10 = .ok (.new 88, 3) := by decide +kernel
theorem dX8_give_13 : decode cX8_give 13 = .ok (.dup, 1) := by decide +kernel
theorem dX8_give_14 : decode cX8_give 14 = .ok (.ldc 119, 2) := by decide +kernel
theorem dX8_give_16 : decode cX8_give 16 = .ok (.invokespecial 92, 3) := by decide +kernel
theorem dX8_give_19 : decode cX8_give 19 = .ok (.athrow, 1) := by decide +kernel
theorem dX8_give_20 : decode cX8_give 20 = .ok (.aload_n 0, 1) := by decide +kernel
theorem dX8_give_21 : decode cX8_give 21 = .ok (.getfield 21, 3) := by decide +kernel
theorem dX8_give_24 : decode cX8_give 24 = .ok (.iload_n 1, 1) := by decide +kernel
theorem dX8_give_25 : decode cX8_give 25 = .ok (.invokevirtual 121, 3) := by decide +kernel
theorem dX8_give_28 : decode cX8_give 28 = .ok (.aload_n 0, 1) := by decide +kernel
theorem dX8_give_29 : decode cX8_give 29 = .ok (.getfield 21, 3) := by decide +kernel
theorem dX8_give_32 : decode cX8_give 32 = .ok (.invokevirtual 124, 3) := by decide +kernel
theorem dX8_give_35 : decode cX8_give 35 = .ok (.ireturn, 1) := by decide +kernel
theorem dX8_restart_0 : decode cX8_restart 0 = .ok (.aload_n 0, 1) := by decide +kernel
theorem dX8_restart_1 : decode cX8_restart 1 = .ok (.invokevirtual 125, 3) := by decide +kernel
theorem dX8_restart_4 : decode cX8_restart 4 = .ok (.aload_n 0, 1) := by decide +kernel
theorem dX8_restart_5 : decode cX8_restart 5 = .ok (.getfield 10, 3) := by decide +kernel
theorem dX8_restart_8 : decode cX8_restart 8 = .ok (.invokevirtual 97, 3) := by decide +kernel
theorem dX8_restart_11 : decode cX8_restart 11 = .ok (.ireturn, 1) := by decide +kernel
theorem dX8_start_0 : decode cX8_start 0 = .ok (.aload_n 0, 1) := by decide +kernel
theorem dX8_start_1 : decode cX8_start 1 = .ok (.getfield 28, 3) := by decide +kernel
theorem dX8_start_4 : decode cX8_start 4 = .ok (.invokevirtual 128, 3) := by decide +kernel
theorem dX8_start_7 : decode cX8_start 7 = .ok (.aload_n 0, 1) := by decide +kernel
theorem dX8_start_8 : decode cX8_start 8 = .ok (.getfield 35, 3) := by decide +kernel
theorem dX8_start_11 : decode cX8_start 11 = .ok (.invokevirtual 131, 3) := by decide +kernel
theorem dX8_start_14 : decode cX8_start 14 = .ok (.aload_n 0, 1) := by decide +kernel
theorem dX8_start_15 : decode cX8_start 15 = .ok (.getfield 10, 3) := by decide +kernel
theorem dX8_start_18 : decode cX8_start 18 = .ok (.invokevirtual 132, 3) := by decide +kernel
theorem dX8_start_21 : decode cX8_start 21 = .ok (.aload_n 0, 1) := by decide +kernel
theorem dX8_start_22 : decode cX8_start 22 = .ok (.iconst 0, 1) := by decide +kernel
theorem dX8_start_23 : decode cX8_start 23 = .ok (.iconst (-1), 1) := by decide +kernel
theorem dX8_start_24 : decode cX8_start 24 = .ok (.invokevirtual 135, 3) := by decide +kernel
theorem dX8_start_27 : decode cX8_start 27 = .ok (.return_, 1) := by decide +kernel
theorem dX8_point_0 : decode cX8_point 0 = .ok (.iload_n 1, 1) := by decide +kernel
theorem dX8_point_1 : decode cX8_point 1 = .ok (.ifCond .lt 16, 3) := by decide +kernel
theorem dX8_point_4 : decode cX8_point 4 = .ok (.iload_n 1, 1) := by decide +kernel
theorem dX8_point_5 : decode cX8_point 5 = .ok (.bipush 80, 2) := by decide +kernel
theorem dX8_point_7 : decode cX8_point 7 = .ok (.if_icmp .ge 10, 3) := by decide +kernel
theorem dX8_point_10 : decode cX8_point 10 = .ok (.iload_n 2, 1) := by decide +kernel
theorem dX8_point_11 : decode cX8_point 11 = .ok (.invokestatic 138, 3) := by decide +kernel
theorem dX8_point_14 : decode cX8_point 14 = .ok (.ifCond .ne 13, 3) := by decide +kernel
theorem dX8_point_17 : decode cX8_point 17 = .ok (.new 77, 3) := by decide +kernel
theorem dX8_point_20 : decode cX8_point 20 = .ok (.dup, 1) := by decide +kernel
theorem dX8_point_21 : decode cX8_point 21 = .ok (.ldc 141, 2) := by decide +kernel
theorem dX8_point_23 : decode cX8_point 23 = .ok (.invokespecial 81, 3) := by decide +kernel
theorem dX8_point_26 : decode cX8_point 26 = .ok (.athrow, 1) := by decide +kernel
theorem dX8_point_27 : decode cX8_point 27 = .ok (.aload_n 0, 1) := by decide +kernel
theorem dX8_point_28 : decode cX8_point 28 = .ok (.getfield 143, 3) := by decide +kernel
theorem dX8_point_31 : decode cX8_point 31 = .ok (.aload_n 0, 1) := by decide +kernel
theorem dX8_point_32 : decode cX8_point 32 = .ok (.getfield 41, 3) := by decide +kernel
theorem dX8_point_35 : decode cX8_point 35 = .ok (.arraylength, 1) := by decide +kernel
theorem dX8_point_36 : decode cX8_point 36 = .ok (.if_icmp .lt 13, 3) := by decide +kernel
theorem dX8_point_39 : decode cX8_point 39 = .ok (.new 88, 3) := by decide +kernel
theorem dX8_point_42 : decode cX8_point 42 = .ok (.dup, 1) := by decide +kernel
theorem dX8_point_43 : decode cX8_point 43 = .ok (.ldc 146, 2) := by decide +kernel
theorem dX8_point_45 : decode cX8_point 45 = .ok (.invokespecial 92, 3) := by decide +kernel
theorem dX8_point_48 : decode cX8_point 48 = .ok (.athrow, 1) := by decide +kernel
theorem dX8_point_49 : decode cX8_point 49 = .ok (.aload_n 0, 1) := by decide +kernel
theorem dX8_point_50 : decode cX8_point 50 = .ok (.getfield 41, 3) := by decide +kernel
theorem dX8_point_53 : decode cX8_point 53 = .ok (.aload_n 0, 1) := by decide +kernel
theorem dX8_point_54 : decode cX8_point 54 = .ok (.getfield 143, 3) := by decide +kernel
theorem dX8_point_57 : decode cX8_point 57 = .ok (.aaload, 1) := by decide +kernel
theorem dX8_point_58 : decode cX8_point 58 = .ok (.iload_n 1, 1) := by decide +kernel
theorem dX8_point_59 : decode cX8_point 59 = .ok (.iload_n 2, 1) := by decide +kernel
theorem dX8_point_60 : decode cX8_point 60 = .ok (.invokevirtual 148, 3) := by decide +kernel
theorem dX8_point_63 : decode cX8_point 63 = .ok (.aload_n 0, 1) := by decide +kernel
theorem dX8_point_64 : decode cX8_point 64 = .ok (.dup, 1) := by decide +kernel
theorem dX8_point_65 : decode cX8_point 65 = .ok (.getfield 143, 3) := by decide +kernel
theorem dX8_point_68 : decode cX8_point 68 = .ok (.iconst 1, 1) := by decide +kernel
theorem dX8_point_69 : decode cX8_point 69 = .ok (.iadd, 1) := by decide +kernel
theorem dX8_point_70 : decode cX8_point 70 = .ok (.putfield 143, 3) := by decide +kernel
theorem dX8_point_73 : decode cX8_point 73 = .ok (.aload_n 0, 1) := by decide +kernel
theorem dX8_point_74 : decode cX8_point 74 = .ok (.getfield 143, 3) := by decide +kernel
theorem dX8_point_77 : decode cX8_point 77 = .ok (.iconst 1, 1) := by decide +kernel
theorem dX8_point_78 : decode cX8_point 78 = .ok (.isub, 1) := by decide +kernel
theorem dX8_point_79 : decode cX8_point 79 = .ok (.ireturn, 1) := by decide +kernel
theorem dX8_isCell_0 : decode cX8_isCell 0 = .ok (.iload_n 0, 1) := by decide +kernel
theorem dX8_isCell_1 : decode cX8_isCell 1 = .ok (.ifCond .lt 13, 3) := by decide +kernel
theorem dX8_isCell_4 : decode cX8_isCell 4 = .ok (.iload_n 0, 1) := by decide +kernel
theorem dX8_isCell_5 : decode cX8_isCell 5 = .ok (.bipush 12, 2) := by decide +kernel
theorem dX8_isCell_7 : decode cX8_isCell 7 = .ok (.if_icmp .ge 7, 3) := by decide +kernel
theorem dX8_isCell_10 : decode cX8_isCell 10 = .ok (.iconst 1, 1) := by decide +kernel
theorem dX8_isCell_11 : decode cX8_isCell 11 = .ok (.goto 4, 3) := by decide +kernel
theorem dX8_isCell_14 : decode cX8_isCell 14 = .ok (.iconst 0, 1) := by decide +kernel
theorem dX8_isCell_15 : decode cX8_isCell 15 = .ok (.ireturn, 1) := by decide +kernel
theorem dX8_isPass_0 : decode cX8_isPass 0 = .ok (.iload_n 0, 1) := by decide +kernel
theorem dX8_isPass_1 : decode cX8_isPass 1 = .ok (.ifCond .lt 13, 3) := by decide +kernel
theorem dX8_isPass_4 : decode cX8_isPass 4 = .ok (.iload_n 0, 1) := by decide +kernel
theorem dX8_isPass_5 : decode cX8_isPass 5 = .ok (.bipush 99, 2) := by decide +kernel
theorem dX8_isPass_7 : decode cX8_isPass 7 = .ok (.if_icmp .gt 7, 3) := by decide +kernel
theorem dX8_isPass_10 : decode cX8_isPass 10 = .ok (.iconst 1, 1) := by decide +kernel
theorem dX8_isPass_11 : decode cX8_isPass 11 = .ok (.goto 4, 3) := by decide +kernel
theorem dX8_isPass_14 : decode cX8_isPass 14 = .ok (.iconst 0, 1) := by decide +kernel
theorem dX8_isPass_15 : decode cX8_isPass 15 = .ok (.ireturn, 1) := by decide +kernel
theorem dX8_pointNumbered_0 : decode cX8_pointNumbered 0 = .ok (.iload_n 1, 1) := by decide +kernel
theorem dX8_pointNumbered_1 : decode cX8_pointNumbered 1 = .ok (.ifCond .lt 29, 3) := by decide +kernel
theorem dX8_pointNumbered_4 : decode cX8_pointNumbered 4 = .ok (.iload_n 1, 1) := by decide +kernel
theorem dX8_pointNumbered_5 : decode cX8_pointNumbered 5 = .ok (.aload_n 0, 1) := by decide +kernel
theorem dX8_pointNumbered_6 : decode cX8_pointNumbered 6 = .ok (.getfield 143, 3) := by decide +kernel
theorem dX8_pointNumbered_9 : decode cX8_pointNumbered 9 = .ok (.if_icmp .ge 21, 3) := by decide +kernel
theorem dX8_pointNumbered_12 : decode cX8_pointNumbered 12 = .ok (.iload_n 1, 1) := by decide +kernel
theorem dX8_pointNumbered_13 : decode cX8_pointNumbered 13 = .ok (.aload_n 0, 1) := by decide +kernel
theorem dX8_pointNumbered_14 : decode cX8_pointNumbered 14 = .ok (.getfield 41, 3) := by decide +kernel
theorem dX8_pointNumbered_17 : decode cX8_pointNumbered 17 = .ok (.arraylength, 1) := by decide +kernel
theorem dX8_pointNumbered_18 : decode cX8_pointNumbered 18 = .ok (.if_icmp .ge 12, 3) := by decide +kernel
theorem dX8_pointNumbered_21 : decode cX8_pointNumbered 21 = .ok (.aload_n 0, 1) := by decide +kernel
theorem dX8_pointNumbered_22 : decode cX8_pointNumbered 22 = .ok (.getfield 41, 3) := by decide +kernel
theorem dX8_pointNumbered_25 : decode cX8_pointNumbered 25 = .ok (.iload_n 1, 1) := by decide +kernel
theorem dX8_pointNumbered_26 : decode cX8_pointNumbered 26 = .ok (.aaload, 1) := by decide +kernel
theorem dX8_pointNumbered_27 : decode cX8_pointNumbered 27 = .ok (.goto 4, 3) := by decide +kernel
theorem dX8_pointNumbered_30 : decode cX8_pointNumbered 30 = .ok (.aconst_null, 1) := by decide +kernel
theorem dX8_pointNumbered_31 : decode cX8_pointNumbered 31 = .ok (.areturn, 1) := by decide +kernel
theorem dX8_watchNumbered_0 : decode cX8_watchNumbered 0 = .ok (.iload_n 1, 1) := by decide +kernel
theorem dX8_watchNumbered_1 : decode cX8_watchNumbered 1 = .ok (.ifCond .lt 29, 3) := by decide +kernel
theorem dX8_watchNumbered_4 : decode cX8_watchNumbered 4 = .ok (.iload_n 1, 1) := by decide +kernel
theorem dX8_watchNumbered_5 : decode cX8_watchNumbered 5 = .ok (.aload_n 0, 1) := by decide +kernel
theorem dX8_watchNumbered_6 : decode cX8_watchNumbered 6 = .ok (.getfield 182, 3) := by decide +kernel
theorem dX8_watchNumbered_9 : decode cX8_watchNumbered 9 = .ok (.if_icmp .ge 21, 3) := by decide +kernel
theorem dX8_watchNumbered_12 : decode cX8_watchNumbered 12 = .ok (.iload_n 1, 1) := by decide +kernel
theorem dX8_watchNumbered_13 : decode cX8_watchNumbered 13 = .ok (.aload_n 0, 1) := by decide +kernel
theorem dX8_watchNumbered_14 : decode cX8_watchNumbered 14 = .ok (.getfield 48, 3) := by decide +kernel
theorem dX8_watchNumbered_17 : decode cX8_watchNumbered 17 = .ok (.arraylength, 1) := by decide +kernel
theorem dX8_watchNumbered_18 : decode cX8_watchNumbered 18 = .ok (.if_icmp .ge 12, 3) := by decide +kernel
theorem dX8_watchNumbered_21 : decode cX8_watchNumbered 21 = .ok (.aload_n 0, 1) := by decide +kernel
theorem dX8_watchNumbered_22 : decode cX8_watchNumbered 22 = .ok (.getfield 48, 3) := by decide +kernel
theorem dX8_watchNumbered_25 : decode cX8_watchNumbered 25 = .ok (.iload_n 1, 1) := by decide +kernel
theorem dX8_watchNumbered_26 : decode cX8_watchNumbered 26 = .ok (.aaload, 1) := by decide +kernel
theorem dX8_watchNumbered_27 : decode cX8_watchNumbered 27 = .ok (.goto 4, 3) := by decide +kernel
theorem dX8_watchNumbered_30 : decode cX8_watchNumbered 30 = .ok (.aconst_null, 1) := by decide +kernel
theorem dX8_watchNumbered_31 : decode cX8_watchNumbered 31 = .ok (.areturn, 1) := by decide +kernel
theorem dX8_run_0 : decode cX8_run 0 = .ok (.iload_n 1, 1) := by decide +kernel
theorem dX8_run_1 : decode cX8_run 1 = .ok (.invokestatic 189, 3) := by decide +kernel
theorem dX8_run_4 : decode cX8_run 4 = .ok (.ifCond .ne 13, 3) := by decide +kernel
theorem dX8_run_7 : decode cX8_run 7 = .ok (.new 77, 3) := by decide +kernel
theorem dX8_run_10 : decode cX8_run 10 = .ok (.dup, 1) := by decide +kernel
theorem dX8_run_11 : decode cX8_run 11 = .ok (.ldc 192, 2) := by decide +kernel
theorem dX8_run_13 : decode cX8_run 13 = .ok (.invokespecial 81, 3) := by decide +kernel
theorem dX8_run_16 : decode cX8_run 16 = .ok (.athrow, 1) := by decide +kernel
theorem dX8_run_17 : decode cX8_run 17 = .ok (.aload_n 0, 1) := by decide +kernel
theorem dX8_run_18 : decode cX8_run 18 = .ok (.iload_n 1, 1) := by decide +kernel
theorem dX8_run_19 : decode cX8_run 19 = .ok (.iconst (-1), 1) := by decide +kernel
theorem dX8_run_20 : decode cX8_run 20 = .ok (.invokevirtual 194, 3) := by decide +kernel
theorem dX8_run_23 : decode cX8_run 23 = .ok (.ireturn, 1) := by decide +kernel
theorem dX8_back_0 : decode cX8_back 0 = .ok (.iload_n 1, 1) := by decide +kernel
theorem dX8_back_1 : decode cX8_back 1 = .ok (.iconst 1, 1) := by decide +kernel
theorem dX8_back_2 : decode cX8_back 2 = .ok (.if_icmp .lt 10, 3) := by decide +kernel
theorem dX8_back_5 : decode cX8_back 5 = .ok (.iload_n 1, 1) := by decide +kernel
theorem dX8_back_6 : decode cX8_back 6 = .ok (.sipush 200, 3) := by decide +kernel
theorem dX8_back_9 : decode cX8_back 9 = .ok (.if_icmp .le 13, 3) := by decide +kernel
theorem dX8_back_12 : decode cX8_back 12 = .ok (.new 77, 3) := by decide +kernel
theorem dX8_back_15 : decode cX8_back 15 = .ok (.dup, 1) := by decide +kernel
theorem dX8_back_16 : decode cX8_back 16 = .ok (.ldc 203, 2) := by decide +kernel
theorem dX8_back_18 : decode cX8_back 18 = .ok (.invokespecial 81, 3) := by decide +kernel
theorem dX8_back_21 : decode cX8_back 21 = .ok (.athrow, 1) := by decide +kernel
theorem dX8_back_22 : decode cX8_back 22 = .ok (.iconst 0, 1) := by decide +kernel
theorem dX8_back_23 : decode cX8_back 23 = .ok (.istore_n 2, 1) := by decide +kernel
theorem dX8_back_24 : decode cX8_back 24 = .ok (.iload_n 2, 1) := by decide +kernel
theorem dX8_back_25 : decode cX8_back 25 = .ok (.iload_n 1, 1) := by decide +kernel
theorem dX8_back_26 : decode cX8_back 26 = .ok (.if_icmp .ge 16, 3) := by decide +kernel
theorem dX8_back_29 : decode cX8_back 29 = .ok (.aload_n 0, 1) := by decide +kernel
theorem dX8_back_30 : decode cX8_back 30 = .ok (.invokevirtual 205, 3) := by decide +kernel
theorem dX8_back_33 : decode cX8_back 33 = .ok (.ifnull 9, 3) := by decide +kernel
theorem dX8_back_36 : decode cX8_back 36 = .ok (.iinc 2 1, 3) := by decide +kernel
theorem dX8_back_39 : decode cX8_back 39 = .ok (.goto (-15), 3) := by decide +kernel
theorem dX8_back_42 : decode cX8_back 42 = .ok (.aload_n 0, 1) := by decide +kernel
theorem dX8_back_43 : decode cX8_back 43 = .ok (.bipush 7, 2) := by decide +kernel
theorem dX8_back_45 : decode cX8_back 45 = .ok (.iconst (-1), 1) := by decide +kernel
theorem dX8_back_46 : decode cX8_back 46 = .ok (.invokevirtual 135, 3) := by decide +kernel
theorem dX8_back_49 : decode cX8_back 49 = .ok (.iload_n 2, 1) := by decide +kernel
theorem dX8_back_50 : decode cX8_back 50 = .ok (.ireturn, 1) := by decide +kernel
theorem dX8_isRunLength_0 : decode cX8_isRunLength 0 = .ok (.iload_n 0, 1) := by decide +kernel
theorem dX8_isRunLength_1 : decode cX8_isRunLength 1 = .ok (.iconst 1, 1) := by decide +kernel
theorem dX8_isRunLength_2 : decode cX8_isRunLength 2 = .ok (.if_icmp .lt 14, 3) := by decide +kernel
theorem dX8_isRunLength_5 : decode cX8_isRunLength 5 = .ok (.iload_n 0, 1) := by decide +kernel
theorem dX8_isRunLength_6 : decode cX8_isRunLength 6 = .ok (.sipush 500, 3) := by decide +kernel
theorem dX8_isRunLength_9 : decode cX8_isRunLength 9 = .ok (.if_icmp .gt 7, 3) := by decide +kernel
theorem dX8_isRunLength_12 : decode cX8_isRunLength 12 = .ok (.iconst 1, 1) := by decide +kernel
theorem dX8_isRunLength_13 : decode cX8_isRunLength 13 = .ok (.goto 4, 3) := by decide +kernel
theorem dX8_isRunLength_16 : decode cX8_isRunLength 16 = .ok (.iconst 0, 1) := by decide +kernel
theorem dX8_isRunLength_17 : decode cX8_isRunLength 17 = .ok (.ireturn, 1) := by decide +kernel
theorem dX8_stopBy_0 : decode cX8_stopBy 0 = .ok (.aload_n 0, 1) := by decide +kernel
theorem dX8_stopBy_1 : decode cX8_stopBy 1 = .ok (.iload_n 1, 1) := by decide +kernel
theorem dX8_stopBy_2 : decode cX8_stopBy 2 = .ok (.putfield 60, 3) := by decide +kernel
theorem dX8_stopBy_5 : decode cX8_stopBy 5 = .ok (.aload_n 0, 1) := by decide +kernel
theorem dX8_stopBy_6 : decode cX8_stopBy 6 = .ok (.iload_n 2, 1) := by decide +kernel
theorem dX8_stopBy_7 : decode cX8_stopBy 7 = .ok (.putfield 64, 3) := by decide +kernel
theorem dX8_stopBy_10 : decode cX8_stopBy 10 = .ok (.return_, 1) := by decide +kernel
theorem dX8_runTill_0 : decode cX8_runTill 0 = .ok (.iconst 0, 1) := by decide +kernel
theorem dX8_runTill_1 : decode cX8_runTill 1 = .ok (.istore_n 3, 1) := by decide +kernel
theorem dX8_runTill_2 : decode cX8_runTill 2 = .ok (.iload_n 3, 1) := by decide +kernel
theorem dX8_runTill_3 : decode cX8_runTill 3 = .ok (.iload_n 1, 1) := by decide +kernel
theorem dX8_runTill_4 : decode cX8_runTill 4 = .ok (.if_icmp .ge 51, 3) := by decide +kernel
theorem dX8_runTill_7 : decode cX8_runTill 7 = .ok (.aload_n 0, 1) := by decide +kernel
theorem dX8_runTill_8 : decode cX8_runTill 8 = .ok (.invokevirtual 213, 3) := by decide +kernel
theorem dX8_runTill_11 : decode cX8_runTill 11 = .ok (.ifCond .ne 26, 3) := by decide +kernel
theorem dX8_runTill_14 : decode cX8_runTill 14 = .ok (.aload_n 0, 1) := by decide +kernel
theorem dX8_runTill_15 : decode cX8_runTill 15 = .ok (.aload_n 0, 1) := by decide +kernel
theorem dX8_runTill_16 : decode cX8_runTill 16 = .ok (.getfield 28, 3) := by decide +kernel
theorem dX8_runTill_19 : decode cX8_runTill 19 = .ok (.getfield 216, 3) := by decide +kernel
theorem dX8_runTill_22 : decode cX8_runTill 22 = .ok (.iconst 1, 1) := by decide +kernel
theorem dX8_runTill_23 : decode cX8_runTill 23 = .ok (.if_icmp .ne 7, 3) := by decide +kernel
theorem dX8_runTill_26 : decode cX8_runTill 26 = .ok (.iconst 1, 1) := by decide +kernel
theorem dX8_runTill_27 : decode cX8_runTill 27 = .ok (.goto 4, 3) := by decide +kernel
theorem dX8_runTill_30 : decode cX8_runTill 30 = .ok (.iconst 2, 1) := by decide +kernel
theorem dX8_runTill_31 : decode cX8_runTill 31 = .ok (.iconst (-1), 1) := by decide +kernel
theorem dX8_runTill_32 : decode cX8_runTill 32 = .ok (.invokevirtual 135, 3) := by decide +kernel
theorem dX8_runTill_35 : decode cX8_runTill 35 = .ok (.iload_n 3, 1) := by decide +kernel
theorem dX8_runTill_36 : decode cX8_runTill 36 = .ok (.ireturn, 1) := by decide +kernel
theorem dX8_runTill_37 : decode cX8_runTill 37 = .ok (.aload_n 0, 1) := by decide +kernel
theorem dX8_runTill_38 : decode cX8_runTill 38 = .ok (.iload_n 2, 1) := by decide +kernel
theorem dX8_runTill_39 : decode cX8_runTill 39 = .ok (.invokevirtual 219, 3) := by decide +kernel
theorem dX8_runTill_42 : decode cX8_runTill 42 = .ok (.ifCond .eq 7, 3) := by decide +kernel
theorem dX8_runTill_45 : decode cX8_runTill 45 = .ok (.iload_n 3, 1) := by decide +kernel
theorem dX8_runTill_46 : decode cX8_runTill 46 = .ok (.iconst 1, 1) := by decide +kernel
theorem dX8_runTill_47 : decode cX8_runTill 47 = .ok (.iadd, 1) := by decide +kernel
theorem dX8_runTill_48 : decode cX8_runTill 48 = .ok (.ireturn, 1) := by decide +kernel
theorem dX8_runTill_49 : decode cX8_runTill 49 = .ok (.iinc 3 1, 3) := by decide +kernel
theorem dX8_runTill_52 : decode cX8_runTill 52 = .ok (.goto (-50), 3) := by decide +kernel
theorem dX8_runTill_55 : decode cX8_runTill 55 = .ok (.aload_n 0, 1) := by decide +kernel
theorem dX8_runTill_56 : decode cX8_runTill 56 = .ok (.bipush 6, 2) := by decide +kernel
theorem dX8_runTill_58 : decode cX8_runTill 58 = .ok (.iconst (-1), 1) := by decide +kernel
theorem dX8_runTill_59 : decode cX8_runTill 59 = .ok (.invokevirtual 135, 3) := by decide +kernel
theorem dX8_runTill_62 : decode cX8_runTill 62 = .ok (.iload_n 1, 1) := by decide +kernel
theorem dX8_runTill_63 : decode cX8_runTill 63 = .ok (.ireturn, 1) := by decide +kernel
theorem dX8_doStep_0 : decode cX8_doStep 0 = .ok (.aload_n 0, 1) := by decide +kernel
theorem dX8_doStep_1 : decode cX8_doStep 1 = .ok (.getfield 28, 3) := by decide +kernel
theorem dX8_doStep_4 : decode cX8_doStep 4 = .ok (.aload_n 0, 1) := by decide +kernel
theorem dX8_doStep_5 : decode cX8_doStep 5 = .ok (.getfield 10, 3) := by decide +kernel
theorem dX8_doStep_8 : decode cX8_doStep 8 = .ok (.invokevirtual 222, 3) := by decide +kernel
theorem dX8_doStep_11 : decode cX8_doStep 11 = .ok (.ifCond .ne 5, 3) := by decide +kernel
theorem dX8_doStep_14 : decode cX8_doStep 14 = .ok (.iconst 0, 1) := by decide +kernel
theorem dX8_doStep_15 : decode cX8_doStep 15 = .ok (.ireturn, 1) := by decide +kernel
theorem dX8_doStep_16 : decode cX8_doStep 16 = .ok (.aload_n 0, 1) := by decide +kernel
theorem dX8_doStep_17 : decode cX8_doStep 17 = .ok (.getfield 10, 3) := by decide +kernel
theorem dX8_doStep_20 : decode cX8_doStep 20 = .ok (.aload_n 0, 1) := by decide +kernel
theorem dX8_doStep_21 : decode cX8_doStep 21 = .ok (.getfield 28, 3) := by decide +kernel
theorem dX8_doStep_24 : decode cX8_doStep 24 = .ok (.getfield 226, 3) := by decide +kernel
theorem dX8_doStep_27 : decode cX8_doStep 27 = .ok (.invokevirtual 229, 3) := by decide +kernel
theorem dX8_doStep_30 : decode cX8_doStep 30 = .ok (.aload_n 0, 1) := by decide +kernel
theorem dX8_doStep_31 : decode cX8_doStep 31 = .ok (.getfield 28, 3) := by decide +kernel
theorem dX8_doStep_34 : decode cX8_doStep 34 = .ok (.aload_n 0, 1) := by decide +kernel
theorem dX8_doStep_35 : decode cX8_doStep 35 = .ok (.getfield 35, 3) := by decide +kernel
theorem dX8_doStep_38 : decode cX8_doStep 38 = .ok (.invokevirtual 232, 3) := by decide +kernel
theorem dX8_doStep_41 : decode cX8_doStep 41 = .ok (.aload_n 0, 1) := by decide +kernel
theorem dX8_doStep_42 : decode cX8_doStep 42 = .ok (.getfield 10, 3) := by decide +kernel
theorem dX8_doStep_45 : decode cX8_doStep 45 = .ok (.invokevirtual 235, 3) := by decide +kernel
theorem dX8_doStep_48 : decode cX8_doStep 48 = .ok (.aload_n 0, 1) := by decide +kernel
theorem dX8_doStep_49 : decode cX8_doStep 49 = .ok (.getfield 28, 3) := by decide +kernel
theorem dX8_doStep_52 : decode cX8_doStep 52 = .ok (.aload_n 0, 1) := by decide +kernel
theorem dX8_doStep_53 : decode cX8_doStep 53 = .ok (.getfield 10, 3) := by decide +kernel
theorem dX8_doStep_56 : decode cX8_doStep 56 = .ok (.aload_n 0, 1) := by decide +kernel
theorem dX8_doStep_57 : decode cX8_doStep 57 = .ok (.getfield 21, 3) := by decide +kernel
theorem dX8_doStep_60 : decode cX8_doStep 60 = .ok (.invokevirtual 239, 3) := by decide +kernel
theorem dX8_doStep_63 : decode cX8_doStep 63 = .ok (.iconst 1, 1) := by decide +kernel
theorem dX8_doStep_64 : decode cX8_doStep 64 = .ok (.ireturn, 1) := by decide +kernel
theorem dX8_stopsRun_0 : decode cX8_stopsRun 0 = .ok (.aload_n 0, 1) := by decide +kernel
theorem dX8_stopsRun_1 : decode cX8_stopsRun 1 = .ok (.getfield 28, 3) := by decide +kernel
theorem dX8_stopsRun_4 : decode cX8_stopsRun 4 = .ok (.getfield 216, 3) := by decide +kernel
theorem dX8_stopsRun_7 : decode cX8_stopsRun 7 = .ok (.iconst 1, 1) := by decide +kernel
theorem dX8_stopsRun_8 : decode cX8_stopsRun 8 = .ok (.if_icmp .ne 11, 3) := by decide +kernel
theorem dX8_stopsRun_11 : decode cX8_stopsRun 11 = .ok (.aload_n 0, 1) := by decide +kernel
theorem dX8_stopsRun_12 : decode cX8_stopsRun 12 = .ok (.iconst 1, 1) := by decide +kernel
theorem dX8_stopsRun_13 : decode cX8_stopsRun 13 = .ok (.iconst (-1), 1) := by decide +kernel
theorem dX8_stopsRun_14 : decode cX8_stopsRun 14 = .ok (.invokevirtual 135, 3) := by decide +kernel
theorem dX8_stopsRun_17 : decode cX8_stopsRun 17 = .ok (.iconst 1, 1) := by decide +kernel
theorem dX8_stopsRun_18 : decode cX8_stopsRun 18 = .ok (.ireturn, 1) := by decide +kernel
theorem dX8_stopsRun_19 : decode cX8_stopsRun 19 = .ok (.aload_n 0, 1) := by decide +kernel
theorem dX8_stopsRun_20 : decode cX8_stopsRun 20 = .ok (.invokevirtual 243, 3) := by decide +kernel
theorem dX8_stopsRun_23 : decode cX8_stopsRun 23 = .ok (.istore_n 2, 1) := by decide +kernel
theorem dX8_stopsRun_24 : decode cX8_stopsRun 24 = .ok (.iload_n 2, 1) := by decide +kernel
theorem dX8_stopsRun_25 : decode cX8_stopsRun 25 = .ok (.iconst (-1), 1) := by decide +kernel
theorem dX8_stopsRun_26 : decode cX8_stopsRun 26 = .ok (.if_icmp .eq 11, 3) := by decide +kernel
theorem dX8_stopsRun_29 : decode cX8_stopsRun 29 = .ok (.aload_n 0, 1) := by decide +kernel
theorem dX8_stopsRun_30 : decode cX8_stopsRun 30 = .ok (.iconst 3, 1) := by decide +kernel
theorem dX8_stopsRun_31 : decode cX8_stopsRun 31 = .ok (.iload_n 2, 1) := by decide +kernel
theorem dX8_stopsRun_32 : decode cX8_stopsRun 32 = .ok (.invokevirtual 135, 3) := by decide +kernel
theorem dX8_stopsRun_35 : decode cX8_stopsRun 35 = .ok (.iconst 1, 1) := by decide +kernel
theorem dX8_stopsRun_36 : decode cX8_stopsRun 36 = .ok (.ireturn, 1) := by decide +kernel
theorem dX8_stopsRun_37 : decode cX8_stopsRun 37 = .ok (.aload_n 0, 1) := by decide +kernel
theorem dX8_stopsRun_38 : decode cX8_stopsRun 38 = .ok (.getfield 28, 3) := by decide +kernel
theorem dX8_stopsRun_41 : decode cX8_stopsRun 41 = .ok (.getfield 198, 3) := by decide +kernel
theorem dX8_stopsRun_44 : decode cX8_stopsRun 44 = .ok (.invokevirtual 124, 3) := by decide +kernel
theorem dX8_stopsRun_47 : decode cX8_stopsRun 47 = .ok (.iload_n 1, 1) := by decide +kernel
theorem dX8_stopsRun_48 : decode cX8_stopsRun 48 = .ok (.if_icmp .gt 11, 3) := by decide +kernel
theorem dX8_stopsRun_51 : decode cX8_stopsRun 51 = .ok (.aload_n 0, 1) := by decide +kernel
theorem dX8_stopsRun_52 : decode cX8_stopsRun 52 = .ok (.iconst 4, 1) := by decide +kernel
theorem dX8_stopsRun_53 : decode cX8_stopsRun 53 = .ok (.iconst (-1), 1) := by decide +kernel
theorem dX8_stopsRun_54 : decode cX8_stopsRun 54 = .ok (.invokevirtual 135, 3) := by decide +kernel
theorem dX8_stopsRun_57 : decode cX8_stopsRun 57 = .ok (.iconst 1, 1) := by decide +kernel
theorem dX8_stopsRun_58 : decode cX8_stopsRun 58 = .ok (.ireturn, 1) := by decide +kernel
theorem dX8_stopsRun_59 : decode cX8_stopsRun 59 = .ok (.aload_n 0, 1) := by decide +kernel
theorem dX8_stopsRun_60 : decode cX8_stopsRun 60 = .ok (.invokevirtual 246, 3) := by decide +kernel
theorem dX8_stopsRun_63 : decode cX8_stopsRun 63 = .ok (.istore_n 3, 1) := by decide +kernel
theorem dX8_stopsRun_64 : decode cX8_stopsRun 64 = .ok (.aload_n 0, 1) := by decide +kernel
theorem dX8_stopsRun_65 : decode cX8_stopsRun 65 = .ok (.iload_n 3, 1) := by decide +kernel
theorem dX8_stopsRun_66 : decode cX8_stopsRun 66 = .ok (.invokevirtual 151, 3) := by decide +kernel
theorem dX8_stopsRun_69 : decode cX8_stopsRun 69 = .ok (.astore 4, 2) := by decide +kernel
theorem dX8_stopsRun_71 : decode cX8_stopsRun 71 = .ok (.aload 4, 2) := by decide +kernel
theorem dX8_stopsRun_73 : decode cX8_stopsRun 73 = .ok (.ifnull 22, 3) := by decide +kernel
theorem dX8_stopsRun_76 : decode cX8_stopsRun 76 = .ok (.aload_n 0, 1) := by decide +kernel
theorem dX8_stopsRun_77 : decode cX8_stopsRun 77 = .ok (.iconst 5, 1) := by decide +kernel
theorem dX8_stopsRun_78 : decode cX8_stopsRun 78 = .ok (.iload_n 3, 1) := by decide +kernel
theorem dX8_stopsRun_79 : decode cX8_stopsRun 79 = .ok (.invokevirtual 135, 3) := by decide +kernel
theorem dX8_stopsRun_82 : decode cX8_stopsRun 82 = .ok (.aload 4, 2) := by decide +kernel
theorem dX8_stopsRun_84 : decode cX8_stopsRun 84 = .ok (.dup, 1) := by decide +kernel
theorem dX8_stopsRun_85 : decode cX8_stopsRun 85 = .ok (.getfield 249, 3) := by decide +kernel
theorem dX8_stopsRun_88 : decode cX8_stopsRun 88 = .ok (.iconst 1, 1) := by decide +kernel
theorem dX8_stopsRun_89 : decode cX8_stopsRun 89 = .ok (.iadd, 1) := by decide +kernel
theorem dX8_stopsRun_90 : decode cX8_stopsRun 90 = .ok (.putfield 249, 3) := by decide +kernel
theorem dX8_stopsRun_93 : decode cX8_stopsRun 93 = .ok (.iconst 1, 1) := by decide +kernel
theorem dX8_stopsRun_94 : decode cX8_stopsRun 94 = .ok (.ireturn, 1) := by decide +kernel
theorem dX8_stopsRun_95 : decode cX8_stopsRun 95 = .ok (.iconst 0, 1) := by decide +kernel
theorem dX8_stopsRun_96 : decode cX8_stopsRun 96 = .ok (.ireturn, 1) := by decide +kernel
theorem dX8_watchMet_0 : decode cX8_watchMet 0 = .ok (.aload_n 0, 1) := by decide +kernel
theorem dX8_watchMet_1 : decode cX8_watchMet 1 = .ok (.getfield 35, 3) := by decide +kernel
theorem dX8_watchMet_4 : decode cX8_watchMet 4 = .ok (.iconst 1, 1) := by decide +kernel
theorem dX8_watchMet_5 : decode cX8_watchMet 5 = .ok (.invokevirtual 252, 3) := by decide +kernel
theorem dX8_watchMet_8 : decode cX8_watchMet 8 = .ok (.astore_n 1, 1) := by decide +kernel
theorem dX8_watchMet_9 : decode cX8_watchMet 9 = .ok (.aload_n 1, 1) := by decide +kernel
theorem dX8_watchMet_10 : decode cX8_watchMet 10 = .ok (.ifnonnull 5, 3) := by decide +kernel
theorem dX8_watchMet_13 : decode cX8_watchMet 13 = .ok (.iconst (-1), 1) := by decide +kernel
theorem dX8_watchMet_14 : decode cX8_watchMet 14 = .ok (.ireturn, 1) := by decide +kernel
theorem dX8_watchMet_15 : decode cX8_watchMet 15 = .ok (.iconst 0, 1) := by decide +kernel
theorem dX8_watchMet_16 : decode cX8_watchMet 16 = .ok (.istore_n 2, 1) := by decide +kernel
theorem dX8_watchMet_17 : decode cX8_watchMet 17 = .ok (.iload_n 2, 1) := by decide +kernel
theorem dX8_watchMet_18 : decode cX8_watchMet 18 = .ok (.aload_n 0, 1) := by decide +kernel
theorem dX8_watchMet_19 : decode cX8_watchMet 19 = .ok (.getfield 182, 3) := by decide +kernel
theorem dX8_watchMet_22 : decode cX8_watchMet 22 = .ok (.if_icmp .ge 29, 3) := by decide +kernel
theorem dX8_watchMet_25 : decode cX8_watchMet 25 = .ok (.aload_n 0, 1) := by decide +kernel
theorem dX8_watchMet_26 : decode cX8_watchMet 26 = .ok (.iload_n 2, 1) := by decide +kernel
theorem dX8_watchMet_27 : decode cX8_watchMet 27 = .ok (.invokevirtual 256, 3) := by decide +kernel
theorem dX8_watchMet_30 : decode cX8_watchMet 30 = .ok (.astore_n 3, 1) := by decide +kernel
theorem dX8_watchMet_31 : decode cX8_watchMet 31 = .ok (.aload_n 3, 1) := by decide +kernel
theorem dX8_watchMet_32 : decode cX8_watchMet 32 = .ok (.ifnull 13, 3) := by decide +kernel
theorem dX8_watchMet_35 : decode cX8_watchMet 35 = .ok (.aload_n 3, 1) := by decide +kernel
theorem dX8_watchMet_36 : decode cX8_watchMet 36 = .ok (.aload_n 1, 1) := by decide +kernel
theorem dX8_watchMet_37 : decode cX8_watchMet 37 = .ok (.invokevirtual 260, 3) := by decide +kernel
theorem dX8_watchMet_40 : decode cX8_watchMet 40 = .ok (.ifCond .eq 5, 3) := by decide +kernel
theorem dX8_watchMet_43 : decode cX8_watchMet 43 = .ok (.iload_n 2, 1) := by decide +kernel
theorem dX8_watchMet_44 : decode cX8_watchMet 44 = .ok (.ireturn, 1) := by decide +kernel
theorem dX8_watchMet_45 : decode cX8_watchMet 45 = .ok (.iinc 2 1, 3) := by decide +kernel
theorem dX8_watchMet_48 : decode cX8_watchMet 48 = .ok (.goto (-31), 3) := by decide +kernel
theorem dX8_watchMet_51 : decode cX8_watchMet 51 = .ok (.iconst (-1), 1) := by decide +kernel
theorem dX8_watchMet_52 : decode cX8_watchMet 52 = .ok (.ireturn, 1) := by decide +kernel
theorem dX8_pointStopping_0 : decode cX8_pointStopping 0 = .ok (.iconst (-1), 1) := by decide +kernel
theorem dX8_pointStopping_1 : decode cX8_pointStopping 1 = .ok (.istore_n 1, 1) := by decide +kernel
theorem dX8_pointStopping_2 : decode cX8_pointStopping 2 = .ok (.iconst 0, 1) := by decide +kernel
theorem dX8_pointStopping_3 : decode cX8_pointStopping 3 = .ok (.istore_n 2, 1) := by decide +kernel
theorem dX8_pointStopping_4 : decode cX8_pointStopping 4 = .ok (.iload_n 2, 1) := by decide +kernel
theorem dX8_pointStopping_5 : decode cX8_pointStopping 5 = .ok (.aload_n 0, 1) := by decide +kernel
theorem dX8_pointStopping_6 : decode cX8_pointStopping 6 = .ok (.getfield 143, 3) := by decide +kernel
theorem dX8_pointStopping_9 : decode cX8_pointStopping 9 = .ok (.if_icmp .ge 44, 3) := by decide +kernel
theorem dX8_pointStopping_12 : decode cX8_pointStopping 12 = .ok (.aload_n 0, 1) := by decide +kernel
theorem dX8_pointStopping_13 : decode cX8_pointStopping 13 = .ok (.iload_n 2, 1) := by decide +kernel
theorem dX8_pointStopping_14 : decode cX8_pointStopping 14 = .ok (.invokevirtual 151, 3) := by decide +kernel
theorem dX8_pointStopping_17 : decode cX8_pointStopping 17 = .ok (.astore_n 3, 1) := by decide +kernel
theorem dX8_pointStopping_18 : decode cX8_pointStopping 18 = .ok (.aload_n 3, 1) := by decide +kernel
theorem dX8_pointStopping_19 : decode cX8_pointStopping 19 = .ok (.ifnull 28, 3) := by decide +kernel
theorem dX8_pointStopping_22 : decode cX8_pointStopping 22 = .ok (.aload_n 3, 1) := by decide +kernel
theorem dX8_pointStopping_23 : decode cX8_pointStopping 23 = .ok (.aload_n 0, 1) := by decide +kernel
theorem dX8_pointStopping_24 : decode cX8_pointStopping 24 = .ok (.getfield 28, 3) := by decide +kernel
theorem dX8_pointStopping_27 : decode cX8_pointStopping 27 = .ok (.invokevirtual 263, 3) := by decide +kernel
theorem dX8_pointStopping_30 : decode cX8_pointStopping 30 = .ok (.ifCond .eq 17, 3) := by decide +kernel
theorem dX8_pointStopping_33 : decode cX8_pointStopping 33 = .ok (.aload_n 3, 1) := by decide +kernel
theorem dX8_pointStopping_34 : decode cX8_pointStopping 34 = .ok (.invokevirtual 267, 3) := by decide +kernel
theorem dX8_pointStopping_37 : decode cX8_pointStopping 37 = .ok (.ifCond .ne 10, 3) := by decide +kernel
theorem dX8_pointStopping_40 : decode cX8_pointStopping 40 = .ok (.iload_n 1, 1) := by decide +kernel
theorem dX8_pointStopping_41 : decode cX8_pointStopping 41 = .ok (.iconst (-1), 1) := by decide +kernel
theorem dX8_pointStopping_42 : decode cX8_pointStopping 42 = .ok (.if_icmp .ne 5, 3) := by decide +kernel
theorem dX8_pointStopping_45 : decode cX8_pointStopping 45 = .ok (.iload_n 2, 1) := by decide +kernel
theorem dX8_pointStopping_46 : decode cX8_pointStopping 46 = .ok (.istore_n 1, 1) := by decide +kernel
theorem dX8_pointStopping_47 : decode cX8_pointStopping 47 = .ok (.iinc 2 1, 3) := by decide +kernel
theorem dX8_pointStopping_50 : decode cX8_pointStopping 50 = .ok (.goto (-46), 3) := by decide +kernel
theorem dX8_pointStopping_53 : decode cX8_pointStopping 53 = .ok (.iload_n 1, 1) := by decide +kernel
theorem dX8_pointStopping_54 : decode cX8_pointStopping 54 = .ok (.ireturn, 1) := by decide +kernel
theorem dX8_goBack_0 : decode cX8_goBack 0 = .ok (.aload_n 0, 1) := by decide +kernel
theorem dX8_goBack_1 : decode cX8_goBack 1 = .ok (.getfield 35, 3) := by decide +kernel
theorem dX8_goBack_4 : decode cX8_goBack 4 = .ok (.iconst 1, 1) := by decide +kernel
theorem dX8_goBack_5 : decode cX8_goBack 5 = .ok (.invokevirtual 252, 3) := by decide +kernel
theorem dX8_goBack_8 : decode cX8_goBack 8 = .ok (.astore_n 1, 1) := by decide +kernel
theorem dX8_goBack_9 : decode cX8_goBack 9 = .ok (.aload_n 1, 1) := by decide +kernel
theorem dX8_goBack_10 : decode cX8_goBack 10 = .ok (.ifnull 18, 3) := by decide +kernel
theorem dX8_goBack_13 : decode cX8_goBack 13 = .ok (.aload_n 0, 1) := by decide +kernel
theorem dX8_goBack_14 : decode cX8_goBack 14 = .ok (.getfield 28, 3) := by decide +kernel
theorem dX8_goBack_17 : decode cX8_goBack 17 = .ok (.aload_n 1, 1) := by decide +kernel
theorem dX8_goBack_18 : decode cX8_goBack 18 = .ok (.invokevirtual 270, 3) := by decide +kernel
theorem dX8_goBack_21 : decode cX8_goBack 21 = .ok (.aload_n 0, 1) := by decide +kernel
theorem dX8_goBack_22 : decode cX8_goBack 22 = .ok (.getfield 35, 3) := by decide +kernel
theorem dX8_goBack_25 : decode cX8_goBack 25 = .ok (.invokevirtual 274, 3) := by decide +kernel
theorem dX8_goBack_28 : decode cX8_goBack 28 = .ok (.aload_n 1, 1) := by decide +kernel
theorem dX8_goBack_29 : decode cX8_goBack 29 = .ok (.areturn, 1) := by decide +kernel
theorem dX8_told_0 : decode cX8_told 0 = .ok (.iload_n 1, 1) := by decide +kernel
theorem dX8_told_1 : decode cX8_told 1 = .ok (.tableswitch 138 0 9 #[55, 63, 71, 79, 90, 101, 109, 120, 128, 133], 55) := by decide +kernel
theorem dX8_told_56 : decode cX8_told 56 = .ok (.aload_n 0, 1) := by decide +kernel
theorem dX8_told_57 : decode cX8_told 57 = .ok (.getfield 28, 3) := by decide +kernel
theorem dX8_told_60 : decode cX8_told 60 = .ok (.getfield 226, 3) := by decide +kernel
theorem dX8_told_63 : decode cX8_told 63 = .ok (.ireturn, 1) := by decide +kernel
theorem dX8_told_64 : decode cX8_told 64 = .ok (.aload_n 0, 1) := by decide +kernel
theorem dX8_told_65 : decode cX8_told 65 = .ok (.getfield 28, 3) := by decide +kernel
theorem dX8_told_68 : decode cX8_told 68 = .ok (.getfield 216, 3) := by decide +kernel
theorem dX8_told_71 : decode cX8_told 71 = .ok (.ireturn, 1) := by decide +kernel
theorem dX8_told_72 : decode cX8_told 72 = .ok (.aload_n 0, 1) := by decide +kernel
theorem dX8_told_73 : decode cX8_told 73 = .ok (.getfield 28, 3) := by decide +kernel
theorem dX8_told_76 : decode cX8_told 76 = .ok (.getfield 283, 3) := by decide +kernel
theorem dX8_told_79 : decode cX8_told 79 = .ok (.ireturn, 1) := by decide +kernel
theorem dX8_told_80 : decode cX8_told 80 = .ok (.aload_n 0, 1) := by decide +kernel
theorem dX8_told_81 : decode cX8_told 81 = .ok (.getfield 28, 3) := by decide +kernel
theorem dX8_told_84 : decode cX8_told 84 = .ok (.getfield 286, 3) := by decide +kernel
theorem dX8_told_87 : decode cX8_told 87 = .ok (.invokevirtual 124, 3) := by decide +kernel
theorem dX8_told_90 : decode cX8_told 90 = .ok (.ireturn, 1) := by decide +kernel
theorem dX8_told_91 : decode cX8_told 91 = .ok (.aload_n 0, 1) := by decide +kernel
theorem dX8_told_92 : decode cX8_told 92 = .ok (.getfield 28, 3) := by decide +kernel
theorem dX8_told_95 : decode cX8_told 95 = .ok (.getfield 198, 3) := by decide +kernel
theorem dX8_told_98 : decode cX8_told 98 = .ok (.invokevirtual 124, 3) := by decide +kernel
theorem dX8_told_101 : decode cX8_told 101 = .ok (.ireturn, 1) := by decide +kernel
theorem dX8_told_102 : decode cX8_told 102 = .ok (.aload_n 0, 1) := by decide +kernel
theorem dX8_told_103 : decode cX8_told 103 = .ok (.getfield 28, 3) := by decide +kernel
theorem dX8_told_106 : decode cX8_told 106 = .ok (.getfield 289, 3) := by decide +kernel
theorem dX8_told_109 : decode cX8_told 109 = .ok (.ireturn, 1) := by decide +kernel
theorem dX8_told_110 : decode cX8_told 110 = .ok (.aload_n 0, 1) := by decide +kernel
theorem dX8_told_111 : decode cX8_told 111 = .ok (.getfield 28, 3) := by decide +kernel
theorem dX8_told_114 : decode cX8_told 114 = .ok (.getfield 292, 3) := by decide +kernel
theorem dX8_told_117 : decode cX8_told 117 = .ok (.invokevirtual 124, 3) := by decide +kernel
theorem dX8_told_120 : decode cX8_told 120 = .ok (.ireturn, 1) := by decide +kernel
theorem dX8_told_121 : decode cX8_told 121 = .ok (.aload_n 0, 1) := by decide +kernel
theorem dX8_told_122 : decode cX8_told 122 = .ok (.getfield 35, 3) := by decide +kernel
theorem dX8_told_125 : decode cX8_told 125 = .ok (.invokevirtual 295, 3) := by decide +kernel
theorem dX8_told_128 : decode cX8_told 128 = .ok (.ireturn, 1) := by decide +kernel
theorem dX8_told_129 : decode cX8_told 129 = .ok (.aload_n 0, 1) := by decide +kernel
theorem dX8_told_130 : decode cX8_told 130 = .ok (.getfield 60, 3) := by decide +kernel
theorem dX8_told_133 : decode cX8_told 133 = .ok (.ireturn, 1) := by decide +kernel
theorem dX8_told_134 : decode cX8_told 134 = .ok (.aload_n 0, 1) := by decide +kernel
theorem dX8_told_135 : decode cX8_told 135 = .ok (.getfield 64, 3) := by decide +kernel
theorem dX8_told_138 : decode cX8_told 138 = .ok (.ireturn, 1) := by decide +kernel
theorem dX8_told_139 : decode cX8_told 139 = .ok (.new 77, 3) := by decide +kernel
theorem dX8_told_142 : decode cX8_told 142 = .ok (.dup, 1) := by decide +kernel
theorem dX8_told_143 : decode cX8_told 143 = .ok (.ldc_w 296, 3) := by decide +kernel
theorem dX8_told_146 : decode cX8_told 146 = .ok (.invokespecial 81, 3) := by decide +kernel
theorem dX8_told_149 : decode cX8_told 149 = .ok (.athrow, 1) := by decide +kernel
theorem dX8_stack_0 : decode cX8_stack 0 = .ok (.aload_n 0, 1) := by decide +kernel
theorem dX8_stack_1 : decode cX8_stack 1 = .ok (.getfield 28, 3) := by decide +kernel
theorem dX8_stack_4 : decode cX8_stack 4 = .ok (.getfield 286, 3) := by decide +kernel
theorem dX8_stack_7 : decode cX8_stack 7 = .ok (.iload_n 1, 1) := by decide +kernel
theorem dX8_stack_8 : decode cX8_stack 8 = .ok (.invokevirtual 298, 3) := by decide +kernel
theorem dX8_stack_11 : decode cX8_stack 11 = .ok (.ifCond .ne 14, 3) := by decide +kernel
theorem dX8_stack_14 : decode cX8_stack 14 = .ok (.new 105, 3) := by decide +kernel
theorem dX8_stack_17 : decode cX8_stack 17 = .ok (.dup, 1) := by decide +kernel
theorem dX8_stack_18 : decode cX8_stack 18 = .ok (.ldc_w 299, 3) := by decide +kernel
theorem dX8_stack_21 : decode cX8_stack 21 = .ok (.invokespecial 109, 3) := by decide +kernel
theorem dX8_stack_24 : decode cX8_stack 24 = .ok (.athrow, 1) := by decide +kernel
theorem dX8_stack_25 : decode cX8_stack 25 = .ok (.aload_n 0, 1) := by decide +kernel
theorem dX8_stack_26 : decode cX8_stack 26 = .ok (.getfield 28, 3) := by decide +kernel
theorem dX8_stack_29 : decode cX8_stack 29 = .ok (.getfield 286, 3) := by decide +kernel
theorem dX8_stack_32 : decode cX8_stack 32 = .ok (.iload_n 1, 1) := by decide +kernel
theorem dX8_stack_33 : decode cX8_stack 33 = .ok (.invokevirtual 301, 3) := by decide +kernel
theorem dX8_stack_36 : decode cX8_stack 36 = .ok (.ireturn, 1) := by decide +kernel
theorem dX8_cell_0 : decode cX8_cell 0 = .ok (.iload_n 1, 1) := by decide +kernel
theorem dX8_cell_1 : decode cX8_cell 1 = .ok (.invokestatic 157, 3) := by decide +kernel
theorem dX8_cell_4 : decode cX8_cell 4 = .ok (.ifCond .ne 14, 3) := by decide +kernel
theorem dX8_cell_7 : decode cX8_cell 7 = .ok (.new 105, 3) := by decide +kernel
theorem dX8_cell_10 : decode cX8_cell 10 = .ok (.dup, 1) := by decide +kernel
theorem dX8_cell_11 : decode cX8_cell 11 = .ok (.ldc_w 304, 3) := by decide +kernel
theorem dX8_cell_14 : decode cX8_cell 14 = .ok (.invokespecial 109, 3) := by decide +kernel
theorem dX8_cell_17 : decode cX8_cell 17 = .ok (.athrow, 1) := by decide +kernel
theorem dX8_cell_18 : decode cX8_cell 18 = .ok (.aload_n 0, 1) := by decide +kernel
theorem dX8_cell_19 : decode cX8_cell 19 = .ok (.getfield 28, 3) := by decide +kernel
theorem dX8_cell_22 : decode cX8_cell 22 = .ok (.getfield 306, 3) := by decide +kernel
theorem dX8_cell_25 : decode cX8_cell 25 = .ok (.iload_n 1, 1) := by decide +kernel
theorem dX8_cell_26 : decode cX8_cell 26 = .ok (.invokevirtual 309, 3) := by decide +kernel
theorem dX8_cell_29 : decode cX8_cell 29 = .ok (.ireturn, 1) := by decide +kernel
theorem dX8_frame_0 : decode cX8_frame 0 = .ok (.aload_n 0, 1) := by decide +kernel
theorem dX8_frame_1 : decode cX8_frame 1 = .ok (.getfield 28, 3) := by decide +kernel
theorem dX8_frame_4 : decode cX8_frame 4 = .ok (.getfield 198, 3) := by decide +kernel
theorem dX8_frame_7 : decode cX8_frame 7 = .ok (.iload_n 1, 1) := by decide +kernel
theorem dX8_frame_8 : decode cX8_frame 8 = .ok (.invokevirtual 298, 3) := by decide +kernel
theorem dX8_frame_11 : decode cX8_frame 11 = .ok (.ifCond .ne 14, 3) := by decide +kernel
theorem dX8_frame_14 : decode cX8_frame 14 = .ok (.new 105, 3) := by decide +kernel
theorem dX8_frame_17 : decode cX8_frame 17 = .ok (.dup, 1) := by decide +kernel
theorem dX8_frame_18 : decode cX8_frame 18 = .ok (.ldc_w 312, 3) := by decide +kernel
theorem dX8_frame_21 : decode cX8_frame 21 = .ok (.invokespecial 109, 3) := by decide +kernel
theorem dX8_frame_24 : decode cX8_frame 24 = .ok (.athrow, 1) := by decide +kernel
theorem dX8_frame_25 : decode cX8_frame 25 = .ok (.aload_n 0, 1) := by decide +kernel
theorem dX8_frame_26 : decode cX8_frame 26 = .ok (.getfield 28, 3) := by decide +kernel
theorem dX8_frame_29 : decode cX8_frame 29 = .ok (.getfield 198, 3) := by decide +kernel
theorem dX8_frame_32 : decode cX8_frame 32 = .ok (.iload_n 1, 1) := by decide +kernel
theorem dX8_frame_33 : decode cX8_frame 33 = .ok (.invokevirtual 301, 3) := by decide +kernel
theorem dX8_frame_36 : decode cX8_frame 36 = .ok (.ireturn, 1) := by decide +kernel
theorem dX8_output_0 : decode cX8_output 0 = .ok (.aload_n 0, 1) := by decide +kernel
theorem dX8_output_1 : decode cX8_output 1 = .ok (.getfield 28, 3) := by decide +kernel
theorem dX8_output_4 : decode cX8_output 4 = .ok (.getfield 292, 3) := by decide +kernel
theorem dX8_output_7 : decode cX8_output 7 = .ok (.iload_n 1, 1) := by decide +kernel
theorem dX8_output_8 : decode cX8_output 8 = .ok (.invokevirtual 298, 3) := by decide +kernel
theorem dX8_output_11 : decode cX8_output 11 = .ok (.ifCond .ne 14, 3) := by decide +kernel
theorem dX8_output_14 : decode cX8_output 14 = .ok (.new 105, 3) := by decide +kernel
theorem dX8_output_17 : decode cX8_output 17 = .ok (.dup, 1) := by decide +kernel
theorem dX8_output_18 : decode cX8_output 18 = .ok (.ldc_w 314, 3) := by decide +kernel
theorem dX8_output_21 : decode cX8_output 21 = .ok (.invokespecial 109, 3) := by decide +kernel
theorem dX8_output_24 : decode cX8_output 24 = .ok (.athrow, 1) := by decide +kernel
theorem dX8_output_25 : decode cX8_output 25 = .ok (.aload_n 0, 1) := by decide +kernel
theorem dX8_output_26 : decode cX8_output 26 = .ok (.getfield 28, 3) := by decide +kernel
theorem dX8_output_29 : decode cX8_output 29 = .ok (.getfield 292, 3) := by decide +kernel
theorem dX8_output_32 : decode cX8_output 32 = .ok (.iload_n 1, 1) := by decide +kernel
theorem dX8_output_33 : decode cX8_output 33 = .ok (.invokevirtual 309, 3) := by decide +kernel
theorem dX8_output_36 : decode cX8_output 36 = .ok (.ireturn, 1) := by decide +kernel
theorem dX8_ofStep_0 : decode cX8_ofStep 0 = .ok (.aload_n 0, 1) := by decide +kernel
theorem dX8_ofStep_1 : decode cX8_ofStep 1 = .ok (.getfield 10, 3) := by decide +kernel
theorem dX8_ofStep_4 : decode cX8_ofStep 4 = .ok (.iload_n 1, 1) := by decide +kernel
theorem dX8_ofStep_5 : decode cX8_ofStep 5 = .ok (.invokevirtual 101, 3) := by decide +kernel
theorem dX8_ofStep_8 : decode cX8_ofStep 8 = .ok (.ifCond .ne 13, 3) := by decide +kernel
theorem dX8_ofStep_11 : decode cX8_ofStep 11 = .ok (.new 105, 3) := by decide +kernel
theorem dX8_ofStep_14 : decode cX8_ofStep 14 = .ok (.dup, 1) := by decide +kernel
theorem dX8_ofStep_15 : decode cX8_ofStep 15 = .ok (.ldc 107, 2) := by decide +kernel
theorem dX8_ofStep_17 : decode cX8_ofStep 17 = .ok (.invokespecial 109, 3) := by decide +kernel
theorem dX8_ofStep_20 : decode cX8_ofStep 20 = .ok (.athrow, 1) := by decide +kernel
theorem dX8_ofStep_21 : decode cX8_ofStep 21 = .ok (.iload_n 2, 1) := by decide +kernel
theorem dX8_ofStep_22 : decode cX8_ofStep 22 = .ok (.tableswitch 53 0 2 #[26, 35, 44], 26) := by decide +kernel
theorem dX8_ofStep_48 : decode cX8_ofStep 48 = .ok (.aload_n 0, 1) := by decide +kernel
theorem dX8_ofStep_49 : decode cX8_ofStep 49 = .ok (.getfield 10, 3) := by decide +kernel
theorem dX8_ofStep_52 : decode cX8_ofStep 52 = .ok (.iload_n 1, 1) := by decide +kernel
theorem dX8_ofStep_53 : decode cX8_ofStep 53 = .ok (.invokevirtual 110, 3) := by decide +kernel
theorem dX8_ofStep_56 : decode cX8_ofStep 56 = .ok (.ireturn, 1) := by decide +kernel
theorem dX8_ofStep_57 : decode cX8_ofStep 57 = .ok (.aload_n 0, 1) := by decide +kernel
theorem dX8_ofStep_58 : decode cX8_ofStep 58 = .ok (.getfield 10, 3) := by decide +kernel
theorem dX8_ofStep_61 : decode cX8_ofStep 61 = .ok (.iload_n 1, 1) := by decide +kernel
theorem dX8_ofStep_62 : decode cX8_ofStep 62 = .ok (.invokevirtual 316, 3) := by decide +kernel
theorem dX8_ofStep_65 : decode cX8_ofStep 65 = .ok (.ireturn, 1) := by decide +kernel
theorem dX8_ofStep_66 : decode cX8_ofStep 66 = .ok (.aload_n 0, 1) := by decide +kernel
theorem dX8_ofStep_67 : decode cX8_ofStep 67 = .ok (.getfield 10, 3) := by decide +kernel
theorem dX8_ofStep_70 : decode cX8_ofStep 70 = .ok (.iload_n 1, 1) := by decide +kernel
theorem dX8_ofStep_71 : decode cX8_ofStep 71 = .ok (.invokevirtual 319, 3) := by decide +kernel
theorem dX8_ofStep_74 : decode cX8_ofStep 74 = .ok (.ireturn, 1) := by decide +kernel
theorem dX8_ofStep_75 : decode cX8_ofStep 75 = .ok (.new 77, 3) := by decide +kernel
theorem dX8_ofStep_78 : decode cX8_ofStep 78 = .ok (.dup, 1) := by decide +kernel
theorem dX8_ofStep_79 : decode cX8_ofStep 79 = .ok (.ldc_w 322, 3) := by decide +kernel
theorem dX8_ofStep_82 : decode cX8_ofStep 82 = .ok (.invokespecial 81, 3) := by decide +kernel
theorem dX8_ofStep_85 : decode cX8_ofStep 85 = .ok (.athrow, 1) := by decide +kernel
theorem dX8_ofPoint_0 : decode cX8_ofPoint 0 = .ok (.aload_n 0, 1) := by decide +kernel
theorem dX8_ofPoint_1 : decode cX8_ofPoint 1 = .ok (.iload_n 1, 1) := by decide +kernel
theorem dX8_ofPoint_2 : decode cX8_ofPoint 2 = .ok (.invokevirtual 151, 3) := by decide +kernel
theorem dX8_ofPoint_5 : decode cX8_ofPoint 5 = .ok (.astore_n 3, 1) := by decide +kernel
theorem dX8_ofPoint_6 : decode cX8_ofPoint 6 = .ok (.aload_n 3, 1) := by decide +kernel
theorem dX8_ofPoint_7 : decode cX8_ofPoint 7 = .ok (.ifnonnull 13, 3) := by decide +kernel
theorem dX8_ofPoint_10 : decode cX8_ofPoint 10 = .ok (.new 105, 3) := by decide +kernel
theorem dX8_ofPoint_13 : decode cX8_ofPoint 13 = .ok (.dup, 1) := by decide +kernel
theorem dX8_ofPoint_14 : decode cX8_ofPoint 14 = .ok (.ldc 155, 2) := by decide +kernel
theorem dX8_ofPoint_16 : decode cX8_ofPoint 16 = .ok (.invokespecial 109, 3) := by decide +kernel
theorem dX8_ofPoint_19 : decode cX8_ofPoint 19 = .ok (.athrow, 1) := by decide +kernel
theorem dX8_ofPoint_20 : decode cX8_ofPoint 20 = .ok (.iload_n 2, 1) := by decide +kernel
theorem dX8_ofPoint_21 : decode cX8_ofPoint 21 = .ok (.tableswitch 54 0 3 #[31, 36, 44, 49], 31) := by decide +kernel
theorem dX8_ofPoint_52 : decode cX8_ofPoint 52 = .ok (.aload_n 3, 1) := by decide +kernel
theorem dX8_ofPoint_53 : decode cX8_ofPoint 53 = .ok (.getfield 324, 3) := by decide +kernel
theorem dX8_ofPoint_56 : decode cX8_ofPoint 56 = .ok (.ireturn, 1) := by decide +kernel
theorem dX8_ofPoint_57 : decode cX8_ofPoint 57 = .ok (.aload_n 3, 1) := by decide +kernel
theorem dX8_ofPoint_58 : decode cX8_ofPoint 58 = .ok (.getfield 176, 3) := by decide +kernel
theorem dX8_ofPoint_61 : decode cX8_ofPoint 61 = .ok (.invokestatic 327, 3) := by decide +kernel
theorem dX8_ofPoint_64 : decode cX8_ofPoint 64 = .ok (.ireturn, 1) := by decide +kernel
theorem dX8_ofPoint_65 : decode cX8_ofPoint 65 = .ok (.aload_n 3, 1) := by decide +kernel
theorem dX8_ofPoint_66 : decode cX8_ofPoint 66 = .ok (.getfield 173, 3) := by decide +kernel
theorem dX8_ofPoint_69 : decode cX8_ofPoint 69 = .ok (.ireturn, 1) := by decide +kernel
theorem dX8_ofPoint_70 : decode cX8_ofPoint 70 = .ok (.aload_n 3, 1) := by decide +kernel
theorem dX8_ofPoint_71 : decode cX8_ofPoint 71 = .ok (.getfield 249, 3) := by decide +kernel
theorem dX8_ofPoint_74 : decode cX8_ofPoint 74 = .ok (.ireturn, 1) := by decide +kernel
theorem dX8_ofPoint_75 : decode cX8_ofPoint 75 = .ok (.new 77, 3) := by decide +kernel
theorem dX8_ofPoint_78 : decode cX8_ofPoint 78 = .ok (.dup, 1) := by decide +kernel
theorem dX8_ofPoint_79 : decode cX8_ofPoint 79 = .ok (.ldc_w 331, 3) := by decide +kernel
theorem dX8_ofPoint_82 : decode cX8_ofPoint 82 = .ok (.invokespecial 81, 3) := by decide +kernel
theorem dX8_ofPoint_85 : decode cX8_ofPoint 85 = .ok (.athrow, 1) := by decide +kernel
theorem dX8_then_0 : decode cX8_then 0 = .ok (.iload_n 1, 1) := by decide +kernel
theorem dX8_then_1 : decode cX8_then 1 = .ok (.ifCond .lt 14, 3) := by decide +kernel
theorem dX8_then_4 : decode cX8_then 4 = .ok (.iload_n 1, 1) := by decide +kernel
theorem dX8_then_5 : decode cX8_then 5 = .ok (.aload_n 0, 1) := by decide +kernel
theorem dX8_then_6 : decode cX8_then 6 = .ok (.getfield 35, 3) := by decide +kernel
theorem dX8_then_9 : decode cX8_then 9 = .ok (.invokevirtual 295, 3) := by decide +kernel
theorem dX8_then_12 : decode cX8_then 12 = .ok (.if_icmp .le 14, 3) := by decide +kernel
theorem dX8_then_15 : decode cX8_then 15 = .ok (.new 105, 3) := by decide +kernel
theorem dX8_then_18 : decode cX8_then 18 = .ok (.dup, 1) := by decide +kernel
theorem dX8_then_19 : decode cX8_then 19 = .ok (.ldc_w 333, 3) := by decide +kernel
theorem dX8_then_22 : decode cX8_then 22 = .ok (.invokespecial 109, 3) := by decide +kernel
theorem dX8_then_25 : decode cX8_then 25 = .ok (.athrow, 1) := by decide +kernel
theorem dX8_then_26 : decode cX8_then 26 = .ok (.iload_n 2, 1) := by decide +kernel
theorem dX8_then_27 : decode cX8_then 27 = .ok (.ifCond .lt 9, 3) := by decide +kernel
theorem dX8_then_30 : decode cX8_then 30 = .ok (.iload_n 2, 1) := by decide +kernel
theorem dX8_then_31 : decode cX8_then 31 = .ok (.bipush 15, 2) := by decide +kernel
theorem dX8_then_33 : decode cX8_then 33 = .ok (.if_icmp .le 14, 3) := by decide +kernel
theorem dX8_then_36 : decode cX8_then 36 = .ok (.new 77, 3) := by decide +kernel
theorem dX8_then_39 : decode cX8_then 39 = .ok (.dup, 1) := by decide +kernel
theorem dX8_then_40 : decode cX8_then 40 = .ok (.ldc_w 335, 3) := by decide +kernel
theorem dX8_then_43 : decode cX8_then 43 = .ok (.invokespecial 81, 3) := by decide +kernel
theorem dX8_then_46 : decode cX8_then 46 = .ok (.athrow, 1) := by decide +kernel
theorem dX8_then_47 : decode cX8_then 47 = .ok (.iload_n 2, 1) := by decide +kernel
theorem dX8_then_48 : decode cX8_then 48 = .ok (.iconst 3, 1) := by decide +kernel
theorem dX8_then_49 : decode cX8_then 49 = .ok (.if_icmp .le 28, 3) := by decide +kernel
theorem dX8_then_52 : decode cX8_then 52 = .ok (.aload_n 0, 1) := by decide +kernel
theorem dX8_then_53 : decode cX8_then 53 = .ok (.getfield 35, 3) := by decide +kernel
theorem dX8_then_56 : decode cX8_then 56 = .ok (.iload_n 2, 1) := by decide +kernel
theorem dX8_then_57 : decode cX8_then 57 = .ok (.iconst 4, 1) := by decide +kernel
theorem dX8_then_58 : decode cX8_then 58 = .ok (.isub, 1) := by decide +kernel
theorem dX8_then_59 : decode cX8_then 59 = .ok (.iload_n 1, 1) := by decide +kernel
theorem dX8_then_60 : decode cX8_then 60 = .ok (.aload_n 0, 1) := by decide +kernel
theorem dX8_then_61 : decode cX8_then 61 = .ok (.getfield 28, 3) := by decide +kernel
theorem dX8_then_64 : decode cX8_then 64 = .ok (.getfield 306, 3) := by decide +kernel
theorem dX8_then_67 : decode cX8_then 67 = .ok (.iload_n 2, 1) := by decide +kernel
theorem dX8_then_68 : decode cX8_then 68 = .ok (.iconst 4, 1) := by decide +kernel
theorem dX8_then_69 : decode cX8_then 69 = .ok (.isub, 1) := by decide +kernel
theorem dX8_then_70 : decode cX8_then 70 = .ok (.invokevirtual 309, 3) := by decide +kernel
theorem dX8_then_73 : decode cX8_then 73 = .ok (.invokevirtual 337, 3) := by decide +kernel
theorem dX8_then_76 : decode cX8_then 76 = .ok (.ireturn, 1) := by decide +kernel
theorem dX8_then_77 : decode cX8_then 77 = .ok (.aload_n 0, 1) := by decide +kernel
theorem dX8_then_78 : decode cX8_then 78 = .ok (.getfield 35, 3) := by decide +kernel
theorem dX8_then_81 : decode cX8_then 81 = .ok (.iload_n 1, 1) := by decide +kernel
theorem dX8_then_82 : decode cX8_then 82 = .ok (.invokevirtual 252, 3) := by decide +kernel
theorem dX8_then_85 : decode cX8_then 85 = .ok (.astore_n 3, 1) := by decide +kernel
theorem dX8_then_86 : decode cX8_then 86 = .ok (.aload_n 3, 1) := by decide +kernel
theorem dX8_then_87 : decode cX8_then 87 = .ok (.ifnonnull 11, 3) := by decide +kernel
theorem dX8_then_90 : decode cX8_then 90 = .ok (.aload_n 0, 1) := by decide +kernel
theorem dX8_then_91 : decode cX8_then 91 = .ok (.iload_n 2, 1) := by decide +kernel
theorem dX8_then_92 : decode cX8_then 92 = .ok (.invokevirtual 341, 3) := by decide +kernel
theorem dX8_then_95 : decode cX8_then 95 = .ok (.goto 8, 3) := by decide +kernel
theorem dX8_then_98 : decode cX8_then 98 = .ok (.aload_n 3, 1) := by decide +kernel
theorem dX8_then_99 : decode cX8_then 99 = .ok (.iload_n 2, 1) := by decide +kernel
theorem dX8_then_100 : decode cX8_then 100 = .ok (.invokevirtual 344, 3) := by decide +kernel
theorem dX8_then_103 : decode cX8_then 103 = .ok (.ireturn, 1) := by decide +kernel
theorem dX8_wroteAgo_0 : decode cX8_wroteAgo 0 = .ok (.iload_n 1, 1) := by decide +kernel
theorem dX8_wroteAgo_1 : decode cX8_wroteAgo 1 = .ok (.invokestatic 157, 3) := by decide +kernel
theorem dX8_wroteAgo_4 : decode cX8_wroteAgo 4 = .ok (.ifCond .ne 14, 3) := by decide +kernel
theorem dX8_wroteAgo_7 : decode cX8_wroteAgo 7 = .ok (.new 105, 3) := by decide +kernel
theorem dX8_wroteAgo_10 : decode cX8_wroteAgo 10 = .ok (.dup, 1) := by decide +kernel
theorem dX8_wroteAgo_11 : decode cX8_wroteAgo 11 = .ok (.ldc_w 304, 3) := by decide +kernel
theorem dX8_wroteAgo_14 : decode cX8_wroteAgo 14 = .ok (.invokespecial 109, 3) := by decide +kernel
theorem dX8_wroteAgo_17 : decode cX8_wroteAgo 17 = .ok (.athrow, 1) := by decide +kernel
theorem dX8_wroteAgo_18 : decode cX8_wroteAgo 18 = .ok (.aload_n 0, 1) := by decide +kernel
theorem dX8_wroteAgo_19 : decode cX8_wroteAgo 19 = .ok (.getfield 35, 3) := by decide +kernel
theorem dX8_wroteAgo_22 : decode cX8_wroteAgo 22 = .ok (.iload_n 1, 1) := by decide +kernel
theorem dX8_wroteAgo_23 : decode cX8_wroteAgo 23 = .ok (.invokevirtual 347, 3) := by decide +kernel
theorem dX8_wroteAgo_26 : decode cX8_wroteAgo 26 = .ok (.ireturn, 1) := by decide +kernel
theorem dX8_ofNow_0 : decode cX8_ofNow 0 = .ok (.iload_n 1, 1) := by decide +kernel
theorem dX8_ofNow_1 : decode cX8_ofNow 1 = .ok (.tableswitch 58 0 2 #[27, 35, 46], 27) := by decide +kernel
theorem dX8_ofNow_28 : decode cX8_ofNow 28 = .ok (.aload_n 0, 1) := by decide +kernel
theorem dX8_ofNow_29 : decode cX8_ofNow 29 = .ok (.getfield 28, 3) := by decide +kernel
theorem dX8_ofNow_32 : decode cX8_ofNow 32 = .ok (.getfield 226, 3) := by decide +kernel
theorem dX8_ofNow_35 : decode cX8_ofNow 35 = .ok (.ireturn, 1) := by decide +kernel
theorem dX8_ofNow_36 : decode cX8_ofNow 36 = .ok (.aload_n 0, 1) := by decide +kernel
theorem dX8_ofNow_37 : decode cX8_ofNow 37 = .ok (.getfield 28, 3) := by decide +kernel
theorem dX8_ofNow_40 : decode cX8_ofNow 40 = .ok (.getfield 286, 3) := by decide +kernel
theorem dX8_ofNow_43 : decode cX8_ofNow 43 = .ok (.invokevirtual 124, 3) := by decide +kernel
theorem dX8_ofNow_46 : decode cX8_ofNow 46 = .ok (.ireturn, 1) := by decide +kernel
theorem dX8_ofNow_47 : decode cX8_ofNow 47 = .ok (.aload_n 0, 1) := by decide +kernel
theorem dX8_ofNow_48 : decode cX8_ofNow 48 = .ok (.getfield 28, 3) := by decide +kernel
theorem dX8_ofNow_51 : decode cX8_ofNow 51 = .ok (.getfield 286, 3) := by decide +kernel
theorem dX8_ofNow_54 : decode cX8_ofNow 54 = .ok (.iconst 0, 1) := by decide +kernel
theorem dX8_ofNow_55 : decode cX8_ofNow 55 = .ok (.invokevirtual 301, 3) := by decide +kernel
theorem dX8_ofNow_58 : decode cX8_ofNow 58 = .ok (.ireturn, 1) := by decide +kernel
theorem dX8_ofNow_59 : decode cX8_ofNow 59 = .ok (.aload_n 0, 1) := by decide +kernel
theorem dX8_ofNow_60 : decode cX8_ofNow 60 = .ok (.getfield 28, 3) := by decide +kernel
theorem dX8_ofNow_63 : decode cX8_ofNow 63 = .ok (.getfield 198, 3) := by decide +kernel
theorem dX8_ofNow_66 : decode cX8_ofNow 66 = .ok (.invokevirtual 124, 3) := by decide +kernel
theorem dX8_ofNow_69 : decode cX8_ofNow 69 = .ok (.ireturn, 1) := by decide +kernel
theorem dX8_truth_0 : decode cX8_truth 0 = .ok (.iload_n 0, 1) := by decide +kernel
theorem dX8_truth_1 : decode cX8_truth 1 = .ok (.ifCond .eq 7, 3) := by decide +kernel
theorem dX8_truth_4 : decode cX8_truth 4 = .ok (.iconst 1, 1) := by decide +kernel
theorem dX8_truth_5 : decode cX8_truth 5 = .ok (.goto 4, 3) := by decide +kernel
theorem dX8_truth_8 : decode cX8_truth 8 = .ok (.iconst 0, 1) := by decide +kernel
theorem dX8_truth_9 : decode cX8_truth 9 = .ok (.ireturn, 1) := by decide +kernel
theorem dX8_record_0 : decode cX8_record 0 = .ok (.aload_n 0, 1) := by decide +kernel
theorem dX8_record_1 : decode cX8_record 1 = .ok (.iload_n 1, 1) := by decide +kernel
theorem dX8_record_2 : decode cX8_record 2 = .ok (.invokevirtual 350, 3) := by decide +kernel
theorem dX8_record_5 : decode cX8_record 5 = .ok (.astore_n 2, 1) := by decide +kernel
theorem dX8_record_6 : decode cX8_record 6 = .ok (.aload_n 2, 1) := by decide +kernel
theorem dX8_record_7 : decode cX8_record 7 = .ok (.ifnonnull 14, 3) := by decide +kernel
theorem dX8_record_10 : decode cX8_record 10 = .ok (.new 105, 3) := by decide +kernel
theorem dX8_record_13 : decode cX8_record 13 = .ok (.dup, 1) := by decide +kernel
theorem dX8_record_14 : decode cX8_record 14 = .ok (.ldc_w 354, 3) := by decide +kernel
theorem dX8_record_17 : decode cX8_record 17 = .ok (.invokespecial 109, 3) := by decide +kernel
theorem dX8_record_20 : decode cX8_record 20 = .ok (.athrow, 1) := by decide +kernel
theorem dX8_record_21 : decode cX8_record 21 = .ok (.aload_n 0, 1) := by decide +kernel
theorem dX8_record_22 : decode cX8_record 22 = .ok (.invokevirtual 356, 3) := by decide +kernel
theorem dX8_record_25 : decode cX8_record 25 = .ok (.ifCond .ne 14, 3) := by decide +kernel
theorem dX8_record_28 : decode cX8_record 28 = .ok (.new 88, 3) := by decide +kernel
theorem dX8_record_31 : decode cX8_record 31 = .ok (.dup, 1) := by decide +kernel
theorem dX8_record_32 : decode cX8_record 32 = .ok (.ldc_w 359, 3) := by decide +kernel
theorem dX8_record_35 : decode cX8_record 35 = .ok (.invokespecial 92, 3) := by decide +kernel
theorem dX8_record_38 : decode cX8_record 38 = .ok (.athrow, 1) := by decide +kernel
theorem dX8_record_39 : decode cX8_record 39 = .ok (.aload_n 2, 1) := by decide +kernel
theorem dX8_record_40 : decode cX8_record 40 = .ok (.iconst 1, 1) := by decide +kernel
theorem dX8_record_41 : decode cX8_record 41 = .ok (.putfield 361, 3) := by decide +kernel
theorem dX8_record_44 : decode cX8_record 44 = .ok (.aload_n 2, 1) := by decide +kernel
theorem dX8_record_45 : decode cX8_record 45 = .ok (.getfield 364, 3) := by decide +kernel
theorem dX8_record_48 : decode cX8_record 48 = .ok (.aload_n 0, 1) := by decide +kernel
theorem dX8_record_49 : decode cX8_record 49 = .ok (.getfield 21, 3) := by decide +kernel
theorem dX8_record_52 : decode cX8_record 52 = .ok (.invokevirtual 365, 3) := by decide +kernel
theorem dX8_record_55 : decode cX8_record 55 = .ok (.aload_n 0, 1) := by decide +kernel
theorem dX8_record_56 : decode cX8_record 56 = .ok (.getfield 35, 3) := by decide +kernel
theorem dX8_record_59 : decode cX8_record 59 = .ok (.aload_n 2, 1) := by decide +kernel
theorem dX8_record_60 : decode cX8_record 60 = .ok (.getfield 369, 3) := by decide +kernel
theorem dX8_record_63 : decode cX8_record 63 = .ok (.invokevirtual 372, 3) := by decide +kernel
theorem dX8_record_66 : decode cX8_record 66 = .ok (.aload_n 2, 1) := by decide +kernel
theorem dX8_record_67 : decode cX8_record 67 = .ok (.getfield 369, 3) := by decide +kernel
theorem dX8_record_70 : decode cX8_record 70 = .ok (.invokevirtual 124, 3) := by decide +kernel
theorem dX8_record_73 : decode cX8_record 73 = .ok (.ireturn, 1) := by decide +kernel
theorem dX8_replay_0 : decode cX8_replay 0 = .ok (.aload_n 0, 1) := by decide +kernel
theorem dX8_replay_1 : decode cX8_replay 1 = .ok (.iload_n 1, 1) := by decide +kernel
theorem dX8_replay_2 : decode cX8_replay 2 = .ok (.invokevirtual 350, 3) := by decide +kernel
theorem dX8_replay_5 : decode cX8_replay 5 = .ok (.astore_n 2, 1) := by decide +kernel
theorem dX8_replay_6 : decode cX8_replay 6 = .ok (.aload_n 2, 1) := by decide +kernel
theorem dX8_replay_7 : decode cX8_replay 7 = .ok (.ifnonnull 14, 3) := by decide +kernel
theorem dX8_replay_10 : decode cX8_replay 10 = .ok (.new 105, 3) := by decide +kernel
theorem dX8_replay_13 : decode cX8_replay 13 = .ok (.dup, 1) := by decide +kernel
theorem dX8_replay_14 : decode cX8_replay 14 = .ok (.ldc_w 354, 3) := by decide +kernel
theorem dX8_replay_17 : decode cX8_replay 17 = .ok (.invokespecial 109, 3) := by decide +kernel
theorem dX8_replay_20 : decode cX8_replay 20 = .ok (.athrow, 1) := by decide +kernel
theorem dX8_replay_21 : decode cX8_replay 21 = .ok (.aload_n 2, 1) := by decide +kernel
theorem dX8_replay_22 : decode cX8_replay 22 = .ok (.getfield 361, 3) := by decide +kernel
theorem dX8_replay_25 : decode cX8_replay 25 = .ok (.ifCond .ne 14, 3) := by decide +kernel
theorem dX8_replay_28 : decode cX8_replay 28 = .ok (.new 88, 3) := by decide +kernel
theorem dX8_replay_31 : decode cX8_replay 31 = .ok (.dup, 1) := by decide +kernel
theorem dX8_replay_32 : decode cX8_replay 32 = .ok (.ldc_w 375, 3) := by decide +kernel
theorem dX8_replay_35 : decode cX8_replay 35 = .ok (.invokespecial 92, 3) := by decide +kernel
theorem dX8_replay_38 : decode cX8_replay 38 = .ok (.athrow, 1) := by decide +kernel
theorem dX8_replay_39 : decode cX8_replay 39 = .ok (.aload_n 0, 1) := by decide +kernel
theorem dX8_replay_40 : decode cX8_replay 40 = .ok (.getfield 21, 3) := by decide +kernel
theorem dX8_replay_43 : decode cX8_replay 43 = .ok (.aload_n 2, 1) := by decide +kernel
theorem dX8_replay_44 : decode cX8_replay 44 = .ok (.getfield 364, 3) := by decide +kernel
theorem dX8_replay_47 : decode cX8_replay 47 = .ok (.invokevirtual 365, 3) := by decide +kernel
theorem dX8_replay_50 : decode cX8_replay 50 = .ok (.aload_n 0, 1) := by decide +kernel
theorem dX8_replay_51 : decode cX8_replay 51 = .ok (.invokevirtual 125, 3) := by decide +kernel
theorem dX8_replay_54 : decode cX8_replay 54 = .ok (.iconst 0, 1) := by decide +kernel
theorem dX8_replay_55 : decode cX8_replay 55 = .ok (.istore_n 3, 1) := by decide +kernel
theorem dX8_replay_56 : decode cX8_replay 56 = .ok (.iload_n 3, 1) := by decide +kernel
theorem dX8_replay_57 : decode cX8_replay 57 = .ok (.aload_n 2, 1) := by decide +kernel
theorem dX8_replay_58 : decode cX8_replay 58 = .ok (.getfield 369, 3) := by decide +kernel
theorem dX8_replay_61 : decode cX8_replay 61 = .ok (.invokevirtual 124, 3) := by decide +kernel
theorem dX8_replay_64 : decode cX8_replay 64 = .ok (.if_icmp .ge 16, 3) := by decide +kernel
theorem dX8_replay_67 : decode cX8_replay 67 = .ok (.aload_n 0, 1) := by decide +kernel
theorem dX8_replay_68 : decode cX8_replay 68 = .ok (.invokevirtual 213, 3) := by decide +kernel
theorem dX8_replay_71 : decode cX8_replay 71 = .ok (.ifCond .eq 9, 3) := by decide +kernel
theorem dX8_replay_74 : decode cX8_replay 74 = .ok (.iinc 3 1, 3) := by decide +kernel
theorem dX8_replay_77 : decode cX8_replay 77 = .ok (.goto (-21), 3) := by decide +kernel
theorem dX8_replay_80 : decode cX8_replay 80 = .ok (.aload_n 0, 1) := by decide +kernel
theorem dX8_replay_81 : decode cX8_replay 81 = .ok (.bipush 8, 2) := by decide +kernel
theorem dX8_replay_83 : decode cX8_replay 83 = .ok (.iconst (-1), 1) := by decide +kernel
theorem dX8_replay_84 : decode cX8_replay 84 = .ok (.invokevirtual 135, 3) := by decide +kernel
theorem dX8_replay_87 : decode cX8_replay 87 = .ok (.iload_n 3, 1) := by decide +kernel
theorem dX8_replay_88 : decode cX8_replay 88 = .ok (.ireturn, 1) := by decide +kernel
theorem dX8_parts_0 : decode cX8_parts 0 = .ok (.aload_n 0, 1) := by decide +kernel
theorem dX8_parts_1 : decode cX8_parts 1 = .ok (.iload_n 1, 1) := by decide +kernel
theorem dX8_parts_2 : decode cX8_parts 2 = .ok (.invokevirtual 350, 3) := by decide +kernel
theorem dX8_parts_5 : decode cX8_parts 5 = .ok (.astore_n 2, 1) := by decide +kernel
theorem dX8_parts_6 : decode cX8_parts 6 = .ok (.aload_n 2, 1) := by decide +kernel
theorem dX8_parts_7 : decode cX8_parts 7 = .ok (.ifnonnull 14, 3) := by decide +kernel
theorem dX8_parts_10 : decode cX8_parts 10 = .ok (.new 105, 3) := by decide +kernel
theorem dX8_parts_13 : decode cX8_parts 13 = .ok (.dup, 1) := by decide +kernel
theorem dX8_parts_14 : decode cX8_parts 14 = .ok (.ldc_w 354, 3) := by decide +kernel
theorem dX8_parts_17 : decode cX8_parts 17 = .ok (.invokespecial 109, 3) := by decide +kernel
theorem dX8_parts_20 : decode cX8_parts 20 = .ok (.athrow, 1) := by decide +kernel
theorem dX8_parts_21 : decode cX8_parts 21 = .ok (.aload_n 2, 1) := by decide +kernel
theorem dX8_parts_22 : decode cX8_parts 22 = .ok (.getfield 361, 3) := by decide +kernel
theorem dX8_parts_25 : decode cX8_parts 25 = .ok (.ifCond .eq 10, 3) := by decide +kernel
theorem dX8_parts_28 : decode cX8_parts 28 = .ok (.aload_n 0, 1) := by decide +kernel
theorem dX8_parts_29 : decode cX8_parts 29 = .ok (.invokevirtual 356, 3) := by decide +kernel
theorem dX8_parts_32 : decode cX8_parts 32 = .ok (.ifCond .ne 14, 3) := by decide +kernel
theorem dX8_parts_35 : decode cX8_parts 35 = .ok (.new 88, 3) := by decide +kernel
theorem dX8_parts_38 : decode cX8_parts 38 = .ok (.dup, 1) := by decide +kernel
theorem dX8_parts_39 : decode cX8_parts 39 = .ok (.ldc_w 377, 3) := by decide +kernel
theorem dX8_parts_42 : decode cX8_parts 42 = .ok (.invokespecial 92, 3) := by decide +kernel
theorem dX8_parts_45 : decode cX8_parts 45 = .ok (.athrow, 1) := by decide +kernel
theorem dX8_parts_46 : decode cX8_parts 46 = .ok (.aload_n 0, 1) := by decide +kernel
theorem dX8_parts_47 : decode cX8_parts 47 = .ok (.getfield 35, 3) := by decide +kernel
theorem dX8_parts_50 : decode cX8_parts 50 = .ok (.aload_n 2, 1) := by decide +kernel
theorem dX8_parts_51 : decode cX8_parts 51 = .ok (.getfield 369, 3) := by decide +kernel
theorem dX8_parts_54 : decode cX8_parts 54 = .ok (.invokevirtual 379, 3) := by decide +kernel
theorem dX8_parts_57 : decode cX8_parts 57 = .ok (.ireturn, 1) := by decide +kernel
theorem dX8_tapeAt_0 : decode cX8_tapeAt 0 = .ok (.iload_n 1, 1) := by decide +kernel
theorem dX8_tapeAt_1 : decode cX8_tapeAt 1 = .ok (.ifCond .lt 21, 3) := by decide +kernel
theorem dX8_tapeAt_4 : decode cX8_tapeAt 4 = .ok (.iload_n 1, 1) := by decide +kernel
theorem dX8_tapeAt_5 : decode cX8_tapeAt 5 = .ok (.aload_n 0, 1) := by decide +kernel
theorem dX8_tapeAt_6 : decode cX8_tapeAt 6 = .ok (.getfield 55, 3) := by decide +kernel
theorem dX8_tapeAt_9 : decode cX8_tapeAt 9 = .ok (.arraylength, 1) := by decide +kernel
theorem dX8_tapeAt_10 : decode cX8_tapeAt 10 = .ok (.if_icmp .ge 12, 3) := by decide +kernel
theorem dX8_tapeAt_13 : decode cX8_tapeAt 13 = .ok (.aload_n 0, 1) := by decide +kernel
theorem dX8_tapeAt_14 : decode cX8_tapeAt 14 = .ok (.getfield 55, 3) := by decide +kernel
theorem dX8_tapeAt_17 : decode cX8_tapeAt 17 = .ok (.iload_n 1, 1) := by decide +kernel
theorem dX8_tapeAt_18 : decode cX8_tapeAt 18 = .ok (.aaload, 1) := by decide +kernel
theorem dX8_tapeAt_19 : decode cX8_tapeAt 19 = .ok (.goto 4, 3) := by decide +kernel
theorem dX8_tapeAt_22 : decode cX8_tapeAt 22 = .ok (.aconst_null, 1) := by decide +kernel
theorem dX8_tapeAt_23 : decode cX8_tapeAt 23 = .ok (.areturn, 1) := by decide +kernel
theorem dX8_beginsAtStart_0 : decode cX8_beginsAtStart 0 = .ok (.aload_n 0, 1) := by decide +kernel
theorem dX8_beginsAtStart_1 : decode cX8_beginsAtStart 1 = .ok (.getfield 28, 3) := by decide +kernel
theorem dX8_beginsAtStart_4 : decode cX8_beginsAtStart 4 = .ok (.getfield 283, 3) := by decide +kernel
theorem dX8_beginsAtStart_7 : decode cX8_beginsAtStart 7 = .ok (.aload_n 0, 1) := by decide +kernel
theorem dX8_beginsAtStart_8 : decode cX8_beginsAtStart 8 = .ok (.getfield 35, 3) := by decide +kernel
theorem dX8_beginsAtStart_11 : decode cX8_beginsAtStart 11 = .ok (.invokevirtual 295, 3) := by decide +kernel
theorem dX8_beginsAtStart_14 : decode cX8_beginsAtStart 14 = .ok (.if_icmp .ne 7, 3) := by decide +kernel
theorem dX8_beginsAtStart_17 : decode cX8_beginsAtStart 17 = .ok (.iconst 1, 1) := by decide +kernel
theorem dX8_beginsAtStart_18 : decode cX8_beginsAtStart 18 = .ok (.goto 4, 3) := by decide +kernel
theorem dX8_beginsAtStart_21 : decode cX8_beginsAtStart 21 = .ok (.iconst 0, 1) := by decide +kernel
theorem dX8_beginsAtStart_22 : decode cX8_beginsAtStart 22 = .ok (.ireturn, 1) := by decide +kernel
theorem dX8_endsIn_0 : decode cX8_endsIn 0 = .ok (.iload_n 1, 1) := by decide +kernel
theorem dX8_endsIn_1 : decode cX8_endsIn 1 = .ok (.invokestatic 189, 3) := by decide +kernel
theorem dX8_endsIn_4 : decode cX8_endsIn 4 = .ok (.ifCond .ne 13, 3) := by decide +kernel
theorem dX8_endsIn_7 : decode cX8_endsIn 7 = .ok (.new 77, 3) := by decide +kernel
theorem dX8_endsIn_10 : decode cX8_endsIn 10 = .ok (.dup, 1) := by decide +kernel
theorem dX8_endsIn_11 : decode cX8_endsIn 11 = .ok (.ldc 192, 2) := by decide +kernel
theorem dX8_endsIn_13 : decode cX8_endsIn 13 = .ok (.invokespecial 81, 3) := by decide +kernel
theorem dX8_endsIn_16 : decode cX8_endsIn 16 = .ok (.athrow, 1) := by decide +kernel
theorem dX8_endsIn_17 : decode cX8_endsIn 17 = .ok (.aload_n 0, 1) := by decide +kernel
theorem dX8_endsIn_18 : decode cX8_endsIn 18 = .ok (.getfield 67, 3) := by decide +kernel
theorem dX8_endsIn_21 : decode cX8_endsIn 21 = .ok (.aload_n 0, 1) := by decide +kernel
theorem dX8_endsIn_22 : decode cX8_endsIn 22 = .ok (.getfield 28, 3) := by decide +kernel
theorem dX8_endsIn_25 : decode cX8_endsIn 25 = .ok (.invokevirtual 383, 3) := by decide +kernel
theorem dX8_endsIn_28 : decode cX8_endsIn 28 = .ok (.aload_n 0, 1) := by decide +kernel
theorem dX8_endsIn_29 : decode cX8_endsIn 29 = .ok (.iload_n 1, 1) := by decide +kernel
theorem dX8_endsIn_30 : decode cX8_endsIn 30 = .ok (.aload_n 0, 1) := by decide +kernel
theorem dX8_endsIn_31 : decode cX8_endsIn 31 = .ok (.getfield 21, 3) := by decide +kernel
theorem dX8_endsIn_34 : decode cX8_endsIn 34 = .ok (.invokevirtual 386, 3) := by decide +kernel
theorem dX8_endsIn_37 : decode cX8_endsIn 37 = .ok (.istore_n 2, 1) := by decide +kernel
theorem dX8_endsIn_38 : decode cX8_endsIn 38 = .ok (.iload_n 2, 1) := by decide +kernel
theorem dX8_endsIn_39 : decode cX8_endsIn 39 = .ok (.iload_n 1, 1) := by decide +kernel
theorem dX8_endsIn_40 : decode cX8_endsIn 40 = .ok (.if_icmp .lt 14, 3) := by decide +kernel
theorem dX8_endsIn_43 : decode cX8_endsIn 43 = .ok (.aload_n 0, 1) := by decide +kernel
theorem dX8_endsIn_44 : decode cX8_endsIn 44 = .ok (.getfield 67, 3) := by decide +kernel
theorem dX8_endsIn_47 : decode cX8_endsIn 47 = .ok (.getfield 216, 3) := by decide +kernel
theorem dX8_endsIn_50 : decode cX8_endsIn 50 = .ok (.iconst 1, 1) := by decide +kernel
theorem dX8_endsIn_51 : decode cX8_endsIn 51 = .ok (.if_icmp .ne 7, 3) := by decide +kernel
theorem dX8_endsIn_54 : decode cX8_endsIn 54 = .ok (.iload_n 2, 1) := by decide +kernel
theorem dX8_endsIn_55 : decode cX8_endsIn 55 = .ok (.goto 4, 3) := by decide +kernel
theorem dX8_endsIn_58 : decode cX8_endsIn 58 = .ok (.iconst (-1), 1) := by decide +kernel
theorem dX8_endsIn_59 : decode cX8_endsIn 59 = .ok (.ireturn, 1) := by decide +kernel
theorem dX8_cellIn_0 : decode cX8_cellIn 0 = .ok (.iload_n 1, 1) := by decide +kernel
theorem dX8_cellIn_1 : decode cX8_cellIn 1 = .ok (.invokestatic 157, 3) := by decide +kernel
theorem dX8_cellIn_4 : decode cX8_cellIn 4 = .ok (.ifCond .ne 14, 3) := by decide +kernel
theorem dX8_cellIn_7 : decode cX8_cellIn 7 = .ok (.new 105, 3) := by decide +kernel
theorem dX8_cellIn_10 : decode cX8_cellIn 10 = .ok (.dup, 1) := by decide +kernel
theorem dX8_cellIn_11 : decode cX8_cellIn 11 = .ok (.ldc_w 304, 3) := by decide +kernel
theorem dX8_cellIn_14 : decode cX8_cellIn 14 = .ok (.invokespecial 109, 3) := by decide +kernel
theorem dX8_cellIn_17 : decode cX8_cellIn 17 = .ok (.athrow, 1) := by decide +kernel
theorem dX8_cellIn_18 : decode cX8_cellIn 18 = .ok (.iload_n 2, 1) := by decide +kernel
theorem dX8_cellIn_19 : decode cX8_cellIn 19 = .ok (.invokestatic 189, 3) := by decide +kernel
theorem dX8_cellIn_22 : decode cX8_cellIn 22 = .ok (.ifCond .ne 13, 3) := by decide +kernel
theorem dX8_cellIn_25 : decode cX8_cellIn 25 = .ok (.new 77, 3) := by decide +kernel
theorem dX8_cellIn_28 : decode cX8_cellIn 28 = .ok (.dup, 1) := by decide +kernel
theorem dX8_cellIn_29 : decode cX8_cellIn 29 = .ok (.ldc 192, 2) := by decide +kernel
theorem dX8_cellIn_31 : decode cX8_cellIn 31 = .ok (.invokespecial 81, 3) := by decide +kernel
theorem dX8_cellIn_34 : decode cX8_cellIn 34 = .ok (.athrow, 1) := by decide +kernel
theorem dX8_cellIn_35 : decode cX8_cellIn 35 = .ok (.aload_n 0, 1) := by decide +kernel
theorem dX8_cellIn_36 : decode cX8_cellIn 36 = .ok (.getfield 67, 3) := by decide +kernel
theorem dX8_cellIn_39 : decode cX8_cellIn 39 = .ok (.aload_n 0, 1) := by decide +kernel
theorem dX8_cellIn_40 : decode cX8_cellIn 40 = .ok (.getfield 28, 3) := by decide +kernel
theorem dX8_cellIn_43 : decode cX8_cellIn 43 = .ok (.invokevirtual 383, 3) := by decide +kernel
theorem dX8_cellIn_46 : decode cX8_cellIn 46 = .ok (.aload_n 0, 1) := by decide +kernel
theorem dX8_cellIn_47 : decode cX8_cellIn 47 = .ok (.iload_n 2, 1) := by decide +kernel
theorem dX8_cellIn_48 : decode cX8_cellIn 48 = .ok (.aload_n 0, 1) := by decide +kernel
theorem dX8_cellIn_49 : decode cX8_cellIn 49 = .ok (.getfield 21, 3) := by decide +kernel
theorem dX8_cellIn_52 : decode cX8_cellIn 52 = .ok (.invokevirtual 386, 3) := by decide +kernel
theorem dX8_cellIn_55 : decode cX8_cellIn 55 = .ok (.pop, 1) := by decide +kernel
theorem dX8_cellIn_56 : decode cX8_cellIn 56 = .ok (.aload_n 0, 1) := by decide +kernel
theorem dX8_cellIn_57 : decode cX8_cellIn 57 = .ok (.getfield 67, 3) := by decide +kernel
theorem dX8_cellIn_60 : decode cX8_cellIn 60 = .ok (.getfield 306, 3) := by decide +kernel
theorem dX8_cellIn_63 : decode cX8_cellIn 63 = .ok (.iload_n 1, 1) := by decide +kernel
theorem dX8_cellIn_64 : decode cX8_cellIn 64 = .ok (.invokevirtual 309, 3) := by decide +kernel
theorem dX8_cellIn_67 : decode cX8_cellIn 67 = .ok (.ireturn, 1) := by decide +kernel
theorem dX8_heat_0 : decode cX8_heat 0 = .ok (.iconst 0, 1) := by decide +kernel
theorem dX8_heat_1 : decode cX8_heat 1 = .ok (.istore_n 1, 1) := by decide +kernel
theorem dX8_heat_2 : decode cX8_heat 2 = .ok (.iconst 0, 1) := by decide +kernel
theorem dX8_heat_3 : decode cX8_heat 3 = .ok (.istore_n 2, 1) := by decide +kernel
theorem dX8_heat_4 : decode cX8_heat 4 = .ok (.iconst 0, 1) := by decide +kernel
theorem dX8_heat_5 : decode cX8_heat 5 = .ok (.istore_n 3, 1) := by decide +kernel
theorem dX8_heat_6 : decode cX8_heat 6 = .ok (.iload_n 3, 1) := by decide +kernel
theorem dX8_heat_7 : decode cX8_heat 7 = .ok (.aload_n 0, 1) := by decide +kernel
theorem dX8_heat_8 : decode cX8_heat 8 = .ok (.getfield 10, 3) := by decide +kernel
theorem dX8_heat_11 : decode cX8_heat 11 = .ok (.invokevirtual 97, 3) := by decide +kernel
theorem dX8_heat_14 : decode cX8_heat 14 = .ok (.if_icmp .ge 34, 3) := by decide +kernel
theorem dX8_heat_17 : decode cX8_heat 17 = .ok (.aload_n 0, 1) := by decide +kernel
theorem dX8_heat_18 : decode cX8_heat 18 = .ok (.getfield 10, 3) := by decide +kernel
theorem dX8_heat_21 : decode cX8_heat 21 = .ok (.iload_n 3, 1) := by decide +kernel
theorem dX8_heat_22 : decode cX8_heat 22 = .ok (.invokevirtual 319, 3) := by decide +kernel
theorem dX8_heat_25 : decode cX8_heat 25 = .ok (.ifCond .le 17, 3) := by decide +kernel
theorem dX8_heat_28 : decode cX8_heat 28 = .ok (.iinc 1 1, 3) := by decide +kernel
theorem dX8_heat_31 : decode cX8_heat 31 = .ok (.iload_n 2, 1) := by decide +kernel
theorem dX8_heat_32 : decode cX8_heat 32 = .ok (.aload_n 0, 1) := by decide +kernel
theorem dX8_heat_33 : decode cX8_heat 33 = .ok (.getfield 10, 3) := by decide +kernel
theorem dX8_heat_36 : decode cX8_heat 36 = .ok (.iload_n 3, 1) := by decide +kernel
theorem dX8_heat_37 : decode cX8_heat 37 = .ok (.invokevirtual 319, 3) := by decide +kernel
theorem dX8_heat_40 : decode cX8_heat 40 = .ok (.iadd, 1) := by decide +kernel
theorem dX8_heat_41 : decode cX8_heat 41 = .ok (.istore_n 2, 1) := by decide +kernel
theorem dX8_heat_42 : decode cX8_heat 42 = .ok (.iinc 3 1, 3) := by decide +kernel
theorem dX8_heat_45 : decode cX8_heat 45 = .ok (.goto (-39), 3) := by decide +kernel
theorem dX8_heat_48 : decode cX8_heat 48 = .ok (.iload_n 1, 1) := by decide +kernel
theorem dX8_heat_49 : decode cX8_heat 49 = .ok (.ifCond .ne 7, 3) := by decide +kernel
theorem dX8_heat_52 : decode cX8_heat 52 = .ok (.dconst 0, 1) := by decide +kernel
theorem dX8_heat_53 : decode cX8_heat 53 = .ok (.goto 8, 3) := by decide +kernel
theorem dX8_heat_56 : decode cX8_heat 56 = .ok (.iload_n 2, 1) := by decide +kernel
theorem dX8_heat_57 : decode cX8_heat 57 = .ok (.i2d, 1) := by decide +kernel
theorem dX8_heat_58 : decode cX8_heat 58 = .ok (.iload_n 1, 1) := by decide +kernel
theorem dX8_heat_59 : decode cX8_heat 59 = .ok (.i2d, 1) := by decide +kernel
theorem dX8_heat_60 : decode cX8_heat 60 = .ok (.ddiv, 1) := by decide +kernel
theorem dX8_heat_61 : decode cX8_heat 61 = .ok (.dreturn, 1) := by decide +kernel
theorem dX8_digest_0 : decode cX8_digest 0 = .ok (.ldc2_w 398, 3) := by decide +kernel
theorem dX8_digest_3 : decode cX8_digest 3 = .ok (.lstore_n 1, 1) := by decide +kernel
theorem dX8_digest_4 : decode cX8_digest 4 = .ok (.iconst 0, 1) := by decide +kernel
theorem dX8_digest_5 : decode cX8_digest 5 = .ok (.istore_n 3, 1) := by decide +kernel
theorem dX8_digest_6 : decode cX8_digest 6 = .ok (.iload_n 3, 1) := by decide +kernel
theorem dX8_digest_7 : decode cX8_digest 7 = .ok (.bipush 9, 2) := by decide +kernel
theorem dX8_digest_9 : decode cX8_digest 9 = .ok (.if_icmp .gt 19, 3) := by decide +kernel
theorem dX8_digest_12 : decode cX8_digest 12 = .ok (.lload_n 1, 1) := by decide +kernel
theorem dX8_digest_13 : decode cX8_digest 13 = .ok (.aload_n 0, 1) := by decide +kernel
theorem dX8_digest_14 : decode cX8_digest 14 = .ok (.iload_n 3, 1) := by decide +kernel
theorem dX8_digest_15 : decode cX8_digest 15 = .ok (.invokevirtual 400, 3) := by decide +kernel
theorem dX8_digest_18 : decode cX8_digest 18 = .ok (.invokestatic 403, 3) := by decide +kernel
theorem dX8_digest_21 : decode cX8_digest 21 = .ok (.lstore_n 1, 1) := by decide +kernel
theorem dX8_digest_22 : decode cX8_digest 22 = .ok (.iinc 3 1, 3) := by decide +kernel
theorem dX8_digest_25 : decode cX8_digest 25 = .ok (.goto (-19), 3) := by decide +kernel
theorem dX8_digest_28 : decode cX8_digest 28 = .ok (.aload_n 0, 1) := by decide +kernel
theorem dX8_digest_29 : decode cX8_digest 29 = .ok (.getfield 28, 3) := by decide +kernel
theorem dX8_digest_32 : decode cX8_digest 32 = .ok (.lload_n 1, 1) := by decide +kernel
theorem dX8_digest_33 : decode cX8_digest 33 = .ok (.invokevirtual 407, 3) := by decide +kernel
theorem dX8_digest_36 : decode cX8_digest 36 = .ok (.lstore_n 1, 1) := by decide +kernel
theorem dX8_digest_37 : decode cX8_digest 37 = .ok (.aload_n 0, 1) := by decide +kernel
theorem dX8_digest_38 : decode cX8_digest 38 = .ok (.lload_n 1, 1) := by decide +kernel
theorem dX8_digest_39 : decode cX8_digest 39 = .ok (.invokevirtual 411, 3) := by decide +kernel
theorem dX8_digest_42 : decode cX8_digest 42 = .ok (.lstore_n 1, 1) := by decide +kernel
theorem dX8_digest_43 : decode cX8_digest 43 = .ok (.aload_n 0, 1) := by decide +kernel
theorem dX8_digest_44 : decode cX8_digest 44 = .ok (.lload_n 1, 1) := by decide +kernel
theorem dX8_digest_45 : decode cX8_digest 45 = .ok (.invokevirtual 414, 3) := by decide +kernel
theorem dX8_digest_48 : decode cX8_digest 48 = .ok (.lstore_n 1, 1) := by decide +kernel
theorem dX8_digest_49 : decode cX8_digest 49 = .ok (.iconst 0, 1) := by decide +kernel
theorem dX8_digest_50 : decode cX8_digest 50 = .ok (.istore_n 3, 1) := by decide +kernel
theorem dX8_digest_51 : decode cX8_digest 51 = .ok (.iload_n 3, 1) := by decide +kernel
theorem dX8_digest_52 : decode cX8_digest 52 = .ok (.bipush 12, 2) := by decide +kernel
theorem dX8_digest_54 : decode cX8_digest 54 = .ok (.if_icmp .ge 22, 3) := by decide +kernel
theorem dX8_digest_57 : decode cX8_digest 57 = .ok (.lload_n 1, 1) := by decide +kernel
theorem dX8_digest_58 : decode cX8_digest 58 = .ok (.aload_n 0, 1) := by decide +kernel
theorem dX8_digest_59 : decode cX8_digest 59 = .ok (.getfield 35, 3) := by decide +kernel
theorem dX8_digest_62 : decode cX8_digest 62 = .ok (.iload_n 3, 1) := by decide +kernel
theorem dX8_digest_63 : decode cX8_digest 63 = .ok (.invokevirtual 347, 3) := by decide +kernel
theorem dX8_digest_66 : decode cX8_digest 66 = .ok (.invokestatic 403, 3) := by decide +kernel
theorem dX8_digest_69 : decode cX8_digest 69 = .ok (.lstore_n 1, 1) := by decide +kernel
theorem dX8_digest_70 : decode cX8_digest 70 = .ok (.iinc 3 1, 3) := by decide +kernel
theorem dX8_digest_73 : decode cX8_digest 73 = .ok (.goto (-22), 3) := by decide +kernel
theorem dX8_digest_76 : decode cX8_digest 76 = .ok (.aload_n 0, 1) := by decide +kernel
theorem dX8_digest_77 : decode cX8_digest 77 = .ok (.lload_n 1, 1) := by decide +kernel
theorem dX8_digest_78 : decode cX8_digest 78 = .ok (.iconst 1, 1) := by decide +kernel
theorem dX8_digest_79 : decode cX8_digest 79 = .ok (.invokevirtual 417, 3) := by decide +kernel
theorem dX8_digest_82 : decode cX8_digest 82 = .ok (.lstore_n 1, 1) := by decide +kernel
theorem dX8_digest_83 : decode cX8_digest 83 = .ok (.aload_n 0, 1) := by decide +kernel
theorem dX8_digest_84 : decode cX8_digest 84 = .ok (.lload_n 1, 1) := by decide +kernel
theorem dX8_digest_85 : decode cX8_digest 85 = .ok (.iconst 5, 1) := by decide +kernel
theorem dX8_digest_86 : decode cX8_digest 86 = .ok (.invokevirtual 417, 3) := by decide +kernel
theorem dX8_digest_89 : decode cX8_digest 89 = .ok (.lstore_n 1, 1) := by decide +kernel
theorem dX8_digest_90 : decode cX8_digest 90 = .ok (.lload_n 1, 1) := by decide +kernel
theorem dX8_digest_91 : decode cX8_digest 91 = .ok (.aload_n 0, 1) := by decide +kernel
theorem dX8_digest_92 : decode cX8_digest 92 = .ok (.bipush 50, 2) := by decide +kernel
theorem dX8_digest_94 : decode cX8_digest 94 = .ok (.invokevirtual 420, 3) := by decide +kernel
theorem dX8_digest_97 : decode cX8_digest 97 = .ok (.invokestatic 403, 3) := by decide +kernel
theorem dX8_digest_100 : decode cX8_digest 100 = .ok (.lreturn, 1) := by decide +kernel
theorem dX8_tryOut_0 : decode cX8_tryOut 0 = .ok (.iconst 0, 1) := by decide +kernel
theorem dX8_tryOut_1 : decode cX8_tryOut 1 = .ok (.istore_n 3, 1) := by decide +kernel
theorem dX8_tryOut_2 : decode cX8_tryOut 2 = .ok (.iload_n 3, 1) := by decide +kernel
theorem dX8_tryOut_3 : decode cX8_tryOut 3 = .ok (.iload_n 1, 1) := by decide +kernel
theorem dX8_tryOut_4 : decode cX8_tryOut 4 = .ok (.if_icmp .ge 35, 3) := by decide +kernel
theorem dX8_tryOut_7 : decode cX8_tryOut 7 = .ok (.aload_n 0, 1) := by decide +kernel
theorem dX8_tryOut_8 : decode cX8_tryOut 8 = .ok (.getfield 67, 3) := by decide +kernel
theorem dX8_tryOut_11 : decode cX8_tryOut 11 = .ok (.aload_n 0, 1) := by decide +kernel
theorem dX8_tryOut_12 : decode cX8_tryOut 12 = .ok (.getfield 10, 3) := by decide +kernel
theorem dX8_tryOut_15 : decode cX8_tryOut 15 = .ok (.invokevirtual 222, 3) := by decide +kernel
theorem dX8_tryOut_18 : decode cX8_tryOut 18 = .ok (.ifCond .eq 21, 3) := by decide +kernel
theorem dX8_tryOut_21 : decode cX8_tryOut 21 = .ok (.aload_n 0, 1) := by decide +kernel
theorem dX8_tryOut_22 : decode cX8_tryOut 22 = .ok (.getfield 67, 3) := by decide +kernel
theorem dX8_tryOut_25 : decode cX8_tryOut 25 = .ok (.aload_n 0, 1) := by decide +kernel
theorem dX8_tryOut_26 : decode cX8_tryOut 26 = .ok (.getfield 10, 3) := by decide +kernel
theorem dX8_tryOut_29 : decode cX8_tryOut 29 = .ok (.aload_n 2, 1) := by decide +kernel
theorem dX8_tryOut_30 : decode cX8_tryOut 30 = .ok (.invokevirtual 239, 3) := by decide +kernel
theorem dX8_tryOut_33 : decode cX8_tryOut 33 = .ok (.iinc 3 1, 3) := by decide +kernel
theorem dX8_tryOut_36 : decode cX8_tryOut 36 = .ok (.goto (-34), 3) := by decide +kernel
theorem dX8_tryOut_39 : decode cX8_tryOut 39 = .ok (.iload_n 3, 1) := by decide +kernel
theorem dX8_tryOut_40 : decode cX8_tryOut 40 = .ok (.ireturn, 1) := by decide +kernel
theorem dX8_mixed_0 : decode cX8_mixed 0 = .ok (.lload_n 0, 1) := by decide +kernel
theorem dX8_mixed_1 : decode cX8_mixed 1 = .ok (.ldc2_w 423, 3) := by decide +kernel
theorem dX8_mixed_4 : decode cX8_mixed 4 = .ok (.lmul, 1) := by decide +kernel
theorem dX8_mixed_5 : decode cX8_mixed 5 = .ok (.iload_n 2, 1) := by decide +kernel
theorem dX8_mixed_6 : decode cX8_mixed 6 = .ok (.i2l, 1) := by decide +kernel
theorem dX8_mixed_7 : decode cX8_mixed 7 = .ok (.ladd, 1) := by decide +kernel
theorem dX8_mixed_8 : decode cX8_mixed 8 = .ok (.lreturn, 1) := by decide +kernel
theorem dX8_mixedProgram_0 : decode cX8_mixedProgram 0 = .ok (.lload_n 1, 1) := by decide +kernel
theorem dX8_mixedProgram_1 : decode cX8_mixedProgram 1 = .ok (.lstore_n 3, 1) := by decide +kernel
theorem dX8_mixedProgram_2 : decode cX8_mixedProgram 2 = .ok (.iconst 0, 1) := by decide +kernel
theorem dX8_mixedProgram_3 : decode cX8_mixedProgram 3 = .ok (.istore 5, 2) := by decide +kernel
theorem dX8_mixedProgram_5 : decode cX8_mixedProgram 5 = .ok (.iload 5, 2) := by decide +kernel
theorem dX8_mixedProgram_7 : decode cX8_mixedProgram 7 = .ok (.aload_n 0, 1) := by decide +kernel
theorem dX8_mixedProgram_8 : decode cX8_mixedProgram 8 = .ok (.getfield 10, 3) := by decide +kernel
theorem dX8_mixedProgram_11 : decode cX8_mixedProgram 11 = .ok (.invokevirtual 97, 3) := by decide +kernel
theorem dX8_mixedProgram_14 : decode cX8_mixedProgram 14 = .ok (.if_icmp .ge 51, 3) := by decide +kernel
theorem dX8_mixedProgram_17 : decode cX8_mixedProgram 17 = .ok (.lload_n 3, 1) := by decide +kernel
theorem dX8_mixedProgram_18 : decode cX8_mixedProgram 18 = .ok (.aload_n 0, 1) := by decide +kernel
theorem dX8_mixedProgram_19 : decode cX8_mixedProgram 19 = .ok (.getfield 10, 3) := by decide +kernel
theorem dX8_mixedProgram_22 : decode cX8_mixedProgram 22 = .ok (.iload 5, 2) := by decide +kernel
theorem dX8_mixedProgram_24 : decode cX8_mixedProgram 24 = .ok (.invokevirtual 110, 3) := by decide +kernel
theorem dX8_mixedProgram_27 : decode cX8_mixedProgram 27 = .ok (.invokestatic 403, 3) := by decide +kernel
theorem dX8_mixedProgram_30 : decode cX8_mixedProgram 30 = .ok (.lstore_n 3, 1) := by decide +kernel
theorem dX8_mixedProgram_31 : decode cX8_mixedProgram 31 = .ok (.lload_n 3, 1) := by decide +kernel
theorem dX8_mixedProgram_32 : decode cX8_mixedProgram 32 = .ok (.aload_n 0, 1) := by decide +kernel
theorem dX8_mixedProgram_33 : decode cX8_mixedProgram 33 = .ok (.getfield 10, 3) := by decide +kernel
theorem dX8_mixedProgram_36 : decode cX8_mixedProgram 36 = .ok (.iload 5, 2) := by decide +kernel
theorem dX8_mixedProgram_38 : decode cX8_mixedProgram 38 = .ok (.invokevirtual 316, 3) := by decide +kernel
theorem dX8_mixedProgram_41 : decode cX8_mixedProgram 41 = .ok (.invokestatic 403, 3) := by decide +kernel
theorem dX8_mixedProgram_44 : decode cX8_mixedProgram 44 = .ok (.lstore_n 3, 1) := by decide +kernel
theorem dX8_mixedProgram_45 : decode cX8_mixedProgram 45 = .ok (.lload_n 3, 1) := by decide +kernel
theorem dX8_mixedProgram_46 : decode cX8_mixedProgram 46 = .ok (.aload_n 0, 1) := by decide +kernel
theorem dX8_mixedProgram_47 : decode cX8_mixedProgram 47 = .ok (.getfield 10, 3) := by decide +kernel
theorem dX8_mixedProgram_50 : decode cX8_mixedProgram 50 = .ok (.iload 5, 2) := by decide +kernel
theorem dX8_mixedProgram_52 : decode cX8_mixedProgram 52 = .ok (.invokevirtual 319, 3) := by decide +kernel
theorem dX8_mixedProgram_55 : decode cX8_mixedProgram 55 = .ok (.invokestatic 403, 3) := by decide +kernel
theorem dX8_mixedProgram_58 : decode cX8_mixedProgram 58 = .ok (.lstore_n 3, 1) := by decide +kernel
theorem dX8_mixedProgram_59 : decode cX8_mixedProgram 59 = .ok (.iinc 5 1, 3) := by decide +kernel
theorem dX8_mixedProgram_62 : decode cX8_mixedProgram 62 = .ok (.goto (-57), 3) := by decide +kernel
theorem dX8_mixedProgram_65 : decode cX8_mixedProgram 65 = .ok (.lload_n 3, 1) := by decide +kernel
theorem dX8_mixedProgram_66 : decode cX8_mixedProgram 66 = .ok (.lreturn, 1) := by decide +kernel
theorem dX8_mixedPoints_0 : decode cX8_mixedPoints 0 = .ok (.lload_n 1, 1) := by decide +kernel
theorem dX8_mixedPoints_1 : decode cX8_mixedPoints 1 = .ok (.lstore_n 3, 1) := by decide +kernel
theorem dX8_mixedPoints_2 : decode cX8_mixedPoints 2 = .ok (.iconst 0, 1) := by decide +kernel
theorem dX8_mixedPoints_3 : decode cX8_mixedPoints 3 = .ok (.istore 5, 2) := by decide +kernel
theorem dX8_mixedPoints_5 : decode cX8_mixedPoints 5 = .ok (.iload 5, 2) := by decide +kernel
theorem dX8_mixedPoints_7 : decode cX8_mixedPoints 7 = .ok (.aload_n 0, 1) := by decide +kernel
theorem dX8_mixedPoints_8 : decode cX8_mixedPoints 8 = .ok (.getfield 143, 3) := by decide +kernel
theorem dX8_mixedPoints_11 : decode cX8_mixedPoints 11 = .ok (.if_icmp .ge 65, 3) := by decide +kernel
theorem dX8_mixedPoints_14 : decode cX8_mixedPoints 14 = .ok (.aload_n 0, 1) := by decide +kernel
theorem dX8_mixedPoints_15 : decode cX8_mixedPoints 15 = .ok (.iload 5, 2) := by decide +kernel
theorem dX8_mixedPoints_17 : decode cX8_mixedPoints 17 = .ok (.invokevirtual 151, 3) := by decide +kernel
theorem dX8_mixedPoints_20 : decode cX8_mixedPoints 20 = .ok (.astore 6, 2) := by decide +kernel
theorem dX8_mixedPoints_22 : decode cX8_mixedPoints 22 = .ok (.aload 6, 2) := by decide +kernel
theorem dX8_mixedPoints_24 : decode cX8_mixedPoints 24 = .ok (.ifnull 46, 3) := by decide +kernel
theorem dX8_mixedPoints_27 : decode cX8_mixedPoints 27 = .ok (.lload_n 3, 1) := by decide +kernel
theorem dX8_mixedPoints_28 : decode cX8_mixedPoints 28 = .ok (.aload 6, 2) := by decide +kernel
theorem dX8_mixedPoints_30 : decode cX8_mixedPoints 30 = .ok (.getfield 324, 3) := by decide +kernel
theorem dX8_mixedPoints_33 : decode cX8_mixedPoints 33 = .ok (.invokestatic 403, 3) := by decide +kernel
theorem dX8_mixedPoints_36 : decode cX8_mixedPoints 36 = .ok (.lstore_n 3, 1) := by decide +kernel
theorem dX8_mixedPoints_37 : decode cX8_mixedPoints 37 = .ok (.lload_n 3, 1) := by decide +kernel
theorem dX8_mixedPoints_38 : decode cX8_mixedPoints 38 = .ok (.aload 6, 2) := by decide +kernel
theorem dX8_mixedPoints_40 : decode cX8_mixedPoints 40 = .ok (.getfield 176, 3) := by decide +kernel
theorem dX8_mixedPoints_43 : decode cX8_mixedPoints 43 = .ok (.invokestatic 327, 3) := by decide +kernel
theorem dX8_mixedPoints_46 : decode cX8_mixedPoints 46 = .ok (.invokestatic 403, 3) := by decide +kernel
theorem dX8_mixedPoints_49 : decode cX8_mixedPoints 49 = .ok (.lstore_n 3, 1) := by decide +kernel
theorem dX8_mixedPoints_50 : decode cX8_mixedPoints 50 = .ok (.lload_n 3, 1) := by decide +kernel
theorem dX8_mixedPoints_51 : decode cX8_mixedPoints 51 = .ok (.aload 6, 2) := by decide +kernel
theorem dX8_mixedPoints_53 : decode cX8_mixedPoints 53 = .ok (.getfield 173, 3) := by decide +kernel
theorem dX8_mixedPoints_56 : decode cX8_mixedPoints 56 = .ok (.invokestatic 403, 3) := by decide +kernel
theorem dX8_mixedPoints_59 : decode cX8_mixedPoints 59 = .ok (.lstore_n 3, 1) := by decide +kernel
theorem dX8_mixedPoints_60 : decode cX8_mixedPoints 60 = .ok (.lload_n 3, 1) := by decide +kernel
theorem dX8_mixedPoints_61 : decode cX8_mixedPoints 61 = .ok (.aload 6, 2) := by decide +kernel
theorem dX8_mixedPoints_63 : decode cX8_mixedPoints 63 = .ok (.getfield 249, 3) := by decide +kernel
theorem dX8_mixedPoints_66 : decode cX8_mixedPoints 66 = .ok (.invokestatic 403, 3) := by decide +kernel
theorem dX8_mixedPoints_69 : decode cX8_mixedPoints 69 = .ok (.lstore_n 3, 1) := by decide +kernel
theorem dX8_mixedPoints_70 : decode cX8_mixedPoints 70 = .ok (.iinc 5 1, 3) := by decide +kernel
theorem dX8_mixedPoints_73 : decode cX8_mixedPoints 73 = .ok (.goto (-68), 3) := by decide +kernel
theorem dX8_mixedPoints_76 : decode cX8_mixedPoints 76 = .ok (.lload_n 3, 1) := by decide +kernel
theorem dX8_mixedPoints_77 : decode cX8_mixedPoints 77 = .ok (.lreturn, 1) := by decide +kernel
theorem dX8_mixedThen_0 : decode cX8_mixedThen 0 = .ok (.iload_n 3, 1) := by decide +kernel
theorem dX8_mixedThen_1 : decode cX8_mixedThen 1 = .ok (.aload_n 0, 1) := by decide +kernel
theorem dX8_mixedThen_2 : decode cX8_mixedThen 2 = .ok (.getfield 35, 3) := by decide +kernel
theorem dX8_mixedThen_5 : decode cX8_mixedThen 5 = .ok (.invokevirtual 295, 3) := by decide +kernel
theorem dX8_mixedThen_8 : decode cX8_mixedThen 8 = .ok (.if_icmp .le 5, 3) := by decide +kernel
theorem dX8_mixedThen_11 : decode cX8_mixedThen 11 = .ok (.lload_n 1, 1) := by decide +kernel
theorem dX8_mixedThen_12 : decode cX8_mixedThen 12 = .ok (.lreturn, 1) := by decide +kernel
theorem dX8_mixedThen_13 : decode cX8_mixedThen 13 = .ok (.lload_n 1, 1) := by decide +kernel
theorem dX8_mixedThen_14 : decode cX8_mixedThen 14 = .ok (.lstore 4, 2) := by decide +kernel
theorem dX8_mixedThen_16 : decode cX8_mixedThen 16 = .ok (.iconst 0, 1) := by decide +kernel
theorem dX8_mixedThen_17 : decode cX8_mixedThen 17 = .ok (.istore 6, 2) := by decide +kernel
theorem dX8_mixedThen_19 : decode cX8_mixedThen 19 = .ok (.iload 6, 2) := by decide +kernel
theorem dX8_mixedThen_21 : decode cX8_mixedThen 21 = .ok (.iconst 4, 1) := by decide +kernel
theorem dX8_mixedThen_22 : decode cX8_mixedThen 22 = .ok (.if_icmp .gt 23, 3) := by decide +kernel
theorem dX8_mixedThen_25 : decode cX8_mixedThen 25 = .ok (.lload 4, 2) := by decide +kernel
theorem dX8_mixedThen_27 : decode cX8_mixedThen 27 = .ok (.aload_n 0, 1) := by decide +kernel
theorem dX8_mixedThen_28 : decode cX8_mixedThen 28 = .ok (.iload_n 3, 1) := by decide +kernel
theorem dX8_mixedThen_29 : decode cX8_mixedThen 29 = .ok (.iload 6, 2) := by decide +kernel
theorem dX8_mixedThen_31 : decode cX8_mixedThen 31 = .ok (.invokevirtual 425, 3) := by decide +kernel
theorem dX8_mixedThen_34 : decode cX8_mixedThen 34 = .ok (.invokestatic 403, 3) := by decide +kernel
theorem dX8_mixedThen_37 : decode cX8_mixedThen 37 = .ok (.lstore 4, 2) := by decide +kernel
theorem dX8_mixedThen_39 : decode cX8_mixedThen 39 = .ok (.iinc 6 2, 3) := by decide +kernel
theorem dX8_mixedThen_42 : decode cX8_mixedThen 42 = .ok (.goto (-23), 3) := by decide +kernel
theorem dX8_mixedThen_45 : decode cX8_mixedThen 45 = .ok (.lload 4, 2) := by decide +kernel
theorem dX8_mixedThen_47 : decode cX8_mixedThen 47 = .ok (.lreturn, 1) := by decide +kernel
end
section
theorem dL_law_0 : decode cL_law 0 = .ok (.new 22, 3) := by decide +kernel
theorem dL_law_3 : decode cL_law 3 = .ok (.dup, 1) := by decide +kernel
theorem dL_law_4 : decode cL_law 4 = .ok (.invokespecial 48, 3) := by decide +kernel
theorem dL_law_7 : decode cL_law 7 = .ok (.astore_n 1, 1) := by decide +kernel
theorem dL_law_8 : decode cL_law 8 = .ok (.aload_n 1, 1) := by decide +kernel
theorem dL_law_9 : decode cL_law 9 = .ok (.aload_n 0, 1) := by decide +kernel
theorem dL_law_10 : decode cL_law 10 = .ok (.bipush 8, 2) := by decide +kernel
theorem dL_law_12 : decode cL_law 12 = .ok (.aload_n 0, 1) := by decide +kernel
theorem dL_law_13 : decode cL_law 13 = .ok (.iconst 0, 1) := by decide +kernel
theorem dL_law_14 : decode cL_law 14 = .ok (.invokestatic 11, 3) := by decide +kernel
theorem dL_law_17 : decode cL_law 17 = .ok (.bipush 24, 2) := by decide +kernel
theorem dL_law_19 : decode cL_law 19 = .ok (.invokestatic 17, 3) := by decide +kernel
theorem dL_law_22 : decode cL_law 22 = .ok (.iadd, 1) := by decide +kernel
theorem dL_law_23 : decode cL_law 23 = .ok (.invokestatic 49, 3) := by decide +kernel
theorem dL_law_26 : decode cL_law 26 = .ok (.astore_n 2, 1) := by decide +kernel
theorem dL_law_27 : decode cL_law 27 = .ok (.aload_n 0, 1) := by decide +kernel
theorem dL_law_28 : decode cL_law 28 = .ok (.iconst 1, 1) := by decide +kernel
theorem dL_law_29 : decode cL_law 29 = .ok (.invokestatic 11, 3) := by decide +kernel
theorem dL_law_32 : decode cL_law 32 = .ok (.iconst 4, 1) := by decide +kernel
theorem dL_law_33 : decode cL_law 33 = .ok (.invokestatic 17, 3) := by decide +kernel
theorem dL_law_36 : decode cL_law 36 = .ok (.istore_n 3, 1) := by decide +kernel
theorem dL_law_37 : decode cL_law 37 = .ok (.iconst 0, 1) := by decide +kernel
theorem dL_law_38 : decode cL_law 38 = .ok (.istore 4, 2) := by decide +kernel
theorem dL_law_40 : decode cL_law 40 = .ok (.iload 4, 2) := by decide +kernel
theorem dL_law_42 : decode cL_law 42 = .ok (.iload_n 3, 1) := by decide +kernel
theorem dL_law_43 : decode cL_law 43 = .ok (.if_icmp .ge 27, 3) := by decide +kernel
theorem dL_law_46 : decode cL_law 46 = .ok (.aload_n 1, 1) := by decide +kernel
theorem dL_law_47 : decode cL_law 47 = .ok (.aload_n 0, 1) := by decide +kernel
theorem dL_law_48 : decode cL_law 48 = .ok (.iconst 2, 1) := by decide +kernel
theorem dL_law_49 : decode cL_law 49 = .ok (.iload 4, 2) := by decide +kernel
theorem dL_law_51 : decode cL_law 51 = .ok (.iadd, 1) := by decide +kernel
theorem dL_law_52 : decode cL_law 52 = .ok (.invokestatic 11, 3) := by decide +kernel
theorem dL_law_55 : decode cL_law 55 = .ok (.bipush 7, 2) := by decide +kernel
theorem dL_law_57 : decode cL_law 57 = .ok (.invokestatic 17, 3) := by decide +kernel
theorem dL_law_60 : decode cL_law 60 = .ok (.invokevirtual 53, 3) := by decide +kernel
theorem dL_law_63 : decode cL_law 63 = .ok (.pop, 1) := by decide +kernel
theorem dL_law_64 : decode cL_law 64 = .ok (.iinc 4 1, 3) := by decide +kernel
theorem dL_law_67 : decode cL_law 67 = .ok (.goto (-27), 3) := by decide +kernel
theorem dL_law_70 : decode cL_law 70 = .ok (.iconst 0, 1) := by decide +kernel
theorem dL_law_71 : decode cL_law 71 = .ok (.istore 4, 2) := by decide +kernel
theorem dL_law_73 : decode cL_law 73 = .ok (.iconst 0, 1) := by decide +kernel
theorem dL_law_74 : decode cL_law 74 = .ok (.istore 5, 2) := by decide +kernel
theorem dL_law_76 : decode cL_law 76 = .ok (.iload 5, 2) := by decide +kernel
theorem dL_law_78 : decode cL_law 78 = .ok (.bipush 12, 2) := by decide +kernel
theorem dL_law_80 : decode cL_law 80 = .ok (.if_icmp .ge 562, 3) := by decide +kernel
theorem dL_law_83 : decode cL_law 83 = .ok (.aload_n 0, 1) := by decide +kernel
theorem dL_law_84 : decode cL_law 84 = .ok (.iload 5, 2) := by decide +kernel
theorem dL_law_86 : decode cL_law 86 = .ok (.iconst 4, 1) := by decide +kernel
theorem dL_law_87 : decode cL_law 87 = .ok (.iadd, 1) := by decide +kernel
theorem dL_law_88 : decode cL_law 88 = .ok (.invokestatic 11, 3) := by decide +kernel
theorem dL_law_91 : decode cL_law 91 = .ok (.istore 6, 2) := by decide +kernel
theorem dL_law_93 : decode cL_law 93 = .ok (.iconst 1, 1) := by decide +kernel
theorem dL_law_94 : decode cL_law 94 = .ok (.iload 6, 2) := by decide +kernel
theorem dL_law_96 : decode cL_law 96 = .ok (.bipush 12, 2) := by decide +kernel
theorem dL_law_98 : decode cL_law 98 = .ok (.invokestatic 17, 3) := by decide +kernel
theorem dL_law_101 : decode cL_law 101 = .ok (.iadd, 1) := by decide +kernel
theorem dL_law_102 : decode cL_law 102 = .ok (.istore 7, 2) := by decide +kernel
theorem dL_law_104 : decode cL_law 104 = .ok (.aload_n 1, 1) := by decide +kernel
theorem dL_law_105 : decode cL_law 105 = .ok (.iload 7, 2) := by decide +kernel
theorem dL_law_107 : decode cL_law 107 = .ok (.invokevirtual 56, 3) := by decide +kernel
theorem dL_law_110 : decode cL_law 110 = .ok (.istore 8, 2) := by decide +kernel
theorem dL_law_112 : decode cL_law 112 = .ok (.iload 6, 2) := by decide +kernel
theorem dL_law_114 : decode cL_law 114 = .ok (.iconst 2, 1) := by decide +kernel
theorem dL_law_115 : decode cL_law 115 = .ok (.ishr, 1) := by decide +kernel
theorem dL_law_116 : decode cL_law 116 = .ok (.iconst 4, 1) := by decide +kernel
theorem dL_law_117 : decode cL_law 117 = .ok (.invokestatic 17, 3) := by decide +kernel
theorem dL_law_120 : decode cL_law 120 = .ok (.istore 9, 2) := by decide +kernel
theorem dL_law_122 : decode cL_law 122 = .ok (.aload_n 1, 1) := by decide +kernel
theorem dL_law_123 : decode cL_law 123 = .ok (.iload 9, 2) := by decide +kernel
theorem dL_law_125 : decode cL_law 125 = .ok (.iload 7, 2) := by decide +kernel
theorem dL_law_127 : decode cL_law 127 = .ok (.invokevirtual 59, 3) := by decide +kernel
theorem dL_law_130 : decode cL_law 130 = .ok (.istore 10, 2) := by decide +kernel
theorem dL_law_132 : decode cL_law 132 = .ok (.aload_n 1, 1) := by decide +kernel
theorem dL_law_133 : decode cL_law 133 = .ok (.iconst 1, 1) := by decide +kernel
theorem dL_law_134 : decode cL_law 134 = .ok (.invokevirtual 30, 3) := by decide +kernel
theorem dL_law_137 : decode cL_law 137 = .ok (.ifCond .ne 7, 3) := by decide +kernel
theorem dL_law_140 : decode cL_law 140 = .ok (.iconst 1, 1) := by decide +kernel
theorem dL_law_141 : decode cL_law 141 = .ok (.goto 4, 3) := by decide +kernel
theorem dL_law_144 : decode cL_law 144 = .ok (.iconst 0, 1) := by decide +kernel
theorem dL_law_145 : decode cL_law 145 = .ok (.istore 11, 2) := by decide +kernel
theorem dL_law_147 : decode cL_law 147 = .ok (.aload_n 1, 1) := by decide +kernel
theorem dL_law_148 : decode cL_law 148 = .ok (.iload 7, 2) := by decide +kernel
theorem dL_law_150 : decode cL_law 150 = .ok (.invokevirtual 62, 3) := by decide +kernel
theorem dL_law_153 : decode cL_law 153 = .ok (.istore 12, 2) := by decide +kernel
theorem dL_law_155 : decode cL_law 155 = .ok (.iload 4, 2) := by decide +kernel
theorem dL_law_157 : decode cL_law 157 = .ok (.iload 12, 2) := by decide +kernel
theorem dL_law_159 : decode cL_law 159 = .ok (.iadd, 1) := by decide +kernel
theorem dL_law_160 : decode cL_law 160 = .ok (.istore 4, 2) := by decide +kernel
theorem dL_law_162 : decode cL_law 162 = .ok (.iload 12, 2) := by decide +kernel
theorem dL_law_164 : decode cL_law 164 = .ok (.iload 8, 2) := by decide +kernel
theorem dL_law_166 : decode cL_law 166 = .ok (.ifCond .ge 8, 3) := by decide +kernel
theorem dL_law_169 : decode cL_law 169 = .ok (.iload 7, 2) := by decide +kernel
theorem dL_law_171 : decode cL_law 171 = .ok (.goto 5, 3) := by decide +kernel
theorem dL_law_174 : decode cL_law 174 = .ok (.iload 8, 2) := by decide +kernel
theorem dL_law_176 : decode cL_law 176 = .ok (.if_icmp .ne 96, 3) := by decide +kernel
theorem dL_law_179 : decode cL_law 179 = .ok (.aload_n 1, 1) := by decide +kernel
theorem dL_law_180 : decode cL_law 180 = .ok (.iload 9, 2) := by decide +kernel
theorem dL_law_182 : decode cL_law 182 = .ok (.invokevirtual 37, 3) := by decide +kernel
theorem dL_law_185 : decode cL_law 185 = .ok (.iload 10, 2) := by decide +kernel
theorem dL_law_187 : decode cL_law 187 = .ok (.if_icmp .ne 85, 3) := by decide +kernel
theorem dL_law_190 : decode cL_law 190 = .ok (.aload_n 1, 1) := by decide +kernel
theorem dL_law_191 : decode cL_law 191 = .ok (.iconst 2, 1) := by decide +kernel
theorem dL_law_192 : decode cL_law 192 = .ok (.invokevirtual 30, 3) := by decide +kernel
theorem dL_law_195 : decode cL_law 195 = .ok (.iload 4, 2) := by decide +kernel
theorem dL_law_197 : decode cL_law 197 = .ok (.if_icmp .ne 75, 3) := by decide +kernel
theorem dL_law_200 : decode cL_law 200 = .ok (.aload_n 1, 1) := by decide +kernel
theorem dL_law_201 : decode cL_law 201 = .ok (.iconst 1, 1) := by decide +kernel
theorem dL_law_202 : decode cL_law 202 = .ok (.invokevirtual 30, 3) := by decide +kernel
theorem dL_law_205 : decode cL_law 205 = .ok (.ifCond .ne 7, 3) := by decide +kernel
theorem dL_law_208 : decode cL_law 208 = .ok (.iconst 1, 1) := by decide +kernel
theorem dL_law_209 : decode cL_law 209 = .ok (.goto 4, 3) := by decide +kernel
theorem dL_law_212 : decode cL_law 212 = .ok (.iconst 0, 1) := by decide +kernel
theorem dL_law_213 : decode cL_law 213 = .ok (.iload 8, 2) := by decide +kernel
theorem dL_law_215 : decode cL_law 215 = .ok (.ifCond .ge 7, 3) := by decide +kernel
theorem dL_law_218 : decode cL_law 218 = .ok (.iconst 1, 1) := by decide +kernel
theorem dL_law_219 : decode cL_law 219 = .ok (.goto 4, 3) := by decide +kernel
theorem dL_law_222 : decode cL_law 222 = .ok (.iconst 0, 1) := by decide +kernel
theorem dL_law_223 : decode cL_law 223 = .ok (.if_icmp .ne 49, 3) := by decide +kernel
theorem dL_law_226 : decode cL_law 226 = .ok (.aload_n 1, 1) := by decide +kernel
theorem dL_law_227 : decode cL_law 227 = .ok (.bipush 8, 2) := by decide +kernel
theorem dL_law_229 : decode cL_law 229 = .ok (.invokevirtual 30, 3) := by decide +kernel
theorem dL_law_232 : decode cL_law 232 = .ok (.aload_n 1, 1) := by decide +kernel
theorem dL_law_233 : decode cL_law 233 = .ok (.iconst 1, 1) := by decide +kernel
theorem dL_law_234 : decode cL_law 234 = .ok (.invokevirtual 30, 3) := by decide +kernel
theorem dL_law_237 : decode cL_law 237 = .ok (.ifCond .ne 8, 3) := by decide +kernel
theorem dL_law_240 : decode cL_law 240 = .ok (.bipush 6, 2) := by decide +kernel
theorem dL_law_242 : decode cL_law 242 = .ok (.goto 17, 3) := by decide +kernel
theorem dL_law_245 : decode cL_law 245 = .ok (.aload_n 1, 1) := by decide +kernel
theorem dL_law_246 : decode cL_law 246 = .ok (.iconst 1, 1) := by decide +kernel
theorem dL_law_247 : decode cL_law 247 = .ok (.invokevirtual 30, 3) := by decide +kernel
theorem dL_law_250 : decode cL_law 250 = .ok (.iconst 1, 1) := by decide +kernel
theorem dL_law_251 : decode cL_law 251 = .ok (.if_icmp .ne 7, 3) := by decide +kernel
theorem dL_law_254 : decode cL_law 254 = .ok (.iconst 1, 1) := by decide +kernel
theorem dL_law_255 : decode cL_law 255 = .ok (.goto 4, 3) := by decide +kernel
theorem dL_law_258 : decode cL_law 258 = .ok (.iconst 2, 1) := by decide +kernel
theorem dL_law_259 : decode cL_law 259 = .ok (.if_icmp .ne 13, 3) := by decide +kernel
theorem dL_law_262 : decode cL_law 262 = .ok (.iload 11, 2) := by decide +kernel
theorem dL_law_264 : decode cL_law 264 = .ok (.ifCond .ne 10, 3) := by decide +kernel
theorem dL_law_267 : decode cL_law 267 = .ok (.iload 12, 2) := by decide +kernel
theorem dL_law_269 : decode cL_law 269 = .ok (.ifCond .le 5, 3) := by decide +kernel
theorem dL_law_272 : decode cL_law 272 = .ok (.iconst 0, 1) := by decide +kernel
theorem dL_law_273 : decode cL_law 273 = .ok (.ireturn, 1) := by decide +kernel
theorem dL_law_274 : decode cL_law 274 = .ok (.iload 12, 2) := by decide +kernel
theorem dL_law_276 : decode cL_law 276 = .ok (.iconst 1, 1) := by decide +kernel
theorem dL_law_277 : decode cL_law 277 = .ok (.iload 6, 2) := by decide +kernel
theorem dL_law_279 : decode cL_law 279 = .ok (.iconst 3, 1) := by decide +kernel
theorem dL_law_280 : decode cL_law 280 = .ok (.ishr, 1) := by decide +kernel
theorem dL_law_281 : decode cL_law 281 = .ok (.bipush 12, 2) := by decide +kernel
theorem dL_law_283 : decode cL_law 283 = .ok (.invokestatic 17, 3) := by decide +kernel
theorem dL_law_286 : decode cL_law 286 = .ok (.iadd, 1) := by decide +kernel
theorem dL_law_287 : decode cL_law 287 = .ok (.invokestatic 65, 3) := by decide +kernel
theorem dL_law_290 : decode cL_law 290 = .ok (.istore 13, 2) := by decide +kernel
theorem dL_law_292 : decode cL_law 292 = .ok (.aload_n 1, 1) := by decide +kernel
theorem dL_law_293 : decode cL_law 293 = .ok (.iconst 1, 1) := by decide +kernel
theorem dL_law_294 : decode cL_law 294 = .ok (.invokevirtual 30, 3) := by decide +kernel
theorem dL_law_297 : decode cL_law 297 = .ok (.iconst 2, 1) := by decide +kernel
theorem dL_law_298 : decode cL_law 298 = .ok (.if_icmp .ge 7, 3) := by decide +kernel
theorem dL_law_301 : decode cL_law 301 = .ok (.iconst 1, 1) := by decide +kernel
theorem dL_law_302 : decode cL_law 302 = .ok (.goto 4, 3) := by decide +kernel
theorem dL_law_305 : decode cL_law 305 = .ok (.iconst 0, 1) := by decide +kernel
theorem dL_law_306 : decode cL_law 306 = .ok (.istore 14, 2) := by decide +kernel
theorem dL_law_308 : decode cL_law 308 = .ok (.aload_n 1, 1) := by decide +kernel
theorem dL_law_309 : decode cL_law 309 = .ok (.invokestatic 70, 3) := by decide +kernel
theorem dL_law_312 : decode cL_law 312 = .ok (.lstore 15, 2) := by decide +kernel
theorem dL_law_314 : decode cL_law 314 = .ok (.aload_n 1, 1) := by decide +kernel
theorem dL_law_315 : decode cL_law 315 = .ok (.iconst 3, 1) := by decide +kernel
theorem dL_law_316 : decode cL_law 316 = .ok (.invokevirtual 30, 3) := by decide +kernel
theorem dL_law_319 : decode cL_law 319 = .ok (.ifCond .le 11, 3) := by decide +kernel
theorem dL_law_322 : decode cL_law 322 = .ok (.aload_n 1, 1) := by decide +kernel
theorem dL_law_323 : decode cL_law 323 = .ok (.iconst 0, 1) := by decide +kernel
theorem dL_law_324 : decode cL_law 324 = .ok (.invokevirtual 34, 3) := by decide +kernel
theorem dL_law_327 : decode cL_law 327 = .ok (.goto 4, 3) := by decide +kernel
theorem dL_law_330 : decode cL_law 330 = .ok (.iconst 0, 1) := by decide +kernel
theorem dL_law_331 : decode cL_law 331 = .ok (.istore 17, 2) := by decide +kernel
theorem dL_law_333 : decode cL_law 333 = .ok (.iload 13, 2) := by decide +kernel
theorem dL_law_335 : decode cL_law 335 = .ok (.ifCond .le 81, 3) := by decide +kernel
theorem dL_law_338 : decode cL_law 338 = .ok (.aload_n 1, 1) := by decide +kernel
theorem dL_law_339 : decode cL_law 339 = .ok (.iload 13, 2) := by decide +kernel
theorem dL_law_341 : decode cL_law 341 = .ok (.invokevirtual 74, 3) := by decide +kernel
theorem dL_law_344 : decode cL_law 344 = .ok (.iload 13, 2) := by decide +kernel
theorem dL_law_346 : decode cL_law 346 = .ok (.if_icmp .ne 68, 3) := by decide +kernel
theorem dL_law_349 : decode cL_law 349 = .ok (.aload_n 1, 1) := by decide +kernel
theorem dL_law_350 : decode cL_law 350 = .ok (.iconst 2, 1) := by decide +kernel
theorem dL_law_351 : decode cL_law 351 = .ok (.invokevirtual 30, 3) := by decide +kernel
theorem dL_law_354 : decode cL_law 354 = .ok (.iload 4, 2) := by decide +kernel
theorem dL_law_356 : decode cL_law 356 = .ok (.iload 13, 2) := by decide +kernel
theorem dL_law_358 : decode cL_law 358 = .ok (.isub, 1) := by decide +kernel
theorem dL_law_359 : decode cL_law 359 = .ok (.if_icmp .ne 55, 3) := by decide +kernel
theorem dL_law_362 : decode cL_law 362 = .ok (.aload_n 1, 1) := by decide +kernel
theorem dL_law_363 : decode cL_law 363 = .ok (.iconst 1, 1) := by decide +kernel
theorem dL_law_364 : decode cL_law 364 = .ok (.invokevirtual 30, 3) := by decide +kernel
theorem dL_law_367 : decode cL_law 367 = .ok (.ifCond .ne 47, 3) := by decide +kernel
theorem dL_law_370 : decode cL_law 370 = .ok (.aload_n 1, 1) := by decide +kernel
theorem dL_law_371 : decode cL_law 371 = .ok (.iload 13, 2) := by decide +kernel
theorem dL_law_373 : decode cL_law 373 = .ok (.invokevirtual 62, 3) := by decide +kernel
theorem dL_law_376 : decode cL_law 376 = .ok (.iload 13, 2) := by decide +kernel
theorem dL_law_378 : decode cL_law 378 = .ok (.if_icmp .ne 36, 3) := by decide +kernel
theorem dL_law_381 : decode cL_law 381 = .ok (.iload 14, 2) := by decide +kernel
theorem dL_law_383 : decode cL_law 383 = .ok (.ifCond .eq 13, 3) := by decide +kernel
theorem dL_law_386 : decode cL_law 386 = .ok (.aload_n 1, 1) := by decide +kernel
theorem dL_law_387 : decode cL_law 387 = .ok (.invokestatic 70, 3) := by decide +kernel
theorem dL_law_390 : decode cL_law 390 = .ok (.lload 15, 2) := by decide +kernel
theorem dL_law_392 : decode cL_law 392 = .ok (.lcmp, 1) := by decide +kernel
theorem dL_law_393 : decode cL_law 393 = .ok (.ifCond .ne 21, 3) := by decide +kernel
theorem dL_law_396 : decode cL_law 396 = .ok (.aload_n 1, 1) := by decide +kernel
theorem dL_law_397 : decode cL_law 397 = .ok (.iconst 3, 1) := by decide +kernel
theorem dL_law_398 : decode cL_law 398 = .ok (.invokevirtual 30, 3) := by decide +kernel
theorem dL_law_401 : decode cL_law 401 = .ok (.ifCond .le 15, 3) := by decide +kernel
theorem dL_law_404 : decode cL_law 404 = .ok (.aload_n 1, 1) := by decide +kernel
theorem dL_law_405 : decode cL_law 405 = .ok (.iconst 0, 1) := by decide +kernel
theorem dL_law_406 : decode cL_law 406 = .ok (.invokevirtual 34, 3) := by decide +kernel
theorem dL_law_409 : decode cL_law 409 = .ok (.iload 17, 2) := by decide +kernel
theorem dL_law_411 : decode cL_law 411 = .ok (.if_icmp .eq 5, 3) := by decide +kernel
theorem dL_law_414 : decode cL_law 414 = .ok (.iconst 0, 1) := by decide +kernel
theorem dL_law_415 : decode cL_law 415 = .ok (.ireturn, 1) := by decide +kernel
theorem dL_law_416 : decode cL_law 416 = .ok (.aload_n 1, 1) := by decide +kernel
theorem dL_law_417 : decode cL_law 417 = .ok (.invokevirtual 77, 3) := by decide +kernel
theorem dL_law_420 : decode cL_law 420 = .ok (.lstore 18, 2) := by decide +kernel
theorem dL_law_422 : decode cL_law 422 = .ok (.iconst 0, 1) := by decide +kernel
theorem dL_law_423 : decode cL_law 423 = .ok (.istore 20, 2) := by decide +kernel
theorem dL_law_425 : decode cL_law 425 = .ok (.iload 20, 2) := by decide +kernel
theorem dL_law_427 : decode cL_law 427 = .ok (.bipush 8, 2) := by decide +kernel
theorem dL_law_429 : decode cL_law 429 = .ok (.aload_n 1, 1) := by decide +kernel
theorem dL_law_430 : decode cL_law 430 = .ok (.bipush 7, 2) := by decide +kernel
theorem dL_law_432 : decode cL_law 432 = .ok (.invokevirtual 30, 3) := by decide +kernel
theorem dL_law_435 : decode cL_law 435 = .ok (.invokestatic 65, 3) := by decide +kernel
theorem dL_law_438 : decode cL_law 438 = .ok (.if_icmp .gt 86, 3) := by decide +kernel
theorem dL_law_441 : decode cL_law 441 = .ok (.aload_n 1, 1) := by decide +kernel
theorem dL_law_442 : decode cL_law 442 = .ok (.iload 20, 2) := by decide +kernel
theorem dL_law_444 : decode cL_law 444 = .ok (.iconst 1, 1) := by decide +kernel
theorem dL_law_445 : decode cL_law 445 = .ok (.invokevirtual 81, 3) := by decide +kernel
theorem dL_law_448 : decode cL_law 448 = .ok (.ifCond .lt 49, 3) := by decide +kernel
theorem dL_law_451 : decode cL_law 451 = .ok (.aload_n 1, 1) := by decide +kernel
theorem dL_law_452 : decode cL_law 452 = .ok (.iload 20, 2) := by decide +kernel
theorem dL_law_454 : decode cL_law 454 = .ok (.iconst 1, 1) := by decide +kernel
theorem dL_law_455 : decode cL_law 455 = .ok (.invokevirtual 81, 3) := by decide +kernel
theorem dL_law_458 : decode cL_law 458 = .ok (.bipush 24, 2) := by decide +kernel
end
section
theorem dL_law_460 : decode cL_law 460 = .ok (.if_icmp .gt 37, 3) := by decide +kernel
theorem dL_law_463 : decode cL_law 463 = .ok (.aload_n 1, 1) := by decide +kernel
theorem dL_law_464 : decode cL_law 464 = .ok (.iload 20, 2) := by decide +kernel
theorem dL_law_466 : decode cL_law 466 = .ok (.iconst 3, 1) := by decide +kernel
theorem dL_law_467 : decode cL_law 467 = .ok (.invokevirtual 81, 3) := by decide +kernel
theorem dL_law_470 : decode cL_law 470 = .ok (.bipush 8, 2) := by decide +kernel
theorem dL_law_472 : decode cL_law 472 = .ok (.if_icmp .gt 25, 3) := by decide +kernel
theorem dL_law_475 : decode cL_law 475 = .ok (.aload_n 1, 1) := by decide +kernel
theorem dL_law_476 : decode cL_law 476 = .ok (.iload 20, 2) := by decide +kernel
theorem dL_law_478 : decode cL_law 478 = .ok (.iconst 0, 1) := by decide +kernel
theorem dL_law_479 : decode cL_law 479 = .ok (.invokevirtual 81, 3) := by decide +kernel
theorem dL_law_482 : decode cL_law 482 = .ok (.ifCond .lt 15, 3) := by decide +kernel
theorem dL_law_485 : decode cL_law 485 = .ok (.aload_n 1, 1) := by decide +kernel
theorem dL_law_486 : decode cL_law 486 = .ok (.iload 20, 2) := by decide +kernel
theorem dL_law_488 : decode cL_law 488 = .ok (.iconst 0, 1) := by decide +kernel
theorem dL_law_489 : decode cL_law 489 = .ok (.invokevirtual 81, 3) := by decide +kernel
theorem dL_law_492 : decode cL_law 492 = .ok (.bipush 80, 2) := by decide +kernel
theorem dL_law_494 : decode cL_law 494 = .ok (.if_icmp .le 5, 3) := by decide +kernel
theorem dL_law_497 : decode cL_law 497 = .ok (.iconst 0, 1) := by decide +kernel
theorem dL_law_498 : decode cL_law 498 = .ok (.ireturn, 1) := by decide +kernel
theorem dL_law_499 : decode cL_law 499 = .ok (.iload 20, 2) := by decide +kernel
theorem dL_law_501 : decode cL_law 501 = .ok (.ifCond .le 17, 3) := by decide +kernel
theorem dL_law_504 : decode cL_law 504 = .ok (.aload_n 1, 1) := by decide +kernel
theorem dL_law_505 : decode cL_law 505 = .ok (.iload 20, 2) := by decide +kernel
theorem dL_law_507 : decode cL_law 507 = .ok (.iconst 0, 1) := by decide +kernel
theorem dL_law_508 : decode cL_law 508 = .ok (.invokevirtual 81, 3) := by decide +kernel
theorem dL_law_511 : decode cL_law 511 = .ok (.aload_n 2, 1) := by decide +kernel
theorem dL_law_512 : decode cL_law 512 = .ok (.arraylength, 1) := by decide +kernel
theorem dL_law_513 : decode cL_law 513 = .ok (.if_icmp .lt 5, 3) := by decide +kernel
theorem dL_law_516 : decode cL_law 516 = .ok (.iconst 0, 1) := by decide +kernel
theorem dL_law_517 : decode cL_law 517 = .ok (.ireturn, 1) := by decide +kernel
theorem dL_law_518 : decode cL_law 518 = .ok (.iinc 20 1, 3) := by decide +kernel
theorem dL_law_521 : decode cL_law 521 = .ok (.goto (-96), 3) := by decide +kernel
theorem dL_law_524 : decode cL_law 524 = .ok (.iconst 0, 1) := by decide +kernel
theorem dL_law_525 : decode cL_law 525 = .ok (.istore 20, 2) := by decide +kernel
theorem dL_law_527 : decode cL_law 527 = .ok (.iload 20, 2) := by decide +kernel
theorem dL_law_529 : decode cL_law 529 = .ok (.bipush 12, 2) := by decide +kernel
theorem dL_law_531 : decode cL_law 531 = .ok (.if_icmp .ge 93, 3) := by decide +kernel
theorem dL_law_534 : decode cL_law 534 = .ok (.aload_n 1, 1) := by decide +kernel
theorem dL_law_535 : decode cL_law 535 = .ok (.iload 20, 2) := by decide +kernel
theorem dL_law_537 : decode cL_law 537 = .ok (.invokevirtual 39, 3) := by decide +kernel
theorem dL_law_540 : decode cL_law 540 = .ok (.istore 21, 2) := by decide +kernel
theorem dL_law_542 : decode cL_law 542 = .ok (.iload 21, 2) := by decide +kernel
theorem dL_law_544 : decode cL_law 544 = .ok (.ifCond .le 35, 3) := by decide +kernel
theorem dL_law_547 : decode cL_law 547 = .ok (.aload_n 2, 1) := by decide +kernel
theorem dL_law_548 : decode cL_law 548 = .ok (.aload_n 1, 1) := by decide +kernel
theorem dL_law_549 : decode cL_law 549 = .ok (.iload 21, 2) := by decide +kernel
theorem dL_law_551 : decode cL_law 551 = .ok (.iconst 0, 1) := by decide +kernel
theorem dL_law_552 : decode cL_law 552 = .ok (.invokevirtual 81, 3) := by decide +kernel
theorem dL_law_555 : decode cL_law 555 = .ok (.aaload, 1) := by decide +kernel
theorem dL_law_556 : decode cL_law 556 = .ok (.iconst 0, 1) := by decide +kernel
theorem dL_law_557 : decode cL_law 557 = .ok (.iaload, 1) := by decide +kernel
theorem dL_law_558 : decode cL_law 558 = .ok (.bipush 13, 2) := by decide +kernel
theorem dL_law_560 : decode cL_law 560 = .ok (.if_icmp .eq 19, 3) := by decide +kernel
theorem dL_law_563 : decode cL_law 563 = .ok (.aload_n 2, 1) := by decide +kernel
theorem dL_law_564 : decode cL_law 564 = .ok (.aload_n 1, 1) := by decide +kernel
theorem dL_law_565 : decode cL_law 565 = .ok (.iload 21, 2) := by decide +kernel
theorem dL_law_567 : decode cL_law 567 = .ok (.iconst 0, 1) := by decide +kernel
theorem dL_law_568 : decode cL_law 568 = .ok (.invokevirtual 81, 3) := by decide +kernel
theorem dL_law_571 : decode cL_law 571 = .ok (.aaload, 1) := by decide +kernel
theorem dL_law_572 : decode cL_law 572 = .ok (.iconst 0, 1) := by decide +kernel
theorem dL_law_573 : decode cL_law 573 = .ok (.iaload, 1) := by decide +kernel
theorem dL_law_574 : decode cL_law 574 = .ok (.bipush 15, 2) := by decide +kernel
theorem dL_law_576 : decode cL_law 576 = .ok (.if_icmp .ne 40, 3) := by decide +kernel
theorem dL_law_579 : decode cL_law 579 = .ok (.iload 21, 2) := by decide +kernel
theorem dL_law_581 : decode cL_law 581 = .ok (.ifCond .le 24, 3) := by decide +kernel
theorem dL_law_584 : decode cL_law 584 = .ok (.aload_n 1, 1) := by decide +kernel
theorem dL_law_585 : decode cL_law 585 = .ok (.iload 21, 2) := by decide +kernel
theorem dL_law_587 : decode cL_law 587 = .ok (.iconst 1, 1) := by decide +kernel
theorem dL_law_588 : decode cL_law 588 = .ok (.isub, 1) := by decide +kernel
theorem dL_law_589 : decode cL_law 589 = .ok (.iconst 4, 1) := by decide +kernel
theorem dL_law_590 : decode cL_law 590 = .ok (.iload 20, 2) := by decide +kernel
theorem dL_law_592 : decode cL_law 592 = .ok (.iadd, 1) := by decide +kernel
theorem dL_law_593 : decode cL_law 593 = .ok (.invokevirtual 81, 3) := by decide +kernel
theorem dL_law_596 : decode cL_law 596 = .ok (.aload_n 1, 1) := by decide +kernel
theorem dL_law_597 : decode cL_law 597 = .ok (.iload 20, 2) := by decide +kernel
theorem dL_law_599 : decode cL_law 599 = .ok (.invokevirtual 37, 3) := by decide +kernel
theorem dL_law_602 : decode cL_law 602 = .ok (.if_icmp .ne 14, 3) := by decide +kernel
theorem dL_law_605 : decode cL_law 605 = .ok (.iload 21, 2) := by decide +kernel
theorem dL_law_607 : decode cL_law 607 = .ok (.aload_n 1, 1) := by decide +kernel
theorem dL_law_608 : decode cL_law 608 = .ok (.bipush 7, 2) := by decide +kernel
theorem dL_law_610 : decode cL_law 610 = .ok (.invokevirtual 30, 3) := by decide +kernel
theorem dL_law_613 : decode cL_law 613 = .ok (.if_icmp .le 5, 3) := by decide +kernel
theorem dL_law_616 : decode cL_law 616 = .ok (.iconst 0, 1) := by decide +kernel
theorem dL_law_617 : decode cL_law 617 = .ok (.ireturn, 1) := by decide +kernel
theorem dL_law_618 : decode cL_law 618 = .ok (.iinc 20 1, 3) := by decide +kernel
theorem dL_law_621 : decode cL_law 621 = .ok (.goto (-94), 3) := by decide +kernel
theorem dL_law_624 : decode cL_law 624 = .ok (.aload_n 1, 1) := by decide +kernel
theorem dL_law_625 : decode cL_law 625 = .ok (.invokevirtual 77, 3) := by decide +kernel
theorem dL_law_628 : decode cL_law 628 = .ok (.lload 18, 2) := by decide +kernel
theorem dL_law_630 : decode cL_law 630 = .ok (.lcmp, 1) := by decide +kernel
theorem dL_law_631 : decode cL_law 631 = .ok (.ifCond .eq 5, 3) := by decide +kernel
theorem dL_law_634 : decode cL_law 634 = .ok (.iconst 0, 1) := by decide +kernel
theorem dL_law_635 : decode cL_law 635 = .ok (.ireturn, 1) := by decide +kernel
theorem dL_law_636 : decode cL_law 636 = .ok (.iinc 5 1, 3) := by decide +kernel
theorem dL_law_639 : decode cL_law 639 = .ok (.goto (-563), 3) := by decide +kernel
theorem dL_law_642 : decode cL_law 642 = .ok (.iconst 0, 1) := by decide +kernel
theorem dL_law_643 : decode cL_law 643 = .ok (.istore 5, 2) := by decide +kernel
theorem dL_law_645 : decode cL_law 645 = .ok (.iconst 0, 1) := by decide +kernel
theorem dL_law_646 : decode cL_law 646 = .ok (.istore 6, 2) := by decide +kernel
theorem dL_law_648 : decode cL_law 648 = .ok (.iconst 0, 1) := by decide +kernel
theorem dL_law_649 : decode cL_law 649 = .ok (.istore 7, 2) := by decide +kernel
theorem dL_law_651 : decode cL_law 651 = .ok (.iload 7, 2) := by decide +kernel
theorem dL_law_653 : decode cL_law 653 = .ok (.aload_n 2, 1) := by decide +kernel
theorem dL_law_654 : decode cL_law 654 = .ok (.arraylength, 1) := by decide +kernel
theorem dL_law_655 : decode cL_law 655 = .ok (.if_icmp .ge 41, 3) := by decide +kernel
theorem dL_law_658 : decode cL_law 658 = .ok (.iload 5, 2) := by decide +kernel
theorem dL_law_660 : decode cL_law 660 = .ok (.aload_n 1, 1) := by decide +kernel
theorem dL_law_661 : decode cL_law 661 = .ok (.iload 7, 2) := by decide +kernel
theorem dL_law_663 : decode cL_law 663 = .ok (.iconst 2, 1) := by decide +kernel
theorem dL_law_664 : decode cL_law 664 = .ok (.invokevirtual 84, 3) := by decide +kernel
theorem dL_law_667 : decode cL_law 667 = .ok (.iadd, 1) := by decide +kernel
theorem dL_law_668 : decode cL_law 668 = .ok (.istore 5, 2) := by decide +kernel
theorem dL_law_670 : decode cL_law 670 = .ok (.iload 6, 2) := by decide +kernel
theorem dL_law_672 : decode cL_law 672 = .ok (.aload_n 1, 1) := by decide +kernel
theorem dL_law_673 : decode cL_law 673 = .ok (.iload 7, 2) := by decide +kernel
theorem dL_law_675 : decode cL_law 675 = .ok (.iconst 2, 1) := by decide +kernel
theorem dL_law_676 : decode cL_law 676 = .ok (.invokevirtual 84, 3) := by decide +kernel
theorem dL_law_679 : decode cL_law 679 = .ok (.ifCond .le 7, 3) := by decide +kernel
theorem dL_law_682 : decode cL_law 682 = .ok (.iconst 1, 1) := by decide +kernel
theorem dL_law_683 : decode cL_law 683 = .ok (.goto 4, 3) := by decide +kernel
theorem dL_law_686 : decode cL_law 686 = .ok (.iconst 0, 1) := by decide +kernel
theorem dL_law_687 : decode cL_law 687 = .ok (.iadd, 1) := by decide +kernel
theorem dL_law_688 : decode cL_law 688 = .ok (.istore 6, 2) := by decide +kernel
theorem dL_law_690 : decode cL_law 690 = .ok (.iinc 7 1, 3) := by decide +kernel
theorem dL_law_693 : decode cL_law 693 = .ok (.goto (-42), 3) := by decide +kernel
theorem dL_law_696 : decode cL_law 696 = .ok (.iload 5, 2) := by decide +kernel
theorem dL_law_698 : decode cL_law 698 = .ok (.iload 4, 2) := by decide +kernel
theorem dL_law_700 : decode cL_law 700 = .ok (.if_icmp .lt 46, 3) := by decide +kernel
theorem dL_law_703 : decode cL_law 703 = .ok (.aload_n 1, 1) := by decide +kernel
theorem dL_law_704 : decode cL_law 704 = .ok (.invokevirtual 87, 3) := by decide +kernel
theorem dL_law_707 : decode cL_law 707 = .ok (.iload 6, 2) := by decide +kernel
theorem dL_law_709 : decode cL_law 709 = .ok (.ifCond .ne 7, 3) := by decide +kernel
theorem dL_law_712 : decode cL_law 712 = .ok (.dconst 0, 1) := by decide +kernel
theorem dL_law_713 : decode cL_law 713 = .ok (.goto 10, 3) := by decide +kernel
theorem dL_law_716 : decode cL_law 716 = .ok (.iload 5, 2) := by decide +kernel
theorem dL_law_718 : decode cL_law 718 = .ok (.i2d, 1) := by decide +kernel
theorem dL_law_719 : decode cL_law 719 = .ok (.iload 6, 2) := by decide +kernel
theorem dL_law_721 : decode cL_law 721 = .ok (.i2d, 1) := by decide +kernel
theorem dL_law_722 : decode cL_law 722 = .ok (.ddiv, 1) := by decide +kernel
theorem dL_law_723 : decode cL_law 723 = .ok (.dcmp .l, 1) := by decide +kernel
theorem dL_law_724 : decode cL_law 724 = .ok (.ifCond .ne 22, 3) := by decide +kernel
theorem dL_law_727 : decode cL_law 727 = .ok (.aload_n 1, 1) := by decide +kernel
theorem dL_law_728 : decode cL_law 728 = .ok (.iconst 1, 1) := by decide +kernel
theorem dL_law_729 : decode cL_law 729 = .ok (.invokevirtual 91, 3) := by decide +kernel
theorem dL_law_732 : decode cL_law 732 = .ok (.iload 4, 2) := by decide +kernel
theorem dL_law_734 : decode cL_law 734 = .ok (.if_icmp .ne 12, 3) := by decide +kernel
theorem dL_law_737 : decode cL_law 737 = .ok (.aload_n 1, 1) := by decide +kernel
theorem dL_law_738 : decode cL_law 738 = .ok (.iconst 1, 1) := by decide +kernel
theorem dL_law_739 : decode cL_law 739 = .ok (.invokevirtual 94, 3) := by decide +kernel
theorem dL_law_742 : decode cL_law 742 = .ok (.iconst (-1), 1) := by decide +kernel
theorem dL_law_743 : decode cL_law 743 = .ok (.if_icmp .eq 5, 3) := by decide +kernel
theorem dL_law_746 : decode cL_law 746 = .ok (.iconst 0, 1) := by decide +kernel
theorem dL_law_747 : decode cL_law 747 = .ok (.ireturn, 1) := by decide +kernel
theorem dL_law_748 : decode cL_law 748 = .ok (.aload_n 1, 1) := by decide +kernel
theorem dL_law_749 : decode cL_law 749 = .ok (.iconst 1, 1) := by decide +kernel
theorem dL_law_750 : decode cL_law 750 = .ok (.invokevirtual 30, 3) := by decide +kernel
theorem dL_law_753 : decode cL_law 753 = .ok (.iconst 2, 1) := by decide +kernel
theorem dL_law_754 : decode cL_law 754 = .ok (.if_icmp .ge 7, 3) := by decide +kernel
theorem dL_law_757 : decode cL_law 757 = .ok (.iconst 1, 1) := by decide +kernel
theorem dL_law_758 : decode cL_law 758 = .ok (.goto 4, 3) := by decide +kernel
theorem dL_law_761 : decode cL_law 761 = .ok (.iconst 0, 1) := by decide +kernel
theorem dL_law_762 : decode cL_law 762 = .ok (.istore 7, 2) := by decide +kernel
theorem dL_law_764 : decode cL_law 764 = .ok (.aload_n 1, 1) := by decide +kernel
theorem dL_law_765 : decode cL_law 765 = .ok (.invokestatic 70, 3) := by decide +kernel
theorem dL_law_768 : decode cL_law 768 = .ok (.lstore 8, 2) := by decide +kernel
theorem dL_law_770 : decode cL_law 770 = .ok (.aload_n 1, 1) := by decide +kernel
theorem dL_law_771 : decode cL_law 771 = .ok (.iconst 1, 1) := by decide +kernel
theorem dL_law_772 : decode cL_law 772 = .ok (.invokevirtual 97, 3) := by decide +kernel
theorem dL_law_775 : decode cL_law 775 = .ok (.iload 4, 2) := by decide +kernel
theorem dL_law_777 : decode cL_law 777 = .ok (.if_icmp .ne 29, 3) := by decide +kernel
theorem dL_law_780 : decode cL_law 780 = .ok (.iload 7, 2) := by decide +kernel
theorem dL_law_782 : decode cL_law 782 = .ok (.ifCond .eq 13, 3) := by decide +kernel
theorem dL_law_785 : decode cL_law 785 = .ok (.aload_n 1, 1) := by decide +kernel
theorem dL_law_786 : decode cL_law 786 = .ok (.invokestatic 70, 3) := by decide +kernel
theorem dL_law_789 : decode cL_law 789 = .ok (.lload 8, 2) := by decide +kernel
theorem dL_law_791 : decode cL_law 791 = .ok (.lcmp, 1) := by decide +kernel
theorem dL_law_792 : decode cL_law 792 = .ok (.ifCond .ne 14, 3) := by decide +kernel
theorem dL_law_795 : decode cL_law 795 = .ok (.aload_n 1, 1) := by decide +kernel
theorem dL_law_796 : decode cL_law 796 = .ok (.bipush 8, 2) := by decide +kernel
theorem dL_law_798 : decode cL_law 798 = .ok (.invokevirtual 30, 3) := by decide +kernel
theorem dL_law_801 : decode cL_law 801 = .ok (.bipush 8, 2) := by decide +kernel
theorem dL_law_803 : decode cL_law 803 = .ok (.if_icmp .eq 5, 3) := by decide +kernel
theorem dL_law_806 : decode cL_law 806 = .ok (.iconst 0, 1) := by decide +kernel
theorem dL_law_807 : decode cL_law 807 = .ok (.ireturn, 1) := by decide +kernel
theorem dL_law_808 : decode cL_law 808 = .ok (.iload 4, 2) := by decide +kernel
theorem dL_law_810 : decode cL_law 810 = .ok (.ifCond .ne 5, 3) := by decide +kernel
theorem dL_law_813 : decode cL_law 813 = .ok (.iconst 1, 1) := by decide +kernel
theorem dL_law_814 : decode cL_law 814 = .ok (.ireturn, 1) := by decide +kernel
theorem dL_law_815 : decode cL_law 815 = .ok (.aload_n 1, 1) := by decide +kernel
theorem dL_law_816 : decode cL_law 816 = .ok (.iconst 1, 1) := by decide +kernel
theorem dL_law_817 : decode cL_law 817 = .ok (.iconst 0, 1) := by decide +kernel
theorem dL_law_818 : decode cL_law 818 = .ok (.invokevirtual 81, 3) := by decide +kernel
theorem dL_law_821 : decode cL_law 821 = .ok (.istore 10, 2) := by decide +kernel
theorem dL_law_823 : decode cL_law 823 = .ok (.aload_n 1, 1) := by decide +kernel
theorem dL_law_824 : decode cL_law 824 = .ok (.iload 10, 2) := by decide +kernel
theorem dL_law_826 : decode cL_law 826 = .ok (.iconst 0, 1) := by decide +kernel
theorem dL_law_827 : decode cL_law 827 = .ok (.invokevirtual 100, 3) := by decide +kernel
theorem dL_law_830 : decode cL_law 830 = .ok (.ifCond .ne 12, 3) := by decide +kernel
theorem dL_law_833 : decode cL_law 833 = .ok (.aload_n 1, 1) := by decide +kernel
theorem dL_law_834 : decode cL_law 834 = .ok (.invokevirtual 103, 3) := by decide +kernel
theorem dL_law_837 : decode cL_law 837 = .ok (.aload_n 2, 1) := by decide +kernel
theorem dL_law_838 : decode cL_law 838 = .ok (.arraylength, 1) := by decide +kernel
theorem dL_law_839 : decode cL_law 839 = .ok (.if_icmp .eq 5, 3) := by decide +kernel
theorem dL_law_842 : decode cL_law 842 = .ok (.iconst 0, 1) := by decide +kernel
theorem dL_law_843 : decode cL_law 843 = .ok (.ireturn, 1) := by decide +kernel
theorem dL_law_844 : decode cL_law 844 = .ok (.aload_n 1, 1) := by decide +kernel
theorem dL_law_845 : decode cL_law 845 = .ok (.sipush 200, 3) := by decide +kernel
theorem dL_law_848 : decode cL_law 848 = .ok (.invokevirtual 62, 3) := by decide +kernel
theorem dL_law_851 : decode cL_law 851 = .ok (.istore 11, 2) := by decide +kernel
theorem dL_law_853 : decode cL_law 853 = .ok (.iload 11, 2) := by decide +kernel
theorem dL_law_855 : decode cL_law 855 = .ok (.sipush 200, 3) := by decide +kernel
theorem dL_law_858 : decode cL_law 858 = .ok (.if_icmp .gt 54, 3) := by decide +kernel
theorem dL_law_861 : decode cL_law 861 = .ok (.aload_n 1, 1) := by decide +kernel
theorem dL_law_862 : decode cL_law 862 = .ok (.bipush 8, 2) := by decide +kernel
theorem dL_law_864 : decode cL_law 864 = .ok (.invokevirtual 30, 3) := by decide +kernel
theorem dL_law_867 : decode cL_law 867 = .ok (.iconst 5, 1) := by decide +kernel
theorem dL_law_868 : decode cL_law 868 = .ok (.if_icmp .ne 35, 3) := by decide +kernel
theorem dL_law_871 : decode cL_law 871 = .ok (.aload_n 1, 1) := by decide +kernel
theorem dL_law_872 : decode cL_law 872 = .ok (.iconst 0, 1) := by decide +kernel
theorem dL_law_873 : decode cL_law 873 = .ok (.invokevirtual 30, 3) := by decide +kernel
theorem dL_law_876 : decode cL_law 876 = .ok (.iload 10, 2) := by decide +kernel
theorem dL_law_878 : decode cL_law 878 = .ok (.if_icmp .ne 34, 3) := by decide +kernel
theorem dL_law_881 : decode cL_law 881 = .ok (.aload_n 1, 1) := by decide +kernel
theorem dL_law_882 : decode cL_law 882 = .ok (.bipush 9, 2) := by decide +kernel
theorem dL_law_884 : decode cL_law 884 = .ok (.invokevirtual 30, 3) := by decide +kernel
theorem dL_law_887 : decode cL_law 887 = .ok (.ifCond .ne 25, 3) := by decide +kernel
theorem dL_law_890 : decode cL_law 890 = .ok (.aload_n 1, 1) := by decide +kernel
theorem dL_law_891 : decode cL_law 891 = .ok (.iconst 0, 1) := by decide +kernel
theorem dL_law_892 : decode cL_law 892 = .ok (.iconst 3, 1) := by decide +kernel
theorem dL_law_893 : decode cL_law 893 = .ok (.invokevirtual 107, 3) := by decide +kernel
theorem dL_law_896 : decode cL_law 896 = .ok (.iconst 1, 1) := by decide +kernel
theorem dL_law_897 : decode cL_law 897 = .ok (.if_icmp .ne 15, 3) := by decide +kernel
theorem dL_law_900 : decode cL_law 900 = .ok (.goto 8, 3) := by decide +kernel
theorem dL_law_903 : decode cL_law 903 = .ok (.iload 10, 2) := by decide +kernel
theorem dL_law_905 : decode cL_law 905 = .ok (.ifCond .ne 7, 3) := by decide +kernel
theorem dL_law_908 : decode cL_law 908 = .ok (.iconst 1, 1) := by decide +kernel
theorem dL_law_909 : decode cL_law 909 = .ok (.goto 4, 3) := by decide +kernel
theorem dL_law_912 : decode cL_law 912 = .ok (.iconst 0, 1) := by decide +kernel
theorem dL_law_913 : decode cL_law 913 = .ok (.ireturn, 1) := by decide +kernel
end
section
theorem dL_below_0 : decode cL_below 0 = .ok (.iload_n 0, 1) := by decide +kernel
theorem dL_below_1 : decode cL_below 1 = .ok (.ldc 7, 2) := by decide +kernel
theorem dL_below_3 : decode cL_below 3 = .ok (.iand, 1) := by decide +kernel
theorem dL_below_4 : decode cL_below 4 = .ok (.iload_n 1, 1) := by decide +kernel
theorem dL_below_5 : decode cL_below 5 = .ok (.irem, 1) := by decide +kernel
theorem dL_below_6 : decode cL_below 6 = .ok (.ireturn, 1) := by decide +kernel
theorem dL_cell_0 : decode cL_cell 0 = .ok (.iload_n 1, 1) := by decide +kernel
theorem dL_cell_1 : decode cL_cell 1 = .ok (.aload_n 0, 1) := by decide +kernel
theorem dL_cell_2 : decode cL_cell 2 = .ok (.arraylength, 1) := by decide +kernel
theorem dL_cell_3 : decode cL_cell 3 = .ok (.if_icmp .ge 9, 3) := by decide +kernel
theorem dL_cell_6 : decode cL_cell 6 = .ok (.aload_n 0, 1) := by decide +kernel
theorem dL_cell_7 : decode cL_cell 7 = .ok (.iload_n 1, 1) := by decide +kernel
theorem dL_cell_8 : decode cL_cell 8 = .ok (.iaload, 1) := by decide +kernel
theorem dL_cell_9 : decode cL_cell 9 = .ok (.goto 9, 3) := by decide +kernel
theorem dL_cell_12 : decode cL_cell 12 = .ok (.ldc 8, 2) := by decide +kernel
theorem dL_cell_14 : decode cL_cell 14 = .ok (.iload_n 1, 1) := by decide +kernel
theorem dL_cell_15 : decode cL_cell 15 = .ok (.iconst 3, 1) := by decide +kernel
theorem dL_cell_16 : decode cL_cell 16 = .ok (.iadd, 1) := by decide +kernel
theorem dL_cell_17 : decode cL_cell 17 = .ok (.imul, 1) := by decide +kernel
theorem dL_cell_18 : decode cL_cell 18 = .ok (.ireturn, 1) := by decide +kernel
theorem dL_program_0 : decode cL_program 0 = .ok (.iload_n 2, 1) := by decide +kernel
theorem dL_program_1 : decode cL_program 1 = .ok (.anewarray 9, 3) := by decide +kernel
theorem dL_program_4 : decode cL_program 4 = .ok (.astore_n 3, 1) := by decide +kernel
theorem dL_program_5 : decode cL_program 5 = .ok (.bipush 29, 2) := by decide +kernel
theorem dL_program_7 : decode cL_program 7 = .ok (.newarray .int, 2) := by decide +kernel
theorem dL_program_9 : decode cL_program 9 = .ok (.dup, 1) := by decide +kernel
theorem dL_program_10 : decode cL_program 10 = .ok (.iconst 0, 1) := by decide +kernel
theorem dL_program_11 : decode cL_program 11 = .ok (.iconst 0, 1) := by decide +kernel
theorem dL_program_12 : decode cL_program 12 = .ok (.iastore, 1) := by decide +kernel
theorem dL_program_13 : decode cL_program 13 = .ok (.dup, 1) := by decide +kernel
theorem dL_program_14 : decode cL_program 14 = .ok (.iconst 1, 1) := by decide +kernel
theorem dL_program_15 : decode cL_program 15 = .ok (.iconst 0, 1) := by decide +kernel
theorem dL_program_16 : decode cL_program 16 = .ok (.iastore, 1) := by decide +kernel
theorem dL_program_17 : decode cL_program 17 = .ok (.dup, 1) := by decide +kernel
theorem dL_program_18 : decode cL_program 18 = .ok (.iconst 2, 1) := by decide +kernel
theorem dL_program_19 : decode cL_program 19 = .ok (.iconst 1, 1) := by decide +kernel
theorem dL_program_20 : decode cL_program 20 = .ok (.iastore, 1) := by decide +kernel
theorem dL_program_21 : decode cL_program 21 = .ok (.dup, 1) := by decide +kernel
theorem dL_program_22 : decode cL_program 22 = .ok (.iconst 3, 1) := by decide +kernel
theorem dL_program_23 : decode cL_program 23 = .ok (.iconst 2, 1) := by decide +kernel
theorem dL_program_24 : decode cL_program 24 = .ok (.iastore, 1) := by decide +kernel
theorem dL_program_25 : decode cL_program 25 = .ok (.dup, 1) := by decide +kernel
theorem dL_program_26 : decode cL_program 26 = .ok (.iconst 4, 1) := by decide +kernel
theorem dL_program_27 : decode cL_program 27 = .ok (.iconst 3, 1) := by decide +kernel
theorem dL_program_28 : decode cL_program 28 = .ok (.iastore, 1) := by decide +kernel
theorem dL_program_29 : decode cL_program 29 = .ok (.dup, 1) := by decide +kernel
theorem dL_program_30 : decode cL_program 30 = .ok (.iconst 5, 1) := by decide +kernel
theorem dL_program_31 : decode cL_program 31 = .ok (.iconst 4, 1) := by decide +kernel
theorem dL_program_32 : decode cL_program 32 = .ok (.iastore, 1) := by decide +kernel
theorem dL_program_33 : decode cL_program 33 = .ok (.dup, 1) := by decide +kernel
theorem dL_program_34 : decode cL_program 34 = .ok (.bipush 6, 2) := by decide +kernel
theorem dL_program_36 : decode cL_program 36 = .ok (.iconst 5, 1) := by decide +kernel
theorem dL_program_37 : decode cL_program 37 = .ok (.iastore, 1) := by decide +kernel
theorem dL_program_38 : decode cL_program 38 = .ok (.dup, 1) := by decide +kernel
theorem dL_program_39 : decode cL_program 39 = .ok (.bipush 7, 2) := by decide +kernel
theorem dL_program_41 : decode cL_program 41 = .ok (.bipush 6, 2) := by decide +kernel
theorem dL_program_43 : decode cL_program 43 = .ok (.iastore, 1) := by decide +kernel
theorem dL_program_44 : decode cL_program 44 = .ok (.dup, 1) := by decide +kernel
theorem dL_program_45 : decode cL_program 45 = .ok (.bipush 8, 2) := by decide +kernel
theorem dL_program_47 : decode cL_program 47 = .ok (.bipush 7, 2) := by decide +kernel
theorem dL_program_49 : decode cL_program 49 = .ok (.iastore, 1) := by decide +kernel
theorem dL_program_50 : decode cL_program 50 = .ok (.dup, 1) := by decide +kernel
theorem dL_program_51 : decode cL_program 51 = .ok (.bipush 9, 2) := by decide +kernel
theorem dL_program_53 : decode cL_program 53 = .ok (.bipush 8, 2) := by decide +kernel
theorem dL_program_55 : decode cL_program 55 = .ok (.iastore, 1) := by decide +kernel
theorem dL_program_56 : decode cL_program 56 = .ok (.dup, 1) := by decide +kernel
theorem dL_program_57 : decode cL_program 57 = .ok (.bipush 10, 2) := by decide +kernel
theorem dL_program_59 : decode cL_program 59 = .ok (.bipush 9, 2) := by decide +kernel
theorem dL_program_61 : decode cL_program 61 = .ok (.iastore, 1) := by decide +kernel
theorem dL_program_62 : decode cL_program 62 = .ok (.dup, 1) := by decide +kernel
theorem dL_program_63 : decode cL_program 63 = .ok (.bipush 11, 2) := by decide +kernel
theorem dL_program_65 : decode cL_program 65 = .ok (.bipush 10, 2) := by decide +kernel
theorem dL_program_67 : decode cL_program 67 = .ok (.iastore, 1) := by decide +kernel
theorem dL_program_68 : decode cL_program 68 = .ok (.dup, 1) := by decide +kernel
theorem dL_program_69 : decode cL_program 69 = .ok (.bipush 12, 2) := by decide +kernel
theorem dL_program_71 : decode cL_program 71 = .ok (.bipush 11, 2) := by decide +kernel
theorem dL_program_73 : decode cL_program 73 = .ok (.iastore, 1) := by decide +kernel
theorem dL_program_74 : decode cL_program 74 = .ok (.dup, 1) := by decide +kernel
theorem dL_program_75 : decode cL_program 75 = .ok (.bipush 13, 2) := by decide +kernel
theorem dL_program_77 : decode cL_program 77 = .ok (.bipush 12, 2) := by decide +kernel
theorem dL_program_79 : decode cL_program 79 = .ok (.iastore, 1) := by decide +kernel
theorem dL_program_80 : decode cL_program 80 = .ok (.dup, 1) := by decide +kernel
theorem dL_program_81 : decode cL_program 81 = .ok (.bipush 14, 2) := by decide +kernel
theorem dL_program_83 : decode cL_program 83 = .ok (.bipush 13, 2) := by decide +kernel
theorem dL_program_85 : decode cL_program 85 = .ok (.iastore, 1) := by decide +kernel
theorem dL_program_86 : decode cL_program 86 = .ok (.dup, 1) := by decide +kernel
theorem dL_program_87 : decode cL_program 87 = .ok (.bipush 15, 2) := by decide +kernel
theorem dL_program_89 : decode cL_program 89 = .ok (.bipush 13, 2) := by decide +kernel
theorem dL_program_91 : decode cL_program 91 = .ok (.iastore, 1) := by decide +kernel
theorem dL_program_92 : decode cL_program 92 = .ok (.dup, 1) := by decide +kernel
theorem dL_program_93 : decode cL_program 93 = .ok (.bipush 16, 2) := by decide +kernel
theorem dL_program_95 : decode cL_program 95 = .ok (.bipush 14, 2) := by decide +kernel
theorem dL_program_97 : decode cL_program 97 = .ok (.iastore, 1) := by decide +kernel
theorem dL_program_98 : decode cL_program 98 = .ok (.dup, 1) := by decide +kernel
theorem dL_program_99 : decode cL_program 99 = .ok (.bipush 17, 2) := by decide +kernel
theorem dL_program_101 : decode cL_program 101 = .ok (.bipush 15, 2) := by decide +kernel
theorem dL_program_103 : decode cL_program 103 = .ok (.iastore, 1) := by decide +kernel
theorem dL_program_104 : decode cL_program 104 = .ok (.dup, 1) := by decide +kernel
theorem dL_program_105 : decode cL_program 105 = .ok (.bipush 18, 2) := by decide +kernel
theorem dL_program_107 : decode cL_program 107 = .ok (.bipush 16, 2) := by decide +kernel
theorem dL_program_109 : decode cL_program 109 = .ok (.iastore, 1) := by decide +kernel
theorem dL_program_110 : decode cL_program 110 = .ok (.dup, 1) := by decide +kernel
theorem dL_program_111 : decode cL_program 111 = .ok (.bipush 19, 2) := by decide +kernel
theorem dL_program_113 : decode cL_program 113 = .ok (.bipush 17, 2) := by decide +kernel
theorem dL_program_115 : decode cL_program 115 = .ok (.iastore, 1) := by decide +kernel
theorem dL_program_116 : decode cL_program 116 = .ok (.dup, 1) := by decide +kernel
theorem dL_program_117 : decode cL_program 117 = .ok (.bipush 20, 2) := by decide +kernel
theorem dL_program_119 : decode cL_program 119 = .ok (.bipush 17, 2) := by decide +kernel
theorem dL_program_121 : decode cL_program 121 = .ok (.iastore, 1) := by decide +kernel
theorem dL_program_122 : decode cL_program 122 = .ok (.dup, 1) := by decide +kernel
theorem dL_program_123 : decode cL_program 123 = .ok (.bipush 21, 2) := by decide +kernel
theorem dL_program_125 : decode cL_program 125 = .ok (.bipush 18, 2) := by decide +kernel
theorem dL_program_127 : decode cL_program 127 = .ok (.iastore, 1) := by decide +kernel
theorem dL_program_128 : decode cL_program 128 = .ok (.dup, 1) := by decide +kernel
theorem dL_program_129 : decode cL_program 129 = .ok (.bipush 22, 2) := by decide +kernel
theorem dL_program_131 : decode cL_program 131 = .ok (.bipush 18, 2) := by decide +kernel
theorem dL_program_133 : decode cL_program 133 = .ok (.iastore, 1) := by decide +kernel
theorem dL_program_134 : decode cL_program 134 = .ok (.dup, 1) := by decide +kernel
theorem dL_program_135 : decode cL_program 135 = .ok (.bipush 23, 2) := by decide +kernel
theorem dL_program_137 : decode cL_program 137 = .ok (.bipush 19, 2) := by decide +kernel
theorem dL_program_139 : decode cL_program 139 = .ok (.iastore, 1) := by decide +kernel
theorem dL_program_140 : decode cL_program 140 = .ok (.dup, 1) := by decide +kernel
theorem dL_program_141 : decode cL_program 141 = .ok (.bipush 24, 2) := by decide +kernel
theorem dL_program_143 : decode cL_program 143 = .ok (.bipush 20, 2) := by decide +kernel
theorem dL_program_145 : decode cL_program 145 = .ok (.iastore, 1) := by decide +kernel
theorem dL_program_146 : decode cL_program 146 = .ok (.dup, 1) := by decide +kernel
theorem dL_program_147 : decode cL_program 147 = .ok (.bipush 25, 2) := by decide +kernel
theorem dL_program_149 : decode cL_program 149 = .ok (.bipush 21, 2) := by decide +kernel
theorem dL_program_151 : decode cL_program 151 = .ok (.iastore, 1) := by decide +kernel
theorem dL_program_152 : decode cL_program 152 = .ok (.dup, 1) := by decide +kernel
theorem dL_program_153 : decode cL_program 153 = .ok (.bipush 26, 2) := by decide +kernel
theorem dL_program_155 : decode cL_program 155 = .ok (.iconst 0, 1) := by decide +kernel
theorem dL_program_156 : decode cL_program 156 = .ok (.iastore, 1) := by decide +kernel
theorem dL_program_157 : decode cL_program 157 = .ok (.dup, 1) := by decide +kernel
theorem dL_program_158 : decode cL_program 158 = .ok (.bipush 27, 2) := by decide +kernel
theorem dL_program_160 : decode cL_program 160 = .ok (.iconst 0, 1) := by decide +kernel
theorem dL_program_161 : decode cL_program 161 = .ok (.iastore, 1) := by decide +kernel
theorem dL_program_162 : decode cL_program 162 = .ok (.dup, 1) := by decide +kernel
theorem dL_program_163 : decode cL_program 163 = .ok (.bipush 28, 2) := by decide +kernel
theorem dL_program_165 : decode cL_program 165 = .ok (.iconst 0, 1) := by decide +kernel
theorem dL_program_166 : decode cL_program 166 = .ok (.iastore, 1) := by decide +kernel
theorem dL_program_167 : decode cL_program 167 = .ok (.astore 4, 2) := by decide +kernel
theorem dL_program_169 : decode cL_program 169 = .ok (.iconst 0, 1) := by decide +kernel
theorem dL_program_170 : decode cL_program 170 = .ok (.istore 5, 2) := by decide +kernel
theorem dL_program_172 : decode cL_program 172 = .ok (.iload 5, 2) := by decide +kernel
theorem dL_program_174 : decode cL_program 174 = .ok (.iload_n 2, 1) := by decide +kernel
theorem dL_program_175 : decode cL_program 175 = .ok (.if_icmp .ge 170, 3) := by decide +kernel
theorem dL_program_178 : decode cL_program 178 = .ok (.aload_n 1, 1) := by decide +kernel
theorem dL_program_179 : decode cL_program 179 = .ok (.iload 5, 2) := by decide +kernel
theorem dL_program_181 : decode cL_program 181 = .ok (.bipush 16, 2) := by decide +kernel
theorem dL_program_183 : decode cL_program 183 = .ok (.irem, 1) := by decide +kernel
theorem dL_program_184 : decode cL_program 184 = .ok (.invokestatic 11, 3) := by decide +kernel
theorem dL_program_187 : decode cL_program 187 = .ok (.iload 5, 2) := by decide +kernel
theorem dL_program_189 : decode cL_program 189 = .ok (.bipush 16, 2) := by decide +kernel
theorem dL_program_191 : decode cL_program 191 = .ok (.idiv, 1) := by decide +kernel
theorem dL_program_192 : decode cL_program 192 = .ok (.iconst 3, 1) := by decide +kernel
theorem dL_program_193 : decode cL_program 193 = .ok (.imul, 1) := by decide +kernel
theorem dL_program_194 : decode cL_program 194 = .ok (.ishr, 1) := by decide +kernel
theorem dL_program_195 : decode cL_program 195 = .ok (.bipush 7, 2) := by decide +kernel
theorem dL_program_197 : decode cL_program 197 = .ok (.iload 5, 2) := by decide +kernel
theorem dL_program_199 : decode cL_program 199 = .ok (.imul, 1) := by decide +kernel
theorem dL_program_200 : decode cL_program 200 = .ok (.iadd, 1) := by decide +kernel
theorem dL_program_201 : decode cL_program 201 = .ok (.istore 6, 2) := by decide +kernel
theorem dL_program_203 : decode cL_program 203 = .ok (.iload 5, 2) := by decide +kernel
theorem dL_program_205 : decode cL_program 205 = .ok (.iconst 3, 1) := by decide +kernel
theorem dL_program_206 : decode cL_program 206 = .ok (.if_icmp .ge 7, 3) := by decide +kernel
theorem dL_program_209 : decode cL_program 209 = .ok (.iconst 0, 1) := by decide +kernel
theorem dL_program_210 : decode cL_program 210 = .ok (.goto 36, 3) := by decide +kernel
theorem dL_program_213 : decode cL_program 213 = .ok (.iload 5, 2) := by decide +kernel
theorem dL_program_215 : decode cL_program 215 = .ok (.iload_n 2, 1) := by decide +kernel
theorem dL_program_216 : decode cL_program 216 = .ok (.iconst 1, 1) := by decide +kernel
theorem dL_program_217 : decode cL_program 217 = .ok (.isub, 1) := by decide +kernel
theorem dL_program_218 : decode cL_program 218 = .ok (.if_icmp .ne 17, 3) := by decide +kernel
theorem dL_program_221 : decode cL_program 221 = .ok (.iload 6, 2) := by decide +kernel
theorem dL_program_223 : decode cL_program 223 = .ok (.iconst 3, 1) := by decide +kernel
theorem dL_program_224 : decode cL_program 224 = .ok (.invokestatic 17, 3) := by decide +kernel
theorem dL_program_227 : decode cL_program 227 = .ok (.ifCond .le 8, 3) := by decide +kernel
theorem dL_program_230 : decode cL_program 230 = .ok (.bipush 22, 2) := by decide +kernel
theorem dL_program_232 : decode cL_program 232 = .ok (.goto 14, 3) := by decide +kernel
theorem dL_program_235 : decode cL_program 235 = .ok (.aload 4, 2) := by decide +kernel
theorem dL_program_237 : decode cL_program 237 = .ok (.iload 6, 2) := by decide +kernel
theorem dL_program_239 : decode cL_program 239 = .ok (.aload 4, 2) := by decide +kernel
theorem dL_program_241 : decode cL_program 241 = .ok (.arraylength, 1) := by decide +kernel
theorem dL_program_242 : decode cL_program 242 = .ok (.invokestatic 17, 3) := by decide +kernel
theorem dL_program_245 : decode cL_program 245 = .ok (.iaload, 1) := by decide +kernel
theorem dL_program_246 : decode cL_program 246 = .ok (.istore 7, 2) := by decide +kernel
theorem dL_program_248 : decode cL_program 248 = .ok (.iload 7, 2) := by decide +kernel
theorem dL_program_250 : decode cL_program 250 = .ok (.ifCond .ne 17, 3) := by decide +kernel
theorem dL_program_253 : decode cL_program 253 = .ok (.iload 6, 2) := by decide +kernel
theorem dL_program_255 : decode cL_program 255 = .ok (.iconst 3, 1) := by decide +kernel
theorem dL_program_256 : decode cL_program 256 = .ok (.ishr, 1) := by decide +kernel
theorem dL_program_257 : decode cL_program 257 = .ok (.bipush 16, 2) := by decide +kernel
theorem dL_program_259 : decode cL_program 259 = .ok (.invokestatic 17, 3) := by decide +kernel
theorem dL_program_262 : decode cL_program 262 = .ok (.iconst 2, 1) := by decide +kernel
theorem dL_program_263 : decode cL_program 263 = .ok (.isub, 1) := by decide +kernel
theorem dL_program_264 : decode cL_program 264 = .ok (.goto 38, 3) := by decide +kernel
theorem dL_program_267 : decode cL_program 267 = .ok (.iload 7, 2) := by decide +kernel
theorem dL_program_269 : decode cL_program 269 = .ok (.bipush 12, 2) := by decide +kernel
theorem dL_program_271 : decode cL_program 271 = .ok (.if_icmp .eq 10, 3) := by decide +kernel
theorem dL_program_274 : decode cL_program 274 = .ok (.iload 7, 2) := by decide +kernel
theorem dL_program_276 : decode cL_program 276 = .ok (.bipush 13, 2) := by decide +kernel
theorem dL_program_278 : decode cL_program 278 = .ok (.if_icmp .ne 14, 3) := by decide +kernel
theorem dL_program_281 : decode cL_program 281 = .ok (.iload 6, 2) := by decide +kernel
theorem dL_program_283 : decode cL_program 283 = .ok (.iconst 2, 1) := by decide +kernel
theorem dL_program_284 : decode cL_program 284 = .ok (.ishr, 1) := by decide +kernel
theorem dL_program_285 : decode cL_program 285 = .ok (.iconst 4, 1) := by decide +kernel
theorem dL_program_286 : decode cL_program 286 = .ok (.invokestatic 17, 3) := by decide +kernel
theorem dL_program_289 : decode cL_program 289 = .ok (.goto 13, 3) := by decide +kernel
theorem dL_program_292 : decode cL_program 292 = .ok (.iload 6, 2) := by decide +kernel
theorem dL_program_294 : decode cL_program 294 = .ok (.iconst 3, 1) := by decide +kernel
theorem dL_program_295 : decode cL_program 295 = .ok (.ishr, 1) := by decide +kernel
theorem dL_program_296 : decode cL_program 296 = .ok (.iload_n 2, 1) := by decide +kernel
theorem dL_program_297 : decode cL_program 297 = .ok (.iconst 1, 1) := by decide +kernel
theorem dL_program_298 : decode cL_program 298 = .ok (.iadd, 1) := by decide +kernel
theorem dL_program_299 : decode cL_program 299 = .ok (.invokestatic 17, 3) := by decide +kernel
theorem dL_program_302 : decode cL_program 302 = .ok (.istore 8, 2) := by decide +kernel
theorem dL_program_304 : decode cL_program 304 = .ok (.aload_n 3, 1) := by decide +kernel
theorem dL_program_305 : decode cL_program 305 = .ok (.iload 5, 2) := by decide +kernel
theorem dL_program_307 : decode cL_program 307 = .ok (.iconst 2, 1) := by decide +kernel
theorem dL_program_308 : decode cL_program 308 = .ok (.newarray .int, 2) := by decide +kernel
theorem dL_program_310 : decode cL_program 310 = .ok (.dup, 1) := by decide +kernel
theorem dL_program_311 : decode cL_program 311 = .ok (.iconst 0, 1) := by decide +kernel
theorem dL_program_312 : decode cL_program 312 = .ok (.iload 7, 2) := by decide +kernel
theorem dL_program_314 : decode cL_program 314 = .ok (.iastore, 1) := by decide +kernel
theorem dL_program_315 : decode cL_program 315 = .ok (.dup, 1) := by decide +kernel
theorem dL_program_316 : decode cL_program 316 = .ok (.iconst 1, 1) := by decide +kernel
theorem dL_program_317 : decode cL_program 317 = .ok (.iload 8, 2) := by decide +kernel
theorem dL_program_319 : decode cL_program 319 = .ok (.iastore, 1) := by decide +kernel
theorem dL_program_320 : decode cL_program 320 = .ok (.aastore, 1) := by decide +kernel
theorem dL_program_321 : decode cL_program 321 = .ok (.aload_n 0, 1) := by decide +kernel
theorem dL_program_322 : decode cL_program 322 = .ok (.iload 7, 2) := by decide +kernel
theorem dL_program_324 : decode cL_program 324 = .ok (.iload 8, 2) := by decide +kernel
theorem dL_program_326 : decode cL_program 326 = .ok (.invokevirtual 21, 3) := by decide +kernel
theorem dL_program_329 : decode cL_program 329 = .ok (.iload 5, 2) := by decide +kernel
theorem dL_program_331 : decode cL_program 331 = .ok (.if_icmp .eq 8, 3) := by decide +kernel
theorem dL_program_334 : decode cL_program 334 = .ok (.iconst 0, 1) := by decide +kernel
theorem dL_program_335 : decode cL_program 335 = .ok (.anewarray 9, 3) := by decide +kernel
theorem dL_program_338 : decode cL_program 338 = .ok (.areturn, 1) := by decide +kernel
theorem dL_program_339 : decode cL_program 339 = .ok (.iinc 5 1, 3) := by decide +kernel
theorem dL_program_342 : decode cL_program 342 = .ok (.goto (-170), 3) := by decide +kernel
theorem dL_program_345 : decode cL_program 345 = .ok (.aload_n 3, 1) := by decide +kernel
theorem dL_program_346 : decode cL_program 346 = .ok (.areturn, 1) := by decide +kernel
theorem dL_state_0 : decode cL_state 0 = .ok (.ldc2_w 26, 3) := by decide +kernel
theorem dL_state_3 : decode cL_state 3 = .ok (.lstore_n 1, 1) := by decide +kernel
theorem dL_state_4 : decode cL_state 4 = .ok (.iconst 0, 1) := by decide +kernel
theorem dL_state_5 : decode cL_state 5 = .ok (.istore_n 3, 1) := by decide +kernel
theorem dL_state_6 : decode cL_state 6 = .ok (.iload_n 3, 1) := by decide +kernel
theorem dL_state_7 : decode cL_state 7 = .ok (.bipush 8, 2) := by decide +kernel
theorem dL_state_9 : decode cL_state 9 = .ok (.if_icmp .ge 22, 3) := by decide +kernel
theorem dL_state_12 : decode cL_state 12 = .ok (.lload_n 1, 1) := by decide +kernel
theorem dL_state_13 : decode cL_state 13 = .ok (.ldc2_w 28, 3) := by decide +kernel
theorem dL_state_16 : decode cL_state 16 = .ok (.lmul, 1) := by decide +kernel
theorem dL_state_17 : decode cL_state 17 = .ok (.aload_n 0, 1) := by decide +kernel
theorem dL_state_18 : decode cL_state 18 = .ok (.iload_n 3, 1) := by decide +kernel
theorem dL_state_19 : decode cL_state 19 = .ok (.invokevirtual 30, 3) := by decide +kernel
theorem dL_state_22 : decode cL_state 22 = .ok (.i2l, 1) := by decide +kernel
theorem dL_state_23 : decode cL_state 23 = .ok (.ladd, 1) := by decide +kernel
theorem dL_state_24 : decode cL_state 24 = .ok (.lstore_n 1, 1) := by decide +kernel
theorem dL_state_25 : decode cL_state 25 = .ok (.iinc 3 1, 3) := by decide +kernel
theorem dL_state_28 : decode cL_state 28 = .ok (.goto (-22), 3) := by decide +kernel
theorem dL_state_31 : decode cL_state 31 = .ok (.iconst 0, 1) := by decide +kernel
theorem dL_state_32 : decode cL_state 32 = .ok (.istore_n 3, 1) := by decide +kernel
theorem dL_state_33 : decode cL_state 33 = .ok (.iload_n 3, 1) := by decide +kernel
theorem dL_state_34 : decode cL_state 34 = .ok (.aload_n 0, 1) := by decide +kernel
theorem dL_state_35 : decode cL_state 35 = .ok (.iconst 3, 1) := by decide +kernel
theorem dL_state_36 : decode cL_state 36 = .ok (.invokevirtual 30, 3) := by decide +kernel
theorem dL_state_39 : decode cL_state 39 = .ok (.if_icmp .ge 22, 3) := by decide +kernel
theorem dL_state_42 : decode cL_state 42 = .ok (.lload_n 1, 1) := by decide +kernel
theorem dL_state_43 : decode cL_state 43 = .ok (.ldc2_w 28, 3) := by decide +kernel
theorem dL_state_46 : decode cL_state 46 = .ok (.lmul, 1) := by decide +kernel
theorem dL_state_47 : decode cL_state 47 = .ok (.aload_n 0, 1) := by decide +kernel
theorem dL_state_48 : decode cL_state 48 = .ok (.iload_n 3, 1) := by decide +kernel
theorem dL_state_49 : decode cL_state 49 = .ok (.invokevirtual 34, 3) := by decide +kernel
theorem dL_state_52 : decode cL_state 52 = .ok (.i2l, 1) := by decide +kernel
theorem dL_state_53 : decode cL_state 53 = .ok (.ladd, 1) := by decide +kernel
theorem dL_state_54 : decode cL_state 54 = .ok (.lstore_n 1, 1) := by decide +kernel
theorem dL_state_55 : decode cL_state 55 = .ok (.iinc 3 1, 3) := by decide +kernel
theorem dL_state_58 : decode cL_state 58 = .ok (.goto (-25), 3) := by decide +kernel
theorem dL_state_61 : decode cL_state 61 = .ok (.iconst 0, 1) := by decide +kernel
theorem dL_state_62 : decode cL_state 62 = .ok (.istore_n 3, 1) := by decide +kernel
theorem dL_state_63 : decode cL_state 63 = .ok (.iload_n 3, 1) := by decide +kernel
theorem dL_state_64 : decode cL_state 64 = .ok (.bipush 12, 2) := by decide +kernel
theorem dL_state_66 : decode cL_state 66 = .ok (.if_icmp .ge 32, 3) := by decide +kernel
theorem dL_state_69 : decode cL_state 69 = .ok (.lload_n 1, 1) := by decide +kernel
theorem dL_state_70 : decode cL_state 70 = .ok (.ldc2_w 28, 3) := by decide +kernel
theorem dL_state_73 : decode cL_state 73 = .ok (.lmul, 1) := by decide +kernel
theorem dL_state_74 : decode cL_state 74 = .ok (.aload_n 0, 1) := by decide +kernel
theorem dL_state_75 : decode cL_state 75 = .ok (.iload_n 3, 1) := by decide +kernel
theorem dL_state_76 : decode cL_state 76 = .ok (.invokevirtual 37, 3) := by decide +kernel
theorem dL_state_79 : decode cL_state 79 = .ok (.i2l, 1) := by decide +kernel
theorem dL_state_80 : decode cL_state 80 = .ok (.ladd, 1) := by decide +kernel
theorem dL_state_81 : decode cL_state 81 = .ok (.bipush 7, 2) := by decide +kernel
theorem dL_state_83 : decode cL_state 83 = .ok (.aload_n 0, 1) := by decide +kernel
theorem dL_state_84 : decode cL_state 84 = .ok (.iload_n 3, 1) := by decide +kernel
theorem dL_state_85 : decode cL_state 85 = .ok (.invokevirtual 39, 3) := by decide +kernel
theorem dL_state_88 : decode cL_state 88 = .ok (.imul, 1) := by decide +kernel
theorem dL_state_89 : decode cL_state 89 = .ok (.i2l, 1) := by decide +kernel
theorem dL_state_90 : decode cL_state 90 = .ok (.ladd, 1) := by decide +kernel
theorem dL_state_91 : decode cL_state 91 = .ok (.lstore_n 1, 1) := by decide +kernel
theorem dL_state_92 : decode cL_state 92 = .ok (.iinc 3 1, 3) := by decide +kernel
theorem dL_state_95 : decode cL_state 95 = .ok (.goto (-32), 3) := by decide +kernel
theorem dL_state_98 : decode cL_state 98 = .ok (.iconst 0, 1) := by decide +kernel
theorem dL_state_99 : decode cL_state 99 = .ok (.istore_n 3, 1) := by decide +kernel
theorem dL_state_100 : decode cL_state 100 = .ok (.iload_n 3, 1) := by decide +kernel
theorem dL_state_101 : decode cL_state 101 = .ok (.aload_n 0, 1) := by decide +kernel
theorem dL_state_102 : decode cL_state 102 = .ok (.iconst 4, 1) := by decide +kernel
theorem dL_state_103 : decode cL_state 103 = .ok (.invokevirtual 30, 3) := by decide +kernel
theorem dL_state_106 : decode cL_state 106 = .ok (.if_icmp .ge 22, 3) := by decide +kernel
theorem dL_state_109 : decode cL_state 109 = .ok (.lload_n 1, 1) := by decide +kernel
theorem dL_state_110 : decode cL_state 110 = .ok (.ldc2_w 28, 3) := by decide +kernel
theorem dL_state_113 : decode cL_state 113 = .ok (.lmul, 1) := by decide +kernel
theorem dL_state_114 : decode cL_state 114 = .ok (.aload_n 0, 1) := by decide +kernel
theorem dL_state_115 : decode cL_state 115 = .ok (.iload_n 3, 1) := by decide +kernel
theorem dL_state_116 : decode cL_state 116 = .ok (.invokevirtual 42, 3) := by decide +kernel
theorem dL_state_119 : decode cL_state 119 = .ok (.i2l, 1) := by decide +kernel
theorem dL_state_120 : decode cL_state 120 = .ok (.ladd, 1) := by decide +kernel
theorem dL_state_121 : decode cL_state 121 = .ok (.lstore_n 1, 1) := by decide +kernel
theorem dL_state_122 : decode cL_state 122 = .ok (.iinc 3 1, 3) := by decide +kernel
theorem dL_state_125 : decode cL_state 125 = .ok (.goto (-25), 3) := by decide +kernel
theorem dL_state_128 : decode cL_state 128 = .ok (.iconst 0, 1) := by decide +kernel
theorem dL_state_129 : decode cL_state 129 = .ok (.istore_n 3, 1) := by decide +kernel
theorem dL_state_130 : decode cL_state 130 = .ok (.iload_n 3, 1) := by decide +kernel
theorem dL_state_131 : decode cL_state 131 = .ok (.aload_n 0, 1) := by decide +kernel
theorem dL_state_132 : decode cL_state 132 = .ok (.bipush 6, 2) := by decide +kernel
theorem dL_state_134 : decode cL_state 134 = .ok (.invokevirtual 30, 3) := by decide +kernel
theorem dL_state_137 : decode cL_state 137 = .ok (.if_icmp .ge 22, 3) := by decide +kernel
theorem dL_state_140 : decode cL_state 140 = .ok (.lload_n 1, 1) := by decide +kernel
theorem dL_state_141 : decode cL_state 141 = .ok (.ldc2_w 28, 3) := by decide +kernel
theorem dL_state_144 : decode cL_state 144 = .ok (.lmul, 1) := by decide +kernel
theorem dL_state_145 : decode cL_state 145 = .ok (.aload_n 0, 1) := by decide +kernel
theorem dL_state_146 : decode cL_state 146 = .ok (.iload_n 3, 1) := by decide +kernel
theorem dL_state_147 : decode cL_state 147 = .ok (.invokevirtual 45, 3) := by decide +kernel
theorem dL_state_150 : decode cL_state 150 = .ok (.i2l, 1) := by decide +kernel
theorem dL_state_151 : decode cL_state 151 = .ok (.ladd, 1) := by decide +kernel
theorem dL_state_152 : decode cL_state 152 = .ok (.lstore_n 1, 1) := by decide +kernel
theorem dL_state_153 : decode cL_state 153 = .ok (.iinc 3 1, 3) := by decide +kernel
theorem dL_state_156 : decode cL_state 156 = .ok (.goto (-26), 3) := by decide +kernel
theorem dL_state_159 : decode cL_state 159 = .ok (.lload_n 1, 1) := by decide +kernel
theorem dL_state_160 : decode cL_state 160 = .ok (.lreturn, 1) := by decide +kernel
end
section
/-! my words: those of the tables that hold on at every later state -/
def okW : Cond → Bool
  | .fieldLinkNest .. => true
  | .methodLinkNest .. => true
  | .arrayOver (.object _) => true
  | .arrayOver _ => false
  | w => goodWord w
def bw : List Cond := lw_tbl.filter okW
theorem bw_tbl {w : Cond} (h : w ∈ bw) : w ∈ lw_tbl := (List.mem_filter.mp h).1
theorem mw {w : Cond} (i : Nat) (h : lw_tbl[i]? = some w) (ho : okW w = true) : w ∈ bw := List.mem_filter.mpr ⟨List.mem_of_getElem? h, ho⟩
theorem okW_warm {s U : State} {args a' : Array Value} (hW : s.WarmedH U.vm) {w : Cond} (ho : okW w = true) (h : w.before args s = true) : w.before a' U = true := by
  have good : goodWord w = true → w.before a' U = true := fun hg => word_at hW (good_of_word hg) h
  cases w with
  | fieldLinkNest a i b n d hh => exact (va_Nw.warmF hW (va_Nw.of rfl h)).use rfl
  | methodLinkNest a i x hh => exact (va_Nw.warmM hW (va_Nw.of rfl h)).use rfl
  | arrayOver ty =>
    cases ty with
    | object C => exact (va_AO.of (A := a') (va_AO.moved hW.alike h))
    | _ => cases ho
  | _ => exact good ho
theorem bw_warm {s U : State} {args : Array Value} (hW : s.WarmedH U.vm) (h : ∀ w ∈ bw, w.before args s = true) : ∀ w ∈ bw, ∀ a' : Array Value, w.before a' U = true := fun w hw a' => okW_warm hW (List.mem_filter.mp hw).2 (h w hw)
/-! the words by their places: m_<place in tables_1>, s_<number of the private method> -/
theorem m_0 : (Jvm.Cond.initialized "LanternLaw") ∈ bw := mw 26 (by decide +kernel) (by decide +kernel)
theorem m_1 : (Jvm.Cond.initialized "Lantern") ∈ bw := mw 27 (by decide +kernel) (by decide +kernel)
theorem m_2 : (Jvm.Cond.initialized "Lantern$Program") ∈ bw := mw 28 (by decide +kernel) (by decide +kernel)
theorem m_3 : (Jvm.Cond.initialized "Lantern$Row") ∈ bw := mw 29 (by decide +kernel) (by decide +kernel)
theorem m_4 : (Jvm.Cond.initialized "java/lang/Math") ∈ bw := mw 30 (by decide +kernel) (by decide +kernel)
theorem m_5 : (Jvm.Cond.initialized "Lantern$State") ∈ bw := mw 31 (by decide +kernel) (by decide +kernel)
theorem m_6 : (Jvm.Cond.initialized "Lantern$Past") ∈ bw := mw 32 (by decide +kernel) (by decide +kernel)
theorem m_7 : (Jvm.Cond.initialized "Lantern$Moment") ∈ bw := mw 33 (by decide +kernel) (by decide +kernel)
theorem m_8 : (Jvm.Cond.initialized "Lantern$Point") ∈ bw := mw 34 (by decide +kernel) (by decide +kernel)
theorem m_9 : (Jvm.Cond.initialized "Lantern$Watch") ∈ bw := mw 35 (by decide +kernel) (by decide +kernel)
theorem m_10 : (Jvm.Cond.initialized "Lantern$Tape") ∈ bw := mw 36 (by decide +kernel) (by decide +kernel)
theorem m_16 : (Jvm.Cond.initialized "java/lang/System") ∈ bw := mw 42 (by decide +kernel) (by decide +kernel)
theorem m_18 : (Jvm.Cond.classLink "LanternLaw" (22 : Nat) "Lantern") ∈ bw := mw 44 (by decide +kernel) (by decide +kernel)
theorem m_19 : (Jvm.Cond.instantiable "Lantern" (13 : Nat)) ∈ bw := mw 45 (by decide +kernel) (by decide +kernel)
theorem m_20 : (Jvm.Cond.methodLink "LanternLaw" (48 : Nat) ({ cls := "Lantern", name := "<init>", desc := "()V" } : Jvm.MethodName)) ∈ bw := mw 46 (by decide +kernel) (by decide +kernel)
theorem m_21 : (Jvm.Cond.instanceMethod ({ cls := "Lantern", name := "<init>", desc := "()V" } : Jvm.MethodName)) ∈ bw := mw 47 (by decide +kernel) (by decide +kernel)
theorem m_22 : (Jvm.Cond.code ({ cls := "Lantern", name := "<init>", desc := "()V" } : Jvm.MethodName) prog_1_method_1_code (2 : Nat) (Option.none : Option Jvm.ClassFile.FieldType)) ∈ bw := mw 48 (by decide +kernel) (by decide +kernel)
theorem m_23 : (Jvm.Cond.methodLink "Lantern" (1 : Nat) ({ cls := "java/lang/Object", name := "<init>", desc := "()V" } : Jvm.MethodName)) ∈ bw := mw 49 (by decide +kernel) (by decide +kernel)
theorem m_24 : (Jvm.Cond.instanceMethod ({ cls := "java/lang/Object", name := "<init>", desc := "()V" } : Jvm.MethodName)) ∈ bw := mw 50 (by decide +kernel) (by decide +kernel)
theorem m_25 : (Jvm.Cond.code ({ cls := "java/lang/Object", name := "<init>", desc := "()V" } : Jvm.MethodName) object_method_1_code (1 : Nat) (Option.none : Option Jvm.ClassFile.FieldType)) ∈ bw := mw 51 (by decide +kernel) (by decide +kernel)
theorem m_26 : (Jvm.Cond.classLink "Lantern" (7 : Nat) "Lantern$Program") ∈ bw := mw 52 (by decide +kernel) (by decide +kernel)
theorem m_27 : (Jvm.Cond.instantiable "Lantern$Program" (3 : Nat)) ∈ bw := mw 53 (by decide +kernel) (by decide +kernel)
theorem m_28 : (Jvm.Cond.methodLinkNest "Lantern" (9 : Nat) ({ cls := "Lantern$Program", name := "<init>", desc := "()V" } : Jvm.MethodName) "Lantern") ∈ bw := mw 54 (by decide +kernel) (by decide +kernel)
theorem m_29 : (Jvm.Cond.instanceMethod ({ cls := "Lantern$Program", name := "<init>", desc := "()V" } : Jvm.MethodName)) ∈ bw := mw 55 (by decide +kernel) (by decide +kernel)
theorem m_30 : (Jvm.Cond.code ({ cls := "Lantern$Program", name := "<init>", desc := "()V" } : Jvm.MethodName) prog_5_method_1_code (1 : Nat) (Option.none : Option Jvm.ClassFile.FieldType)) ∈ bw := mw 56 (by decide +kernel) (by decide +kernel)
theorem m_31 : (Jvm.Cond.methodLink "Lantern$Program" (3 : Nat) ({ cls := "java/lang/Object", name := "<init>", desc := "()V" } : Jvm.MethodName)) ∈ bw := mw 57 (by decide +kernel) (by decide +kernel)
theorem m_32 : (Jvm.Cond.classLink "Lantern$Program" (9 : Nat) "Lantern$Row") ∈ bw := mw 58 (by decide +kernel) (by decide +kernel)
theorem m_33 : (Jvm.Cond.instantiable "Lantern$Row" (2 : Nat)) ∈ bw := mw 59 (by decide +kernel) (by decide +kernel)
theorem m_34 : (Jvm.Cond.methodLink "Lantern$Program" (11 : Nat) ({ cls := "Lantern$Row", name := "<init>", desc := "(I)V" } : Jvm.MethodName)) ∈ bw := mw 60 (by decide +kernel) (by decide +kernel)
theorem m_35 : (Jvm.Cond.instanceMethod ({ cls := "Lantern$Row", name := "<init>", desc := "(I)V" } : Jvm.MethodName)) ∈ bw := mw 61 (by decide +kernel) (by decide +kernel)
theorem m_36 : (Jvm.Cond.code ({ cls := "Lantern$Row", name := "<init>", desc := "(I)V" } : Jvm.MethodName) prog_6_method_1_code (2 : Nat) (Option.none : Option Jvm.ClassFile.FieldType)) ∈ bw := mw 62 (by decide +kernel) (by decide +kernel)
theorem m_37 : (Jvm.Cond.methodLink "Lantern$Row" (1 : Nat) ({ cls := "java/lang/Object", name := "<init>", desc := "()V" } : Jvm.MethodName)) ∈ bw := mw 63 (by decide +kernel) (by decide +kernel)
theorem m_38 : (Jvm.Cond.methodLink "Lantern$Row" (7 : Nat) ({ cls := "java/lang/Math", name := "max", desc := "(II)I" } : Jvm.MethodName)) ∈ bw := mw 64 (by decide +kernel) (by decide +kernel)
theorem m_39 : (Jvm.Cond.static ({ cls := "java/lang/Math", name := "max", desc := "(II)I" } : Jvm.MethodName)) ∈ bw := mw 65 (by decide +kernel) (by decide +kernel)
theorem m_40 : (Jvm.Cond.code ({ cls := "java/lang/Math", name := "max", desc := "(II)I" } : Jvm.MethodName) prog_19_method_65_code (2 : Nat) (Option.some Jvm.ClassFile.FieldType.int)) ∈ bw := mw 66 (by decide +kernel) (by decide +kernel)
theorem m_41 : (Jvm.Cond.fieldLink "Lantern$Row" (13 : Nat) "Lantern$Row" "items" "[I") ∈ bw := mw 67 (by decide +kernel) (by decide +kernel)
theorem m_42 : (Jvm.Cond.fieldLink "Lantern$Row" (19 : Nat) "Lantern$Row" "count" "I") ∈ bw := mw 68 (by decide +kernel) (by decide +kernel)
theorem m_48 : (Jvm.Cond.arrayClass Jvm.ClassFile.FieldType.int) ∈ bw := mw 74 (by decide +kernel) (by decide +kernel)
theorem m_49 : (Jvm.Cond.fieldLink "Lantern$Program" (14 : Nat) "Lantern$Program" "codes" "LLantern$Row;") ∈ bw := mw 75 (by decide +kernel) (by decide +kernel)
theorem m_50 : (Jvm.Cond.fieldLink "Lantern$Program" (20 : Nat) "Lantern$Program" "numbers" "LLantern$Row;") ∈ bw := mw 76 (by decide +kernel) (by decide +kernel)
theorem m_51 : (Jvm.Cond.fieldLink "Lantern$Program" (23 : Nat) "Lantern$Program" "times" "LLantern$Row;") ∈ bw := mw 77 (by decide +kernel) (by decide +kernel)
theorem m_59 : (Jvm.Cond.classLink "Lantern" (16 : Nat) "Lantern$Row") ∈ bw := mw 85 (by decide +kernel) (by decide +kernel)
theorem m_60 : (Jvm.Cond.methodLink "Lantern" (18 : Nat) ({ cls := "Lantern$Row", name := "<init>", desc := "(I)V" } : Jvm.MethodName)) ∈ bw := mw 86 (by decide +kernel) (by decide +kernel)
theorem m_61 : (Jvm.Cond.classLink "Lantern" (25 : Nat) "Lantern$State") ∈ bw := mw 87 (by decide +kernel) (by decide +kernel)
theorem m_62 : (Jvm.Cond.instantiable "Lantern$State" (8 : Nat)) ∈ bw := mw 88 (by decide +kernel) (by decide +kernel)
theorem m_63 : (Jvm.Cond.methodLink "Lantern" (27 : Nat) ({ cls := "Lantern$State", name := "<init>", desc := "()V" } : Jvm.MethodName)) ∈ bw := mw 89 (by decide +kernel) (by decide +kernel)
theorem m_64 : (Jvm.Cond.instanceMethod ({ cls := "Lantern$State", name := "<init>", desc := "()V" } : Jvm.MethodName)) ∈ bw := mw 90 (by decide +kernel) (by decide +kernel)
theorem m_65 : (Jvm.Cond.code ({ cls := "Lantern$State", name := "<init>", desc := "()V" } : Jvm.MethodName) prog_7_method_1_code (1 : Nat) (Option.none : Option Jvm.ClassFile.FieldType)) ∈ bw := mw 91 (by decide +kernel) (by decide +kernel)
theorem m_66 : (Jvm.Cond.methodLink "Lantern$State" (3 : Nat) ({ cls := "java/lang/Object", name := "<init>", desc := "()V" } : Jvm.MethodName)) ∈ bw := mw 92 (by decide +kernel) (by decide +kernel)
theorem m_67 : (Jvm.Cond.classLink "Lantern$State" (9 : Nat) "Lantern$Row") ∈ bw := mw 93 (by decide +kernel) (by decide +kernel)
theorem m_68 : (Jvm.Cond.methodLink "Lantern$State" (11 : Nat) ({ cls := "Lantern$Row", name := "<init>", desc := "(I)V" } : Jvm.MethodName)) ∈ bw := mw 94 (by decide +kernel) (by decide +kernel)
theorem m_69 : (Jvm.Cond.methodLink "Lantern$State" (29 : Nat) ({ cls := "Lantern$Row", name := "fillWithZeros", desc := "()V" } : Jvm.MethodName)) ∈ bw := mw 95 (by decide +kernel) (by decide +kernel)
theorem m_70 : (Jvm.Cond.instanceMethod ({ cls := "Lantern$Row", name := "fillWithZeros", desc := "()V" } : Jvm.MethodName)) ∈ bw := mw 96 (by decide +kernel) (by decide +kernel)
theorem m_71 : (Jvm.Cond.selects "Lantern$Row" ({ cls := "Lantern$Row", name := "fillWithZeros", desc := "()V" } : Jvm.MethodName) ({ cls := "Lantern$Row", name := "fillWithZeros", desc := "()V" } : Jvm.MethodName)) ∈ bw := mw 97 (by decide +kernel) (by decide +kernel)
theorem m_72 : (Jvm.Cond.code ({ cls := "Lantern$Row", name := "fillWithZeros", desc := "()V" } : Jvm.MethodName) prog_6_method_12_code (2 : Nat) (Option.none : Option Jvm.ClassFile.FieldType)) ∈ bw := mw 98 (by decide +kernel) (by decide +kernel)
theorem m_73 : (Jvm.Cond.fieldLink "Lantern$State" (14 : Nat) "Lantern$State" "stack" "LLantern$Row;") ∈ bw := mw 99 (by decide +kernel) (by decide +kernel)
theorem m_74 : (Jvm.Cond.fieldLinkNest "Lantern" (286 : Nat) "Lantern$State" "stack" "LLantern$Row;" "Lantern") ∈ bw := mw 100 (by decide +kernel) (by decide +kernel)
theorem m_75 : (Jvm.Cond.fieldLink "Lantern$State" (20 : Nat) "Lantern$State" "cells" "LLantern$Row;") ∈ bw := mw 101 (by decide +kernel) (by decide +kernel)
theorem m_76 : (Jvm.Cond.fieldLinkNest "Lantern$Point" (30 : Nat) "Lantern$State" "cells" "LLantern$Row;" "Lantern") ∈ bw := mw 102 (by decide +kernel) (by decide +kernel)
theorem m_77 : (Jvm.Cond.fieldLinkNest "Lantern" (306 : Nat) "Lantern$State" "cells" "LLantern$Row;" "Lantern") ∈ bw := mw 103 (by decide +kernel) (by decide +kernel)
theorem m_78 : (Jvm.Cond.fieldLink "Lantern$State" (23 : Nat) "Lantern$State" "frames" "LLantern$Row;") ∈ bw := mw 104 (by decide +kernel) (by decide +kernel)
theorem m_79 : (Jvm.Cond.fieldLinkNest "Lantern" (198 : Nat) "Lantern$State" "frames" "LLantern$Row;" "Lantern") ∈ bw := mw 105 (by decide +kernel) (by decide +kernel)
theorem m_80 : (Jvm.Cond.fieldLink "Lantern$State" (26 : Nat) "Lantern$State" "output" "LLantern$Row;") ∈ bw := mw 106 (by decide +kernel) (by decide +kernel)
theorem m_81 : (Jvm.Cond.fieldLinkNest "Lantern" (292 : Nat) "Lantern$State" "output" "LLantern$Row;" "Lantern") ∈ bw := mw 107 (by decide +kernel) (by decide +kernel)
theorem m_82 : (Jvm.Cond.fieldLink "Lantern$State" (35 : Nat) "Lantern$State" "at" "I") ∈ bw := mw 108 (by decide +kernel) (by decide +kernel)
theorem m_83 : (Jvm.Cond.fieldLinkNest "Lantern$Point" (22 : Nat) "Lantern$State" "at" "I" "Lantern") ∈ bw := mw 109 (by decide +kernel) (by decide +kernel)
theorem m_84 : (Jvm.Cond.fieldLinkNest "Lantern" (226 : Nat) "Lantern$State" "at" "I" "Lantern") ∈ bw := mw 110 (by decide +kernel) (by decide +kernel)
theorem m_85 : (Jvm.Cond.fieldLink "Lantern$State" (39 : Nat) "Lantern$State" "status" "I") ∈ bw := mw 111 (by decide +kernel) (by decide +kernel)
theorem m_86 : (Jvm.Cond.fieldLinkNest "Lantern$Point" (27 : Nat) "Lantern$State" "status" "I" "Lantern") ∈ bw := mw 112 (by decide +kernel) (by decide +kernel)
theorem m_87 : (Jvm.Cond.fieldLinkNest "Lantern" (216 : Nat) "Lantern$State" "status" "I" "Lantern") ∈ bw := mw 113 (by decide +kernel) (by decide +kernel)
theorem m_88 : (Jvm.Cond.fieldLink "Lantern$State" (42 : Nat) "Lantern$State" "read" "I") ∈ bw := mw 114 (by decide +kernel) (by decide +kernel)
theorem m_89 : (Jvm.Cond.fieldLinkNest "Lantern" (289 : Nat) "Lantern$State" "read" "I" "Lantern") ∈ bw := mw 115 (by decide +kernel) (by decide +kernel)
theorem m_90 : (Jvm.Cond.fieldLink "Lantern$State" (45 : Nat) "Lantern$State" "clock" "I") ∈ bw := mw 116 (by decide +kernel) (by decide +kernel)
theorem m_91 : (Jvm.Cond.fieldLinkNest "Lantern" (283 : Nat) "Lantern$State" "clock" "I" "Lantern") ∈ bw := mw 117 (by decide +kernel) (by decide +kernel)
theorem m_109 : (Jvm.Cond.classLink "Lantern" (32 : Nat) "Lantern$Past") ∈ bw := mw 135 (by decide +kernel) (by decide +kernel)
theorem m_110 : (Jvm.Cond.instantiable "Lantern$Past" (3 : Nat)) ∈ bw := mw 136 (by decide +kernel) (by decide +kernel)
theorem m_111 : (Jvm.Cond.methodLink "Lantern" (34 : Nat) ({ cls := "Lantern$Past", name := "<init>", desc := "()V" } : Jvm.MethodName)) ∈ bw := mw 137 (by decide +kernel) (by decide +kernel)
theorem m_112 : (Jvm.Cond.instanceMethod ({ cls := "Lantern$Past", name := "<init>", desc := "()V" } : Jvm.MethodName)) ∈ bw := mw 138 (by decide +kernel) (by decide +kernel)
theorem m_113 : (Jvm.Cond.code ({ cls := "Lantern$Past", name := "<init>", desc := "()V" } : Jvm.MethodName) prog_3_method_1_code (2 : Nat) (Option.none : Option Jvm.ClassFile.FieldType)) ∈ bw := mw 139 (by decide +kernel) (by decide +kernel)
theorem m_114 : (Jvm.Cond.methodLink "Lantern$Past" (3 : Nat) ({ cls := "java/lang/Object", name := "<init>", desc := "()V" } : Jvm.MethodName)) ∈ bw := mw 140 (by decide +kernel) (by decide +kernel)
theorem m_115 : (Jvm.Cond.classLink "Lantern$Past" (9 : Nat) "Lantern$Moment") ∈ bw := mw 141 (by decide +kernel) (by decide +kernel)
theorem m_116 : (Jvm.Cond.arrayOver (Jvm.ClassFile.FieldType.object "Lantern$Moment")) ∈ bw := mw 142 (by decide +kernel) (by decide +kernel)
theorem m_117 : (Jvm.Cond.instantiable "Lantern$Moment" (11 : Nat)) ∈ bw := mw 143 (by decide +kernel) (by decide +kernel)
theorem m_118 : (Jvm.Cond.methodLinkNest "Lantern$Past" (17 : Nat) ({ cls := "Lantern$Moment", name := "<init>", desc := "()V" } : Jvm.MethodName) "Lantern") ∈ bw := mw 144 (by decide +kernel) (by decide +kernel)
theorem m_119 : (Jvm.Cond.instanceMethod ({ cls := "Lantern$Moment", name := "<init>", desc := "()V" } : Jvm.MethodName)) ∈ bw := mw 145 (by decide +kernel) (by decide +kernel)
theorem m_120 : (Jvm.Cond.code ({ cls := "Lantern$Moment", name := "<init>", desc := "()V" } : Jvm.MethodName) prog_2_method_1_code (1 : Nat) (Option.none : Option Jvm.ClassFile.FieldType)) ∈ bw := mw 146 (by decide +kernel) (by decide +kernel)
theorem m_121 : (Jvm.Cond.methodLink "Lantern$Moment" (1 : Nat) ({ cls := "java/lang/Object", name := "<init>", desc := "()V" } : Jvm.MethodName)) ∈ bw := mw 147 (by decide +kernel) (by decide +kernel)
theorem m_122 : (Jvm.Cond.fieldLink "Lantern$Moment" (19 : Nat) "Lantern$Moment" "at" "I") ∈ bw := mw 148 (by decide +kernel) (by decide +kernel)
theorem m_123 : (Jvm.Cond.fieldLinkNest "Lantern$Past" (29 : Nat) "Lantern$Moment" "at" "I" "Lantern") ∈ bw := mw 149 (by decide +kernel) (by decide +kernel)
theorem m_124 : (Jvm.Cond.fieldLinkNest "Lantern$State" (124 : Nat) "Lantern$Moment" "at" "I" "Lantern") ∈ bw := mw 150 (by decide +kernel) (by decide +kernel)
theorem m_125 : (Jvm.Cond.fieldLink "Lantern$Moment" (22 : Nat) "Lantern$Moment" "stackSize" "I") ∈ bw := mw 151 (by decide +kernel) (by decide +kernel)
theorem m_126 : (Jvm.Cond.fieldLinkNest "Lantern$State" (127 : Nat) "Lantern$Moment" "stackSize" "I" "Lantern") ∈ bw := mw 152 (by decide +kernel) (by decide +kernel)
theorem m_127 : (Jvm.Cond.fieldLink "Lantern$Moment" (25 : Nat) "Lantern$Moment" "top" "I") ∈ bw := mw 153 (by decide +kernel) (by decide +kernel)
theorem m_128 : (Jvm.Cond.fieldLinkNest "Lantern$State" (130 : Nat) "Lantern$Moment" "top" "I" "Lantern") ∈ bw := mw 154 (by decide +kernel) (by decide +kernel)
theorem m_129 : (Jvm.Cond.fieldLinkNest "Lantern$State" (133 : Nat) "Lantern$Moment" "second" "I" "Lantern") ∈ bw := mw 155 (by decide +kernel) (by decide +kernel)
theorem m_130 : (Jvm.Cond.fieldLink "Lantern$Moment" (28 : Nat) "Lantern$Moment" "frameCount" "I") ∈ bw := mw 156 (by decide +kernel) (by decide +kernel)
theorem m_131 : (Jvm.Cond.fieldLinkNest "Lantern$State" (136 : Nat) "Lantern$Moment" "frameCount" "I" "Lantern") ∈ bw := mw 157 (by decide +kernel) (by decide +kernel)
theorem m_132 : (Jvm.Cond.fieldLinkNest "Lantern$State" (139 : Nat) "Lantern$Moment" "wayBack" "I" "Lantern") ∈ bw := mw 158 (by decide +kernel) (by decide +kernel)
theorem m_133 : (Jvm.Cond.fieldLinkNest "Lantern$State" (142 : Nat) "Lantern$Moment" "read" "I" "Lantern") ∈ bw := mw 159 (by decide +kernel) (by decide +kernel)
theorem m_134 : (Jvm.Cond.fieldLinkNest "Lantern$State" (143 : Nat) "Lantern$Moment" "outputSize" "I" "Lantern") ∈ bw := mw 160 (by decide +kernel) (by decide +kernel)
theorem m_135 : (Jvm.Cond.fieldLink "Lantern$Moment" (7 : Nat) "Lantern$Moment" "cell" "I") ∈ bw := mw 161 (by decide +kernel) (by decide +kernel)
theorem m_136 : (Jvm.Cond.fieldLinkNest "Lantern$Watch" (27 : Nat) "Lantern$Moment" "cell" "I" "Lantern") ∈ bw := mw 162 (by decide +kernel) (by decide +kernel)
theorem m_137 : (Jvm.Cond.fieldLinkNest "Lantern$Past" (32 : Nat) "Lantern$Moment" "cell" "I" "Lantern") ∈ bw := mw 163 (by decide +kernel) (by decide +kernel)
theorem m_138 : (Jvm.Cond.fieldLinkNest "Lantern$State" (146 : Nat) "Lantern$Moment" "cell" "I" "Lantern") ∈ bw := mw 164 (by decide +kernel) (by decide +kernel)
theorem m_139 : (Jvm.Cond.fieldLink "Lantern$Moment" (13 : Nat) "Lantern$Moment" "before" "I") ∈ bw := mw 165 (by decide +kernel) (by decide +kernel)
theorem m_140 : (Jvm.Cond.fieldLinkNest "Lantern$Past" (35 : Nat) "Lantern$Moment" "before" "I" "Lantern") ∈ bw := mw 166 (by decide +kernel) (by decide +kernel)
theorem m_141 : (Jvm.Cond.fieldLinkNest "Lantern$State" (156 : Nat) "Lantern$Moment" "before" "I" "Lantern") ∈ bw := mw 167 (by decide +kernel) (by decide +kernel)
theorem m_142 : (Jvm.Cond.fieldLink "Lantern$Moment" (16 : Nat) "Lantern$Moment" "after" "I") ∈ bw := mw 168 (by decide +kernel) (by decide +kernel)
theorem m_143 : (Jvm.Cond.fieldLinkNest "Lantern$Watch" (28 : Nat) "Lantern$Moment" "after" "I" "Lantern") ∈ bw := mw 169 (by decide +kernel) (by decide +kernel)
theorem m_167 : (Jvm.Cond.fieldLink "Lantern$Past" (11 : Nat) "Lantern$Past" "moments" "[LLantern$Moment;") ∈ bw := mw 193 (by decide +kernel) (by decide +kernel)
theorem m_168 : (Jvm.Cond.fieldLink "Lantern$Past" (22 : Nat) "Lantern$Past" "first" "I") ∈ bw := mw 194 (by decide +kernel) (by decide +kernel)
theorem m_169 : (Jvm.Cond.fieldLink "Lantern$Past" (18 : Nat) "Lantern$Past" "count" "I") ∈ bw := mw 195 (by decide +kernel) (by decide +kernel)
theorem m_177 : (Jvm.Cond.classLink "Lantern" (39 : Nat) "Lantern$Point") ∈ bw := mw 203 (by decide +kernel) (by decide +kernel)
theorem m_178 : (Jvm.Cond.arrayOver (Jvm.ClassFile.FieldType.object "Lantern$Point")) ∈ bw := mw 204 (by decide +kernel) (by decide +kernel)
theorem m_179 : (Jvm.Cond.instantiable "Lantern$Point" (7 : Nat)) ∈ bw := mw 205 (by decide +kernel) (by decide +kernel)
theorem m_180 : (Jvm.Cond.methodLinkNest "Lantern" (45 : Nat) ({ cls := "Lantern$Point", name := "<init>", desc := "()V" } : Jvm.MethodName) "Lantern") ∈ bw := mw 206 (by decide +kernel) (by decide +kernel)
theorem m_181 : (Jvm.Cond.instanceMethod ({ cls := "Lantern$Point", name := "<init>", desc := "()V" } : Jvm.MethodName)) ∈ bw := mw 207 (by decide +kernel) (by decide +kernel)
theorem m_182 : (Jvm.Cond.code ({ cls := "Lantern$Point", name := "<init>", desc := "()V" } : Jvm.MethodName) prog_4_method_1_code (1 : Nat) (Option.none : Option Jvm.ClassFile.FieldType)) ∈ bw := mw 208 (by decide +kernel) (by decide +kernel)
theorem m_183 : (Jvm.Cond.methodLink "Lantern$Point" (3 : Nat) ({ cls := "java/lang/Object", name := "<init>", desc := "()V" } : Jvm.MethodName)) ∈ bw := mw 209 (by decide +kernel) (by decide +kernel)
theorem m_184 : (Jvm.Cond.fieldLink "Lantern$Point" (9 : Nat) "Lantern$Point" "step" "I") ∈ bw := mw 210 (by decide +kernel) (by decide +kernel)
theorem m_185 : (Jvm.Cond.fieldLinkNest "Lantern" (324 : Nat) "Lantern$Point" "step" "I" "Lantern") ∈ bw := mw 211 (by decide +kernel) (by decide +kernel)
theorem m_186 : (Jvm.Cond.fieldLink "Lantern$Point" (15 : Nat) "Lantern$Point" "pass" "I") ∈ bw := mw 212 (by decide +kernel) (by decide +kernel)
theorem m_187 : (Jvm.Cond.fieldLinkNest "Lantern" (173 : Nat) "Lantern$Point" "pass" "I" "Lantern") ∈ bw := mw 213 (by decide +kernel) (by decide +kernel)
theorem m_188 : (Jvm.Cond.fieldLink "Lantern$Point" (18 : Nat) "Lantern$Point" "isOn" "Z") ∈ bw := mw 214 (by decide +kernel) (by decide +kernel)
theorem m_189 : (Jvm.Cond.fieldLinkNest "Lantern" (176 : Nat) "Lantern$Point" "isOn" "Z" "Lantern") ∈ bw := mw 215 (by decide +kernel) (by decide +kernel)
theorem m_190 : (Jvm.Cond.fieldLink "Lantern$Point" (47 : Nat) "Lantern$Point" "how" "I") ∈ bw := mw 216 (by decide +kernel) (by decide +kernel)
theorem m_191 : (Jvm.Cond.fieldLink "Lantern$Point" (34 : Nat) "Lantern$Point" "cell" "I") ∈ bw := mw 217 (by decide +kernel) (by decide +kernel)
theorem m_192 : (Jvm.Cond.fieldLink "Lantern$Point" (50 : Nat) "Lantern$Point" "n" "I") ∈ bw := mw 218 (by decide +kernel) (by decide +kernel)
theorem m_193 : (Jvm.Cond.fieldLinkNest "Lantern" (249 : Nat) "Lantern$Point" "stops" "I" "Lantern") ∈ bw := mw 219 (by decide +kernel) (by decide +kernel)
theorem m_209 : (Jvm.Cond.classLink "Lantern" (46 : Nat) "Lantern$Watch") ∈ bw := mw 235 (by decide +kernel) (by decide +kernel)
theorem m_210 : (Jvm.Cond.arrayOver (Jvm.ClassFile.FieldType.object "Lantern$Watch")) ∈ bw := mw 236 (by decide +kernel) (by decide +kernel)
theorem m_211 : (Jvm.Cond.instantiable "Lantern$Watch" (3 : Nat)) ∈ bw := mw 237 (by decide +kernel) (by decide +kernel)
theorem m_212 : (Jvm.Cond.methodLinkNest "Lantern" (52 : Nat) ({ cls := "Lantern$Watch", name := "<init>", desc := "()V" } : Jvm.MethodName) "Lantern") ∈ bw := mw 238 (by decide +kernel) (by decide +kernel)
theorem m_213 : (Jvm.Cond.instanceMethod ({ cls := "Lantern$Watch", name := "<init>", desc := "()V" } : Jvm.MethodName)) ∈ bw := mw 239 (by decide +kernel) (by decide +kernel)
theorem m_214 : (Jvm.Cond.code ({ cls := "Lantern$Watch", name := "<init>", desc := "()V" } : Jvm.MethodName) prog_9_method_1_code (1 : Nat) (Option.none : Option Jvm.ClassFile.FieldType)) ∈ bw := mw 240 (by decide +kernel) (by decide +kernel)
theorem m_215 : (Jvm.Cond.methodLink "Lantern$Watch" (3 : Nat) ({ cls := "java/lang/Object", name := "<init>", desc := "()V" } : Jvm.MethodName)) ∈ bw := mw 241 (by decide +kernel) (by decide +kernel)
theorem m_216 : (Jvm.Cond.fieldLink "Lantern$Watch" (9 : Nat) "Lantern$Watch" "cell" "I") ∈ bw := mw 242 (by decide +kernel) (by decide +kernel)
theorem m_217 : (Jvm.Cond.fieldLink "Lantern$Watch" (15 : Nat) "Lantern$Watch" "kind" "I") ∈ bw := mw 243 (by decide +kernel) (by decide +kernel)
theorem m_218 : (Jvm.Cond.fieldLink "Lantern$Watch" (18 : Nat) "Lantern$Watch" "n" "I") ∈ bw := mw 244 (by decide +kernel) (by decide +kernel)
theorem m_226 : (Jvm.Cond.classLink "Lantern" (53 : Nat) "Lantern$Tape") ∈ bw := mw 252 (by decide +kernel) (by decide +kernel)
theorem m_227 : (Jvm.Cond.arrayOver (Jvm.ClassFile.FieldType.object "Lantern$Tape")) ∈ bw := mw 253 (by decide +kernel) (by decide +kernel)
theorem m_228 : (Jvm.Cond.instantiable "Lantern$Tape" (3 : Nat)) ∈ bw := mw 254 (by decide +kernel) (by decide +kernel)
theorem m_229 : (Jvm.Cond.methodLinkNest "Lantern" (59 : Nat) ({ cls := "Lantern$Tape", name := "<init>", desc := "()V" } : Jvm.MethodName) "Lantern") ∈ bw := mw 255 (by decide +kernel) (by decide +kernel)
theorem m_230 : (Jvm.Cond.instanceMethod ({ cls := "Lantern$Tape", name := "<init>", desc := "()V" } : Jvm.MethodName)) ∈ bw := mw 256 (by decide +kernel) (by decide +kernel)
theorem m_231 : (Jvm.Cond.code ({ cls := "Lantern$Tape", name := "<init>", desc := "()V" } : Jvm.MethodName) prog_8_method_1_code (1 : Nat) (Option.none : Option Jvm.ClassFile.FieldType)) ∈ bw := mw 257 (by decide +kernel) (by decide +kernel)
theorem m_232 : (Jvm.Cond.methodLink "Lantern$Tape" (3 : Nat) ({ cls := "java/lang/Object", name := "<init>", desc := "()V" } : Jvm.MethodName)) ∈ bw := mw 258 (by decide +kernel) (by decide +kernel)
theorem m_233 : (Jvm.Cond.classLink "Lantern$Tape" (9 : Nat) "Lantern$Row") ∈ bw := mw 259 (by decide +kernel) (by decide +kernel)
theorem m_234 : (Jvm.Cond.methodLink "Lantern$Tape" (11 : Nat) ({ cls := "Lantern$Row", name := "<init>", desc := "(I)V" } : Jvm.MethodName)) ∈ bw := mw 260 (by decide +kernel) (by decide +kernel)
theorem m_235 : (Jvm.Cond.fieldLink "Lantern$Tape" (14 : Nat) "Lantern$Tape" "steps" "LLantern$Row;") ∈ bw := mw 261 (by decide +kernel) (by decide +kernel)
theorem m_236 : (Jvm.Cond.fieldLinkNest "Lantern" (369 : Nat) "Lantern$Tape" "steps" "LLantern$Row;" "Lantern") ∈ bw := mw 262 (by decide +kernel) (by decide +kernel)
theorem m_237 : (Jvm.Cond.fieldLink "Lantern$Tape" (20 : Nat) "Lantern$Tape" "input" "LLantern$Row;") ∈ bw := mw 263 (by decide +kernel) (by decide +kernel)
theorem m_238 : (Jvm.Cond.fieldLinkNest "Lantern" (364 : Nat) "Lantern$Tape" "input" "LLantern$Row;" "Lantern") ∈ bw := mw 264 (by decide +kernel) (by decide +kernel)
theorem m_239 : (Jvm.Cond.fieldLinkNest "Lantern" (361 : Nat) "Lantern$Tape" "isRecorded" "Z" "Lantern") ∈ bw := mw 265 (by decide +kernel) (by decide +kernel)
theorem m_247 : (Jvm.Cond.fieldLink "Lantern" (10 : Nat) "Lantern" "program" "LLantern$Program;") ∈ bw := mw 273 (by decide +kernel) (by decide +kernel)
theorem m_248 : (Jvm.Cond.fieldLink "Lantern" (21 : Nat) "Lantern" "input" "LLantern$Row;") ∈ bw := mw 274 (by decide +kernel) (by decide +kernel)
theorem m_249 : (Jvm.Cond.fieldLink "Lantern" (28 : Nat) "Lantern" "state" "LLantern$State;") ∈ bw := mw 275 (by decide +kernel) (by decide +kernel)
theorem m_250 : (Jvm.Cond.fieldLink "Lantern" (35 : Nat) "Lantern" "past" "LLantern$Past;") ∈ bw := mw 276 (by decide +kernel) (by decide +kernel)
theorem m_251 : (Jvm.Cond.fieldLink "Lantern" (41 : Nat) "Lantern" "points" "[LLantern$Point;") ∈ bw := mw 277 (by decide +kernel) (by decide +kernel)
theorem m_252 : (Jvm.Cond.fieldLink "Lantern" (143 : Nat) "Lantern" "pointCount" "I") ∈ bw := mw 278 (by decide +kernel) (by decide +kernel)
theorem m_253 : (Jvm.Cond.fieldLink "Lantern" (48 : Nat) "Lantern" "watches" "[LLantern$Watch;") ∈ bw := mw 279 (by decide +kernel) (by decide +kernel)
theorem m_254 : (Jvm.Cond.fieldLink "Lantern" (182 : Nat) "Lantern" "watchCount" "I") ∈ bw := mw 280 (by decide +kernel) (by decide +kernel)
theorem m_255 : (Jvm.Cond.fieldLink "Lantern" (55 : Nat) "Lantern" "tapes" "[LLantern$Tape;") ∈ bw := mw 281 (by decide +kernel) (by decide +kernel)
theorem m_256 : (Jvm.Cond.fieldLink "Lantern" (60 : Nat) "Lantern" "reason" "I") ∈ bw := mw 282 (by decide +kernel) (by decide +kernel)
theorem m_257 : (Jvm.Cond.fieldLink "Lantern" (64 : Nat) "Lantern" "cause" "I") ∈ bw := mw 283 (by decide +kernel) (by decide +kernel)
theorem m_258 : (Jvm.Cond.fieldLink "Lantern" (67 : Nat) "Lantern" "trial" "LLantern$State;") ∈ bw := mw 284 (by decide +kernel) (by decide +kernel)
theorem m_259 : (Jvm.Cond.fieldLink "Lantern" (70 : Nat) "Lantern" "trialInput" "LLantern$Row;") ∈ bw := mw 285 (by decide +kernel) (by decide +kernel)
theorem m_287 : (Jvm.Cond.methodLink "LanternLaw" (53 : Nat) ({ cls := "Lantern", name := "give", desc := "(I)I" } : Jvm.MethodName)) ∈ bw := mw 313 (by decide +kernel) (by decide +kernel)
theorem m_288 : (Jvm.Cond.instanceMethod ({ cls := "Lantern", name := "give", desc := "(I)I" } : Jvm.MethodName)) ∈ bw := mw 314 (by decide +kernel) (by decide +kernel)
theorem m_289 : (Jvm.Cond.selects "Lantern" ({ cls := "Lantern", name := "give", desc := "(I)I" } : Jvm.MethodName) ({ cls := "Lantern", name := "give", desc := "(I)I" } : Jvm.MethodName)) ∈ bw := mw 315 (by decide +kernel) (by decide +kernel)
theorem m_290 : (Jvm.Cond.code ({ cls := "Lantern", name := "give", desc := "(I)I" } : Jvm.MethodName) prog_1_method_4_code (2 : Nat) (Option.some Jvm.ClassFile.FieldType.int)) ∈ bw := mw 316 (by decide +kernel) (by decide +kernel)
theorem m_291 : (Jvm.Cond.methodLink "Lantern" (118 : Nat) ({ cls := "Lantern$Row", name := "isFull", desc := "()Z" } : Jvm.MethodName)) ∈ bw := mw 317 (by decide +kernel) (by decide +kernel)
theorem m_292 : (Jvm.Cond.instanceMethod ({ cls := "Lantern$Row", name := "isFull", desc := "()Z" } : Jvm.MethodName)) ∈ bw := mw 318 (by decide +kernel) (by decide +kernel)
theorem m_293 : (Jvm.Cond.selects "Lantern$Row" ({ cls := "Lantern$Row", name := "isFull", desc := "()Z" } : Jvm.MethodName) ({ cls := "Lantern$Row", name := "isFull", desc := "()Z" } : Jvm.MethodName)) ∈ bw := mw 319 (by decide +kernel) (by decide +kernel)
theorem m_294 : (Jvm.Cond.code ({ cls := "Lantern$Row", name := "isFull", desc := "()Z" } : Jvm.MethodName) prog_6_method_3_code (1 : Nat) (Option.some Jvm.ClassFile.FieldType.boolean)) ∈ bw := mw 320 (by decide +kernel) (by decide +kernel)
theorem m_362 : (Jvm.Cond.arrayClass Jvm.ClassFile.FieldType.byte) ∈ bw := mw 388 (by decide +kernel) (by decide +kernel)
theorem m_363 : (Jvm.Cond.methodLink "Lantern" (121 : Nat) ({ cls := "Lantern$Row", name := "push", desc := "(I)V" } : Jvm.MethodName)) ∈ bw := mw 389 (by decide +kernel) (by decide +kernel)
theorem m_364 : (Jvm.Cond.instanceMethod ({ cls := "Lantern$Row", name := "push", desc := "(I)V" } : Jvm.MethodName)) ∈ bw := mw 390 (by decide +kernel) (by decide +kernel)
theorem m_365 : (Jvm.Cond.selects "Lantern$Row" ({ cls := "Lantern$Row", name := "push", desc := "(I)V" } : Jvm.MethodName) ({ cls := "Lantern$Row", name := "push", desc := "(I)V" } : Jvm.MethodName)) ∈ bw := mw 391 (by decide +kernel) (by decide +kernel)
theorem m_366 : (Jvm.Cond.code ({ cls := "Lantern$Row", name := "push", desc := "(I)V" } : Jvm.MethodName) prog_6_method_9_code (2 : Nat) (Option.none : Option Jvm.ClassFile.FieldType)) ∈ bw := mw 392 (by decide +kernel) (by decide +kernel)
theorem m_367 : (Jvm.Cond.methodLink "Lantern" (124 : Nat) ({ cls := "Lantern$Row", name := "size", desc := "()I" } : Jvm.MethodName)) ∈ bw := mw 393 (by decide +kernel) (by decide +kernel)
theorem m_368 : (Jvm.Cond.instanceMethod ({ cls := "Lantern$Row", name := "size", desc := "()I" } : Jvm.MethodName)) ∈ bw := mw 394 (by decide +kernel) (by decide +kernel)
theorem m_369 : (Jvm.Cond.selects "Lantern$Row" ({ cls := "Lantern$Row", name := "size", desc := "()I" } : Jvm.MethodName) ({ cls := "Lantern$Row", name := "size", desc := "()I" } : Jvm.MethodName)) ∈ bw := mw 395 (by decide +kernel) (by decide +kernel)
theorem m_370 : (Jvm.Cond.code ({ cls := "Lantern$Row", name := "size", desc := "()I" } : Jvm.MethodName) prog_6_method_2_code (1 : Nat) (Option.some Jvm.ClassFile.FieldType.int)) ∈ bw := mw 396 (by decide +kernel) (by decide +kernel)
theorem m_371 : (Jvm.Cond.methodLink "LanternLaw" (103 : Nat) ({ cls := "Lantern", name := "restart", desc := "()I" } : Jvm.MethodName)) ∈ bw := mw 397 (by decide +kernel) (by decide +kernel)
theorem m_372 : (Jvm.Cond.instanceMethod ({ cls := "Lantern", name := "restart", desc := "()I" } : Jvm.MethodName)) ∈ bw := mw 398 (by decide +kernel) (by decide +kernel)
theorem m_373 : (Jvm.Cond.selects "Lantern" ({ cls := "Lantern", name := "restart", desc := "()I" } : Jvm.MethodName) ({ cls := "Lantern", name := "restart", desc := "()I" } : Jvm.MethodName)) ∈ bw := mw 399 (by decide +kernel) (by decide +kernel)
theorem m_374 : (Jvm.Cond.code ({ cls := "Lantern", name := "restart", desc := "()I" } : Jvm.MethodName) prog_1_method_5_code (1 : Nat) (Option.some Jvm.ClassFile.FieldType.int)) ∈ bw := mw 400 (by decide +kernel) (by decide +kernel)
theorem m_375 : (Jvm.Cond.methodLink "Lantern" (125 : Nat) ({ cls := "Lantern", name := "start", desc := "()V" } : Jvm.MethodName)) ∈ bw := mw 401 (by decide +kernel) (by decide +kernel)
theorem m_377 : (Jvm.Cond.instanceMethod ({ cls := "Lantern", name := "start", desc := "()V" } : Jvm.MethodName)) ∈ bw := mw 403 (by decide +kernel) (by decide +kernel)
theorem m_378 : (Jvm.Cond.code ({ cls := "Lantern", name := "start", desc := "()V" } : Jvm.MethodName) prog_1_method_6_code (1 : Nat) (Option.none : Option Jvm.ClassFile.FieldType)) ∈ bw := mw 404 (by decide +kernel) (by decide +kernel)
theorem m_379 : (Jvm.Cond.methodLink "Lantern" (128 : Nat) ({ cls := "Lantern$State", name := "clear", desc := "()V" } : Jvm.MethodName)) ∈ bw := mw 405 (by decide +kernel) (by decide +kernel)
theorem m_380 : (Jvm.Cond.instanceMethod ({ cls := "Lantern$State", name := "clear", desc := "()V" } : Jvm.MethodName)) ∈ bw := mw 406 (by decide +kernel) (by decide +kernel)
theorem m_381 : (Jvm.Cond.selects "Lantern$State" ({ cls := "Lantern$State", name := "clear", desc := "()V" } : Jvm.MethodName) ({ cls := "Lantern$State", name := "clear", desc := "()V" } : Jvm.MethodName)) ∈ bw := mw 407 (by decide +kernel) (by decide +kernel)
theorem m_382 : (Jvm.Cond.code ({ cls := "Lantern$State", name := "clear", desc := "()V" } : Jvm.MethodName) prog_7_method_2_code (1 : Nat) (Option.none : Option Jvm.ClassFile.FieldType)) ∈ bw := mw 408 (by decide +kernel) (by decide +kernel)
theorem m_383 : (Jvm.Cond.methodLink "Lantern$State" (32 : Nat) ({ cls := "Lantern$Row", name := "resize", desc := "(I)V" } : Jvm.MethodName)) ∈ bw := mw 409 (by decide +kernel) (by decide +kernel)
theorem m_384 : (Jvm.Cond.instanceMethod ({ cls := "Lantern$Row", name := "resize", desc := "(I)V" } : Jvm.MethodName)) ∈ bw := mw 410 (by decide +kernel) (by decide +kernel)
theorem m_385 : (Jvm.Cond.selects "Lantern$Row" ({ cls := "Lantern$Row", name := "resize", desc := "(I)V" } : Jvm.MethodName) ({ cls := "Lantern$Row", name := "resize", desc := "(I)V" } : Jvm.MethodName)) ∈ bw := mw 411 (by decide +kernel) (by decide +kernel)
theorem m_386 : (Jvm.Cond.code ({ cls := "Lantern$Row", name := "resize", desc := "(I)V" } : Jvm.MethodName) prog_6_method_11_code (2 : Nat) (Option.none : Option Jvm.ClassFile.FieldType)) ∈ bw := mw 412 (by decide +kernel) (by decide +kernel)
theorem m_387 : (Jvm.Cond.methodLink "Lantern$Row" (31 : Nat) ({ cls := "java/lang/Math", name := "min", desc := "(II)I" } : Jvm.MethodName)) ∈ bw := mw 413 (by decide +kernel) (by decide +kernel)
theorem m_388 : (Jvm.Cond.static ({ cls := "java/lang/Math", name := "min", desc := "(II)I" } : Jvm.MethodName)) ∈ bw := mw 414 (by decide +kernel) (by decide +kernel)
theorem m_389 : (Jvm.Cond.code ({ cls := "java/lang/Math", name := "min", desc := "(II)I" } : Jvm.MethodName) prog_19_method_69_code (2 : Nat) (Option.some Jvm.ClassFile.FieldType.int)) ∈ bw := mw 415 (by decide +kernel) (by decide +kernel)
theorem m_390 : (Jvm.Cond.methodLink "Lantern" (131 : Nat) ({ cls := "Lantern$Past", name := "clear", desc := "()V" } : Jvm.MethodName)) ∈ bw := mw 416 (by decide +kernel) (by decide +kernel)
theorem m_391 : (Jvm.Cond.instanceMethod ({ cls := "Lantern$Past", name := "clear", desc := "()V" } : Jvm.MethodName)) ∈ bw := mw 417 (by decide +kernel) (by decide +kernel)
theorem m_392 : (Jvm.Cond.selects "Lantern$Past" ({ cls := "Lantern$Past", name := "clear", desc := "()V" } : Jvm.MethodName) ({ cls := "Lantern$Past", name := "clear", desc := "()V" } : Jvm.MethodName)) ∈ bw := mw 418 (by decide +kernel) (by decide +kernel)
theorem m_393 : (Jvm.Cond.code ({ cls := "Lantern$Past", name := "clear", desc := "()V" } : Jvm.MethodName) prog_3_method_3_code (1 : Nat) (Option.none : Option Jvm.ClassFile.FieldType)) ∈ bw := mw 419 (by decide +kernel) (by decide +kernel)
theorem m_394 : (Jvm.Cond.methodLink "Lantern" (132 : Nat) ({ cls := "Lantern$Program", name := "forgetTimes", desc := "()V" } : Jvm.MethodName)) ∈ bw := mw 420 (by decide +kernel) (by decide +kernel)
theorem m_395 : (Jvm.Cond.instanceMethod ({ cls := "Lantern$Program", name := "forgetTimes", desc := "()V" } : Jvm.MethodName)) ∈ bw := mw 421 (by decide +kernel) (by decide +kernel)
theorem m_396 : (Jvm.Cond.selects "Lantern$Program" ({ cls := "Lantern$Program", name := "forgetTimes", desc := "()V" } : Jvm.MethodName) ({ cls := "Lantern$Program", name := "forgetTimes", desc := "()V" } : Jvm.MethodName)) ∈ bw := mw 422 (by decide +kernel) (by decide +kernel)
theorem m_397 : (Jvm.Cond.code ({ cls := "Lantern$Program", name := "forgetTimes", desc := "()V" } : Jvm.MethodName) prog_5_method_12_code (2 : Nat) (Option.none : Option Jvm.ClassFile.FieldType)) ∈ bw := mw 423 (by decide +kernel) (by decide +kernel)
theorem m_398 : (Jvm.Cond.methodLink "Lantern$Program" (30 : Nat) ({ cls := "Lantern$Row", name := "size", desc := "()I" } : Jvm.MethodName)) ∈ bw := mw 424 (by decide +kernel) (by decide +kernel)
theorem m_399 : (Jvm.Cond.methodLink "Lantern$Program" (48 : Nat) ({ cls := "Lantern$Row", name := "put", desc := "(II)V" } : Jvm.MethodName)) ∈ bw := mw 425 (by decide +kernel) (by decide +kernel)
theorem m_400 : (Jvm.Cond.instanceMethod ({ cls := "Lantern$Row", name := "put", desc := "(II)V" } : Jvm.MethodName)) ∈ bw := mw 426 (by decide +kernel) (by decide +kernel)
theorem m_401 : (Jvm.Cond.selects "Lantern$Row" ({ cls := "Lantern$Row", name := "put", desc := "(II)V" } : Jvm.MethodName) ({ cls := "Lantern$Row", name := "put", desc := "(II)V" } : Jvm.MethodName)) ∈ bw := mw 427 (by decide +kernel) (by decide +kernel)
theorem m_402 : (Jvm.Cond.code ({ cls := "Lantern$Row", name := "put", desc := "(II)V" } : Jvm.MethodName) prog_6_method_7_code (3 : Nat) (Option.none : Option Jvm.ClassFile.FieldType)) ∈ bw := mw 428 (by decide +kernel) (by decide +kernel)
theorem m_403 : (Jvm.Cond.methodLink "Lantern" (135 : Nat) ({ cls := "Lantern", name := "stopBy", desc := "(II)V" } : Jvm.MethodName)) ∈ bw := mw 429 (by decide +kernel) (by decide +kernel)
theorem m_405 : (Jvm.Cond.instanceMethod ({ cls := "Lantern", name := "stopBy", desc := "(II)V" } : Jvm.MethodName)) ∈ bw := mw 431 (by decide +kernel) (by decide +kernel)
theorem m_406 : (Jvm.Cond.code ({ cls := "Lantern", name := "stopBy", desc := "(II)V" } : Jvm.MethodName) prog_1_method_22_code (3 : Nat) (Option.none : Option Jvm.ClassFile.FieldType)) ∈ bw := mw 432 (by decide +kernel) (by decide +kernel)
theorem m_407 : (Jvm.Cond.methodLink "Lantern" (97 : Nat) ({ cls := "Lantern$Program", name := "size", desc := "()I" } : Jvm.MethodName)) ∈ bw := mw 433 (by decide +kernel) (by decide +kernel)
theorem m_408 : (Jvm.Cond.instanceMethod ({ cls := "Lantern$Program", name := "size", desc := "()I" } : Jvm.MethodName)) ∈ bw := mw 434 (by decide +kernel) (by decide +kernel)
theorem m_409 : (Jvm.Cond.selects "Lantern$Program" ({ cls := "Lantern$Program", name := "size", desc := "()I" } : Jvm.MethodName) ({ cls := "Lantern$Program", name := "size", desc := "()I" } : Jvm.MethodName)) ∈ bw := mw 435 (by decide +kernel) (by decide +kernel)
theorem m_410 : (Jvm.Cond.code ({ cls := "Lantern$Program", name := "size", desc := "()I" } : Jvm.MethodName) prog_5_method_3_code (1 : Nat) (Option.some Jvm.ClassFile.FieldType.int)) ∈ bw := mw 436 (by decide +kernel) (by decide +kernel)
theorem m_411 : (Jvm.Cond.methodLink "LanternLaw" (100 : Nat) ({ cls := "Lantern", name := "point", desc := "(II)I" } : Jvm.MethodName)) ∈ bw := mw 437 (by decide +kernel) (by decide +kernel)
theorem m_412 : (Jvm.Cond.instanceMethod ({ cls := "Lantern", name := "point", desc := "(II)I" } : Jvm.MethodName)) ∈ bw := mw 438 (by decide +kernel) (by decide +kernel)
theorem m_413 : (Jvm.Cond.selects "Lantern" ({ cls := "Lantern", name := "point", desc := "(II)I" } : Jvm.MethodName) ({ cls := "Lantern", name := "point", desc := "(II)I" } : Jvm.MethodName)) ∈ bw := mw 439 (by decide +kernel) (by decide +kernel)
theorem m_414 : (Jvm.Cond.code ({ cls := "Lantern", name := "point", desc := "(II)I" } : Jvm.MethodName) prog_1_method_7_code (3 : Nat) (Option.some Jvm.ClassFile.FieldType.int)) ∈ bw := mw 440 (by decide +kernel) (by decide +kernel)
theorem m_415 : (Jvm.Cond.methodLink "Lantern" (138 : Nat) ({ cls := "Lantern", name := "isPass", desc := "(I)Z" } : Jvm.MethodName)) ∈ bw := mw 441 (by decide +kernel) (by decide +kernel)
theorem m_416 : (Jvm.Cond.static ({ cls := "Lantern", name := "isPass", desc := "(I)Z" } : Jvm.MethodName)) ∈ bw := mw 442 (by decide +kernel) (by decide +kernel)
theorem m_417 : (Jvm.Cond.code ({ cls := "Lantern", name := "isPass", desc := "(I)Z" } : Jvm.MethodName) prog_1_method_13_code (1 : Nat) (Option.some Jvm.ClassFile.FieldType.boolean)) ∈ bw := mw 443 (by decide +kernel) (by decide +kernel)
theorem m_435 : (Jvm.Cond.methodLink "Lantern" (148 : Nat) ({ cls := "Lantern$Point", name := "place", desc := "(II)V" } : Jvm.MethodName)) ∈ bw := mw 461 (by decide +kernel) (by decide +kernel)
theorem m_436 : (Jvm.Cond.instanceMethod ({ cls := "Lantern$Point", name := "place", desc := "(II)V" } : Jvm.MethodName)) ∈ bw := mw 462 (by decide +kernel) (by decide +kernel)
theorem m_437 : (Jvm.Cond.selects "Lantern$Point" ({ cls := "Lantern$Point", name := "place", desc := "(II)V" } : Jvm.MethodName) ({ cls := "Lantern$Point", name := "place", desc := "(II)V" } : Jvm.MethodName)) ∈ bw := mw 463 (by decide +kernel) (by decide +kernel)
theorem m_438 : (Jvm.Cond.code ({ cls := "Lantern$Point", name := "place", desc := "(II)V" } : Jvm.MethodName) prog_4_method_2_code (3 : Nat) (Option.none : Option Jvm.ClassFile.FieldType)) ∈ bw := mw 464 (by decide +kernel) (by decide +kernel)
theorem m_439 : (Jvm.Cond.methodLink "LanternLaw" (62 : Nat) ({ cls := "Lantern", name := "run", desc := "(I)I" } : Jvm.MethodName)) ∈ bw := mw 465 (by decide +kernel) (by decide +kernel)
theorem m_440 : (Jvm.Cond.instanceMethod ({ cls := "Lantern", name := "run", desc := "(I)I" } : Jvm.MethodName)) ∈ bw := mw 466 (by decide +kernel) (by decide +kernel)
theorem m_441 : (Jvm.Cond.selects "Lantern" ({ cls := "Lantern", name := "run", desc := "(I)I" } : Jvm.MethodName) ({ cls := "Lantern", name := "run", desc := "(I)I" } : Jvm.MethodName)) ∈ bw := mw 467 (by decide +kernel) (by decide +kernel)
theorem m_442 : (Jvm.Cond.code ({ cls := "Lantern", name := "run", desc := "(I)I" } : Jvm.MethodName) prog_1_method_16_code (2 : Nat) (Option.some Jvm.ClassFile.FieldType.int)) ∈ bw := mw 468 (by decide +kernel) (by decide +kernel)
theorem m_443 : (Jvm.Cond.methodLink "Lantern" (189 : Nat) ({ cls := "Lantern", name := "isRunLength", desc := "(I)Z" } : Jvm.MethodName)) ∈ bw := mw 469 (by decide +kernel) (by decide +kernel)
theorem m_444 : (Jvm.Cond.static ({ cls := "Lantern", name := "isRunLength", desc := "(I)Z" } : Jvm.MethodName)) ∈ bw := mw 470 (by decide +kernel) (by decide +kernel)
theorem m_445 : (Jvm.Cond.code ({ cls := "Lantern", name := "isRunLength", desc := "(I)Z" } : Jvm.MethodName) prog_1_method_21_code (1 : Nat) (Option.some Jvm.ClassFile.FieldType.boolean)) ∈ bw := mw 471 (by decide +kernel) (by decide +kernel)
theorem m_447 : (Jvm.Cond.methodLink "Lantern" (194 : Nat) ({ cls := "Lantern", name := "runTill", desc := "(II)I" } : Jvm.MethodName)) ∈ bw := mw 473 (by decide +kernel) (by decide +kernel)
theorem m_449 : (Jvm.Cond.instanceMethod ({ cls := "Lantern", name := "runTill", desc := "(II)I" } : Jvm.MethodName)) ∈ bw := mw 475 (by decide +kernel) (by decide +kernel)
theorem m_450 : (Jvm.Cond.code ({ cls := "Lantern", name := "runTill", desc := "(II)I" } : Jvm.MethodName) prog_1_method_23_code (4 : Nat) (Option.some Jvm.ClassFile.FieldType.int)) ∈ bw := mw 476 (by decide +kernel) (by decide +kernel)
theorem m_451 : (Jvm.Cond.methodLink "Lantern" (213 : Nat) ({ cls := "Lantern", name := "doStep", desc := "()Z" } : Jvm.MethodName)) ∈ bw := mw 477 (by decide +kernel) (by decide +kernel)
theorem m_453 : (Jvm.Cond.instanceMethod ({ cls := "Lantern", name := "doStep", desc := "()Z" } : Jvm.MethodName)) ∈ bw := mw 479 (by decide +kernel) (by decide +kernel)
theorem m_454 : (Jvm.Cond.code ({ cls := "Lantern", name := "doStep", desc := "()Z" } : Jvm.MethodName) prog_1_method_24_code (1 : Nat) (Option.some Jvm.ClassFile.FieldType.boolean)) ∈ bw := mw 480 (by decide +kernel) (by decide +kernel)
theorem m_455 : (Jvm.Cond.methodLink "Lantern" (222 : Nat) ({ cls := "Lantern$State", name := "readies", desc := "(LLantern$Program;)Z" } : Jvm.MethodName)) ∈ bw := mw 481 (by decide +kernel) (by decide +kernel)
theorem m_456 : (Jvm.Cond.instanceMethod ({ cls := "Lantern$State", name := "readies", desc := "(LLantern$Program;)Z" } : Jvm.MethodName)) ∈ bw := mw 482 (by decide +kernel) (by decide +kernel)
theorem m_457 : (Jvm.Cond.selects "Lantern$State" ({ cls := "Lantern$State", name := "readies", desc := "(LLantern$Program;)Z" } : Jvm.MethodName) ({ cls := "Lantern$State", name := "readies", desc := "(LLantern$Program;)Z" } : Jvm.MethodName)) ∈ bw := mw 483 (by decide +kernel) (by decide +kernel)
theorem m_458 : (Jvm.Cond.code ({ cls := "Lantern$State", name := "readies", desc := "(LLantern$Program;)Z" } : Jvm.MethodName) prog_7_method_4_code (2 : Nat) (Option.some Jvm.ClassFile.FieldType.boolean)) ∈ bw := mw 484 (by decide +kernel) (by decide +kernel)
theorem m_459 : (Jvm.Cond.methodLink "Lantern$State" (52 : Nat) ({ cls := "Lantern$State", name := "failureOf", desc := "(LLantern$Program;)I" } : Jvm.MethodName)) ∈ bw := mw 485 (by decide +kernel) (by decide +kernel)
theorem m_461 : (Jvm.Cond.instanceMethod ({ cls := "Lantern$State", name := "failureOf", desc := "(LLantern$Program;)I" } : Jvm.MethodName)) ∈ bw := mw 487 (by decide +kernel) (by decide +kernel)
theorem m_462 : (Jvm.Cond.code ({ cls := "Lantern$State", name := "failureOf", desc := "(LLantern$Program;)I" } : Jvm.MethodName) prog_7_method_5_code (3 : Nat) (Option.some Jvm.ClassFile.FieldType.int)) ∈ bw := mw 488 (by decide +kernel) (by decide +kernel)
theorem m_463 : (Jvm.Cond.methodLink "Lantern$State" (56 : Nat) ({ cls := "Lantern$Program", name := "has", desc := "(I)Z" } : Jvm.MethodName)) ∈ bw := mw 489 (by decide +kernel) (by decide +kernel)
theorem m_464 : (Jvm.Cond.instanceMethod ({ cls := "Lantern$Program", name := "has", desc := "(I)Z" } : Jvm.MethodName)) ∈ bw := mw 490 (by decide +kernel) (by decide +kernel)
theorem m_465 : (Jvm.Cond.selects "Lantern$Program" ({ cls := "Lantern$Program", name := "has", desc := "(I)Z" } : Jvm.MethodName) ({ cls := "Lantern$Program", name := "has", desc := "(I)Z" } : Jvm.MethodName)) ∈ bw := mw 491 (by decide +kernel) (by decide +kernel)
theorem m_466 : (Jvm.Cond.code ({ cls := "Lantern$Program", name := "has", desc := "(I)Z" } : Jvm.MethodName) prog_5_method_5_code (2 : Nat) (Option.some Jvm.ClassFile.FieldType.boolean)) ∈ bw := mw 492 (by decide +kernel) (by decide +kernel)
theorem m_467 : (Jvm.Cond.methodLink "Lantern$Program" (38 : Nat) ({ cls := "Lantern$Row", name := "has", desc := "(I)Z" } : Jvm.MethodName)) ∈ bw := mw 493 (by decide +kernel) (by decide +kernel)
theorem m_468 : (Jvm.Cond.instanceMethod ({ cls := "Lantern$Row", name := "has", desc := "(I)Z" } : Jvm.MethodName)) ∈ bw := mw 494 (by decide +kernel) (by decide +kernel)
theorem m_469 : (Jvm.Cond.selects "Lantern$Row" ({ cls := "Lantern$Row", name := "has", desc := "(I)Z" } : Jvm.MethodName) ({ cls := "Lantern$Row", name := "has", desc := "(I)Z" } : Jvm.MethodName)) ∈ bw := mw 495 (by decide +kernel) (by decide +kernel)
theorem m_470 : (Jvm.Cond.code ({ cls := "Lantern$Row", name := "has", desc := "(I)Z" } : Jvm.MethodName) prog_6_method_4_code (2 : Nat) (Option.some Jvm.ClassFile.FieldType.boolean)) ∈ bw := mw 496 (by decide +kernel) (by decide +kernel)
theorem m_471 : (Jvm.Cond.methodLink "Lantern$State" (62 : Nat) ({ cls := "Lantern$Program", name := "codeAt", desc := "(I)I" } : Jvm.MethodName)) ∈ bw := mw 497 (by decide +kernel) (by decide +kernel)
theorem m_472 : (Jvm.Cond.instanceMethod ({ cls := "Lantern$Program", name := "codeAt", desc := "(I)I" } : Jvm.MethodName)) ∈ bw := mw 498 (by decide +kernel) (by decide +kernel)
theorem m_473 : (Jvm.Cond.selects "Lantern$Program" ({ cls := "Lantern$Program", name := "codeAt", desc := "(I)I" } : Jvm.MethodName) ({ cls := "Lantern$Program", name := "codeAt", desc := "(I)I" } : Jvm.MethodName)) ∈ bw := mw 499 (by decide +kernel) (by decide +kernel)
theorem m_474 : (Jvm.Cond.code ({ cls := "Lantern$Program", name := "codeAt", desc := "(I)I" } : Jvm.MethodName) prog_5_method_6_code (2 : Nat) (Option.some Jvm.ClassFile.FieldType.int)) ∈ bw := mw 500 (by decide +kernel) (by decide +kernel)
theorem m_475 : (Jvm.Cond.methodLink "Lantern$Program" (41 : Nat) ({ cls := "Lantern$Row", name := "get", desc := "(I)I" } : Jvm.MethodName)) ∈ bw := mw 501 (by decide +kernel) (by decide +kernel)
theorem m_476 : (Jvm.Cond.instanceMethod ({ cls := "Lantern$Row", name := "get", desc := "(I)I" } : Jvm.MethodName)) ∈ bw := mw 502 (by decide +kernel) (by decide +kernel)
theorem m_477 : (Jvm.Cond.selects "Lantern$Row" ({ cls := "Lantern$Row", name := "get", desc := "(I)I" } : Jvm.MethodName) ({ cls := "Lantern$Row", name := "get", desc := "(I)I" } : Jvm.MethodName)) ∈ bw := mw 503 (by decide +kernel) (by decide +kernel)
theorem m_478 : (Jvm.Cond.code ({ cls := "Lantern$Row", name := "get", desc := "(I)I" } : Jvm.MethodName) prog_6_method_5_code (2 : Nat) (Option.some Jvm.ClassFile.FieldType.int)) ∈ bw := mw 504 (by decide +kernel) (by decide +kernel)
theorem m_479 : (Jvm.Cond.methodLink "Lantern$State" (66 : Nat) ({ cls := "Lantern$Row", name := "size", desc := "()I" } : Jvm.MethodName)) ∈ bw := mw 505 (by decide +kernel) (by decide +kernel)
theorem m_480 : (Jvm.Cond.methodLink "Lantern$State" (70 : Nat) ({ cls := "Lantern$State", name := "needOnStack", desc := "(I)I" } : Jvm.MethodName)) ∈ bw := mw 506 (by decide +kernel) (by decide +kernel)
theorem m_481 : (Jvm.Cond.static ({ cls := "Lantern$State", name := "needOnStack", desc := "(I)I" } : Jvm.MethodName)) ∈ bw := mw 507 (by decide +kernel) (by decide +kernel)
theorem m_482 : (Jvm.Cond.code ({ cls := "Lantern$State", name := "needOnStack", desc := "(I)I" } : Jvm.MethodName) prog_7_method_6_code (1 : Nat) (Option.some Jvm.ClassFile.FieldType.int)) ∈ bw := mw 508 (by decide +kernel) (by decide +kernel)
theorem m_483 : (Jvm.Cond.methodLink "Lantern$State" (73 : Nat) ({ cls := "Lantern$Row", name := "fromTop", desc := "(I)I" } : Jvm.MethodName)) ∈ bw := mw 509 (by decide +kernel) (by decide +kernel)
theorem m_484 : (Jvm.Cond.instanceMethod ({ cls := "Lantern$Row", name := "fromTop", desc := "(I)I" } : Jvm.MethodName)) ∈ bw := mw 510 (by decide +kernel) (by decide +kernel)
theorem m_485 : (Jvm.Cond.selects "Lantern$Row" ({ cls := "Lantern$Row", name := "fromTop", desc := "(I)I" } : Jvm.MethodName) ({ cls := "Lantern$Row", name := "fromTop", desc := "(I)I" } : Jvm.MethodName)) ∈ bw := mw 511 (by decide +kernel) (by decide +kernel)
theorem m_486 : (Jvm.Cond.code ({ cls := "Lantern$Row", name := "fromTop", desc := "(I)I" } : Jvm.MethodName) prog_6_method_6_code (2 : Nat) (Option.some Jvm.ClassFile.FieldType.int)) ∈ bw := mw 512 (by decide +kernel) (by decide +kernel)
theorem m_487 : (Jvm.Cond.methodLink "Lantern$Row" (23 : Nat) ({ cls := "Lantern$Row", name := "get", desc := "(I)I" } : Jvm.MethodName)) ∈ bw := mw 513 (by decide +kernel) (by decide +kernel)
theorem m_488 : (Jvm.Cond.methodLinkNest "Lantern$State" (76 : Nat) ({ cls := "Lantern", name := "isCell", desc := "(I)Z" } : Jvm.MethodName) "Lantern") ∈ bw := mw 514 (by decide +kernel) (by decide +kernel)
theorem m_489 : (Jvm.Cond.static ({ cls := "Lantern", name := "isCell", desc := "(I)Z" } : Jvm.MethodName)) ∈ bw := mw 515 (by decide +kernel) (by decide +kernel)
theorem m_490 : (Jvm.Cond.code ({ cls := "Lantern", name := "isCell", desc := "(I)Z" } : Jvm.MethodName) prog_1_method_12_code (1 : Nat) (Option.some Jvm.ClassFile.FieldType.boolean)) ∈ bw := mw 516 (by decide +kernel) (by decide +kernel)
theorem m_491 : (Jvm.Cond.methodLink "Lantern$State" (79 : Nat) ({ cls := "Lantern$State", name := "isTooFullFor", desc := "(I)Z" } : Jvm.MethodName)) ∈ bw := mw 517 (by decide +kernel) (by decide +kernel)
theorem m_493 : (Jvm.Cond.instanceMethod ({ cls := "Lantern$State", name := "isTooFullFor", desc := "(I)Z" } : Jvm.MethodName)) ∈ bw := mw 519 (by decide +kernel) (by decide +kernel)
theorem m_494 : (Jvm.Cond.code ({ cls := "Lantern$State", name := "isTooFullFor", desc := "(I)Z" } : Jvm.MethodName) prog_7_method_7_code (2 : Nat) (Option.some Jvm.ClassFile.FieldType.boolean)) ∈ bw := mw 520 (by decide +kernel) (by decide +kernel)
theorem m_495 : (Jvm.Cond.methodLink "Lantern$State" (82 : Nat) ({ cls := "Lantern$Row", name := "isFull", desc := "()Z" } : Jvm.MethodName)) ∈ bw := mw 521 (by decide +kernel) (by decide +kernel)
theorem m_496 : (Jvm.Cond.methodLink "Lantern" (229 : Nat) ({ cls := "Lantern$Program", name := "countTime", desc := "(I)V" } : Jvm.MethodName)) ∈ bw := mw 522 (by decide +kernel) (by decide +kernel)
theorem m_497 : (Jvm.Cond.instanceMethod ({ cls := "Lantern$Program", name := "countTime", desc := "(I)V" } : Jvm.MethodName)) ∈ bw := mw 523 (by decide +kernel) (by decide +kernel)
theorem m_498 : (Jvm.Cond.selects "Lantern$Program" ({ cls := "Lantern$Program", name := "countTime", desc := "(I)V" } : Jvm.MethodName) ({ cls := "Lantern$Program", name := "countTime", desc := "(I)V" } : Jvm.MethodName)) ∈ bw := mw 524 (by decide +kernel) (by decide +kernel)
theorem m_499 : (Jvm.Cond.code ({ cls := "Lantern$Program", name := "countTime", desc := "(I)V" } : Jvm.MethodName) prog_5_method_11_code (2 : Nat) (Option.none : Option Jvm.ClassFile.FieldType)) ∈ bw := mw 525 (by decide +kernel) (by decide +kernel)
theorem m_500 : (Jvm.Cond.methodLink "Lantern" (232 : Nat) ({ cls := "Lantern$Past", name := "newest", desc := "()LLantern$Moment;" } : Jvm.MethodName)) ∈ bw := mw 526 (by decide +kernel) (by decide +kernel)
theorem m_501 : (Jvm.Cond.instanceMethod ({ cls := "Lantern$Past", name := "newest", desc := "()LLantern$Moment;" } : Jvm.MethodName)) ∈ bw := mw 527 (by decide +kernel) (by decide +kernel)
theorem m_502 : (Jvm.Cond.selects "Lantern$Past" ({ cls := "Lantern$Past", name := "newest", desc := "()LLantern$Moment;" } : Jvm.MethodName) ({ cls := "Lantern$Past", name := "newest", desc := "()LLantern$Moment;" } : Jvm.MethodName)) ∈ bw := mw 528 (by decide +kernel) (by decide +kernel)
theorem m_503 : (Jvm.Cond.code ({ cls := "Lantern$Past", name := "newest", desc := "()LLantern$Moment;" } : Jvm.MethodName) prog_3_method_4_code (1 : Nat) (Option.some (Jvm.ClassFile.FieldType.object "Lantern$Moment"))) ∈ bw := mw 529 (by decide +kernel) (by decide +kernel)
theorem m_504 : (Jvm.Cond.methodLink "Lantern" (235 : Nat) ({ cls := "Lantern$State", name := "describe", desc := "(LLantern$Moment;LLantern$Program;)V" } : Jvm.MethodName)) ∈ bw := mw 530 (by decide +kernel) (by decide +kernel)
theorem m_505 : (Jvm.Cond.instanceMethod ({ cls := "Lantern$State", name := "describe", desc := "(LLantern$Moment;LLantern$Program;)V" } : Jvm.MethodName)) ∈ bw := mw 531 (by decide +kernel) (by decide +kernel)
theorem m_506 : (Jvm.Cond.selects "Lantern$State" ({ cls := "Lantern$State", name := "describe", desc := "(LLantern$Moment;LLantern$Program;)V" } : Jvm.MethodName) ({ cls := "Lantern$State", name := "describe", desc := "(LLantern$Moment;LLantern$Program;)V" } : Jvm.MethodName)) ∈ bw := mw 532 (by decide +kernel) (by decide +kernel)
theorem m_507 : (Jvm.Cond.code ({ cls := "Lantern$State", name := "describe", desc := "(LLantern$Moment;LLantern$Program;)V" } : Jvm.MethodName) prog_7_method_14_code (4 : Nat) (Option.none : Option Jvm.ClassFile.FieldType)) ∈ bw := mw 533 (by decide +kernel) (by decide +kernel)
theorem m_508 : (Jvm.Cond.methodLink "Lantern$State" (86 : Nat) ({ cls := "Lantern$Program", name := "numberAt", desc := "(I)I" } : Jvm.MethodName)) ∈ bw := mw 534 (by decide +kernel) (by decide +kernel)
theorem m_509 : (Jvm.Cond.instanceMethod ({ cls := "Lantern$Program", name := "numberAt", desc := "(I)I" } : Jvm.MethodName)) ∈ bw := mw 535 (by decide +kernel) (by decide +kernel)
theorem m_510 : (Jvm.Cond.selects "Lantern$Program" ({ cls := "Lantern$Program", name := "numberAt", desc := "(I)I" } : Jvm.MethodName) ({ cls := "Lantern$Program", name := "numberAt", desc := "(I)I" } : Jvm.MethodName)) ∈ bw := mw 536 (by decide +kernel) (by decide +kernel)
theorem m_511 : (Jvm.Cond.code ({ cls := "Lantern$Program", name := "numberAt", desc := "(I)I" } : Jvm.MethodName) prog_5_method_7_code (2 : Nat) (Option.some Jvm.ClassFile.FieldType.int)) ∈ bw := mw 537 (by decide +kernel) (by decide +kernel)
theorem m_512 : (Jvm.Cond.methodLink "Lantern$State" (102 : Nat) ({ cls := "Lantern$Row", name := "get", desc := "(I)I" } : Jvm.MethodName)) ∈ bw := mw 538 (by decide +kernel) (by decide +kernel)
theorem m_513 : (Jvm.Cond.methodLink "Lantern$State" (149 : Nat) ({ cls := "Lantern$Moment", name := "describeStore", desc := "(III)V" } : Jvm.MethodName)) ∈ bw := mw 539 (by decide +kernel) (by decide +kernel)
theorem m_514 : (Jvm.Cond.instanceMethod ({ cls := "Lantern$Moment", name := "describeStore", desc := "(III)V" } : Jvm.MethodName)) ∈ bw := mw 540 (by decide +kernel) (by decide +kernel)
theorem m_515 : (Jvm.Cond.selects "Lantern$Moment" ({ cls := "Lantern$Moment", name := "describeStore", desc := "(III)V" } : Jvm.MethodName) ({ cls := "Lantern$Moment", name := "describeStore", desc := "(III)V" } : Jvm.MethodName)) ∈ bw := mw 541 (by decide +kernel) (by decide +kernel)
theorem m_516 : (Jvm.Cond.code ({ cls := "Lantern$Moment", name := "describeStore", desc := "(III)V" } : Jvm.MethodName) prog_2_method_2_code (4 : Nat) (Option.none : Option Jvm.ClassFile.FieldType)) ∈ bw := mw 542 (by decide +kernel) (by decide +kernel)
theorem m_517 : (Jvm.Cond.methodLink "Lantern" (239 : Nat) ({ cls := "Lantern$State", name := "perform", desc := "(LLantern$Program;LLantern$Row;)V" } : Jvm.MethodName)) ∈ bw := mw 543 (by decide +kernel) (by decide +kernel)
theorem m_518 : (Jvm.Cond.instanceMethod ({ cls := "Lantern$State", name := "perform", desc := "(LLantern$Program;LLantern$Row;)V" } : Jvm.MethodName)) ∈ bw := mw 544 (by decide +kernel) (by decide +kernel)
theorem m_519 : (Jvm.Cond.selects "Lantern$State" ({ cls := "Lantern$State", name := "perform", desc := "(LLantern$Program;LLantern$Row;)V" } : Jvm.MethodName) ({ cls := "Lantern$State", name := "perform", desc := "(LLantern$Program;LLantern$Row;)V" } : Jvm.MethodName)) ∈ bw := mw 545 (by decide +kernel) (by decide +kernel)
theorem m_520 : (Jvm.Cond.code ({ cls := "Lantern$State", name := "perform", desc := "(LLantern$Program;LLantern$Row;)V" } : Jvm.MethodName) prog_7_method_8_code (6 : Nat) (Option.none : Option Jvm.ClassFile.FieldType)) ∈ bw := mw 546 (by decide +kernel) (by decide +kernel)
theorem m_521 : (Jvm.Cond.methodLink "Lantern$State" (89 : Nat) ({ cls := "Lantern$Row", name := "push", desc := "(I)V" } : Jvm.MethodName)) ∈ bw := mw 547 (by decide +kernel) (by decide +kernel)
theorem m_522 : (Jvm.Cond.methodLink "Lantern$State" (92 : Nat) ({ cls := "Lantern$Row", name := "pop", desc := "()I" } : Jvm.MethodName)) ∈ bw := mw 548 (by decide +kernel) (by decide +kernel)
theorem m_523 : (Jvm.Cond.instanceMethod ({ cls := "Lantern$Row", name := "pop", desc := "()I" } : Jvm.MethodName)) ∈ bw := mw 549 (by decide +kernel) (by decide +kernel)
theorem m_524 : (Jvm.Cond.selects "Lantern$Row" ({ cls := "Lantern$Row", name := "pop", desc := "()I" } : Jvm.MethodName) ({ cls := "Lantern$Row", name := "pop", desc := "()I" } : Jvm.MethodName)) ∈ bw := mw 550 (by decide +kernel) (by decide +kernel)
theorem m_525 : (Jvm.Cond.code ({ cls := "Lantern$Row", name := "pop", desc := "()I" } : Jvm.MethodName) prog_6_method_10_code (1 : Nat) (Option.some Jvm.ClassFile.FieldType.int)) ∈ bw := mw 551 (by decide +kernel) (by decide +kernel)
theorem m_526 : (Jvm.Cond.methodLink "Lantern$State" (95 : Nat) ({ cls := "Lantern$State", name := "swap", desc := "()V" } : Jvm.MethodName)) ∈ bw := mw 552 (by decide +kernel) (by decide +kernel)
theorem m_528 : (Jvm.Cond.instanceMethod ({ cls := "Lantern$State", name := "swap", desc := "()V" } : Jvm.MethodName)) ∈ bw := mw 554 (by decide +kernel) (by decide +kernel)
theorem m_529 : (Jvm.Cond.code ({ cls := "Lantern$State", name := "swap", desc := "()V" } : Jvm.MethodName) prog_7_method_9_code (3 : Nat) (Option.none : Option Jvm.ClassFile.FieldType)) ∈ bw := mw 555 (by decide +kernel) (by decide +kernel)
theorem m_530 : (Jvm.Cond.methodLinkNest "Lantern$State" (98 : Nat) ({ cls := "Lantern", name := "truth", desc := "(Z)I" } : Jvm.MethodName) "Lantern") ∈ bw := mw 556 (by decide +kernel) (by decide +kernel)
theorem m_531 : (Jvm.Cond.static ({ cls := "Lantern", name := "truth", desc := "(Z)I" } : Jvm.MethodName)) ∈ bw := mw 557 (by decide +kernel) (by decide +kernel)
theorem m_532 : (Jvm.Cond.code ({ cls := "Lantern", name := "truth", desc := "(Z)I" } : Jvm.MethodName) prog_1_method_40_code (1 : Nat) (Option.some Jvm.ClassFile.FieldType.int)) ∈ bw := mw 558 (by decide +kernel) (by decide +kernel)
theorem m_533 : (Jvm.Cond.methodLink "Lantern$State" (105 : Nat) ({ cls := "Lantern$Row", name := "put", desc := "(II)V" } : Jvm.MethodName)) ∈ bw := mw 559 (by decide +kernel) (by decide +kernel)
theorem m_534 : (Jvm.Cond.methodLink "Lantern$State" (109 : Nat) ({ cls := "Lantern$State", name := "storeAt", desc := "()V" } : Jvm.MethodName)) ∈ bw := mw 560 (by decide +kernel) (by decide +kernel)
theorem m_536 : (Jvm.Cond.instanceMethod ({ cls := "Lantern$State", name := "storeAt", desc := "()V" } : Jvm.MethodName)) ∈ bw := mw 562 (by decide +kernel) (by decide +kernel)
theorem m_537 : (Jvm.Cond.code ({ cls := "Lantern$State", name := "storeAt", desc := "()V" } : Jvm.MethodName) prog_7_method_10_code (2 : Nat) (Option.none : Option Jvm.ClassFile.FieldType)) ∈ bw := mw 563 (by decide +kernel) (by decide +kernel)
theorem m_538 : (Jvm.Cond.methodLink "Lantern$State" (112 : Nat) ({ cls := "Lantern$State", name := "readFrom", desc := "(LLantern$Row;)I" } : Jvm.MethodName)) ∈ bw := mw 564 (by decide +kernel) (by decide +kernel)
theorem m_540 : (Jvm.Cond.instanceMethod ({ cls := "Lantern$State", name := "readFrom", desc := "(LLantern$Row;)I" } : Jvm.MethodName)) ∈ bw := mw 566 (by decide +kernel) (by decide +kernel)
theorem m_541 : (Jvm.Cond.code ({ cls := "Lantern$State", name := "readFrom", desc := "(LLantern$Row;)I" } : Jvm.MethodName) prog_7_method_11_code (2 : Nat) (Option.some Jvm.ClassFile.FieldType.int)) ∈ bw := mw 567 (by decide +kernel) (by decide +kernel)
theorem m_542 : (Jvm.Cond.methodLink "Lantern$State" (119 : Nat) ({ cls := "Lantern$Row", name := "has", desc := "(I)Z" } : Jvm.MethodName)) ∈ bw := mw 568 (by decide +kernel) (by decide +kernel)
theorem m_543 : (Jvm.Cond.methodLink "Lantern$State" (116 : Nat) ({ cls := "Lantern$State", name := "reckon", desc := "(I)V" } : Jvm.MethodName)) ∈ bw := mw 569 (by decide +kernel) (by decide +kernel)
theorem m_545 : (Jvm.Cond.instanceMethod ({ cls := "Lantern$State", name := "reckon", desc := "(I)V" } : Jvm.MethodName)) ∈ bw := mw 571 (by decide +kernel) (by decide +kernel)
theorem m_546 : (Jvm.Cond.code ({ cls := "Lantern$State", name := "reckon", desc := "(I)V" } : Jvm.MethodName) prog_7_method_12_code (4 : Nat) (Option.none : Option Jvm.ClassFile.FieldType)) ∈ bw := mw 572 (by decide +kernel) (by decide +kernel)
theorem m_547 : (Jvm.Cond.methodLink "Lantern$State" (120 : Nat) ({ cls := "Lantern$State", name := "reckoned", desc := "(III)I" } : Jvm.MethodName)) ∈ bw := mw 573 (by decide +kernel) (by decide +kernel)
theorem m_548 : (Jvm.Cond.static ({ cls := "Lantern$State", name := "reckoned", desc := "(III)I" } : Jvm.MethodName)) ∈ bw := mw 574 (by decide +kernel) (by decide +kernel)
theorem m_549 : (Jvm.Cond.code ({ cls := "Lantern$State", name := "reckoned", desc := "(III)I" } : Jvm.MethodName) prog_7_method_13_code (3 : Nat) (Option.some Jvm.ClassFile.FieldType.int)) ∈ bw := mw 575 (by decide +kernel) (by decide +kernel)
theorem m_550 : (Jvm.Cond.methodLink "Lantern" (219 : Nat) ({ cls := "Lantern", name := "stopsRun", desc := "(I)Z" } : Jvm.MethodName)) ∈ bw := mw 576 (by decide +kernel) (by decide +kernel)
theorem m_552 : (Jvm.Cond.instanceMethod ({ cls := "Lantern", name := "stopsRun", desc := "(I)Z" } : Jvm.MethodName)) ∈ bw := mw 578 (by decide +kernel) (by decide +kernel)
theorem m_553 : (Jvm.Cond.code ({ cls := "Lantern", name := "stopsRun", desc := "(I)Z" } : Jvm.MethodName) prog_1_method_25_code (5 : Nat) (Option.some Jvm.ClassFile.FieldType.boolean)) ∈ bw := mw 579 (by decide +kernel) (by decide +kernel)
theorem m_554 : (Jvm.Cond.methodLink "Lantern" (243 : Nat) ({ cls := "Lantern", name := "watchMet", desc := "()I" } : Jvm.MethodName)) ∈ bw := mw 580 (by decide +kernel) (by decide +kernel)
theorem m_556 : (Jvm.Cond.instanceMethod ({ cls := "Lantern", name := "watchMet", desc := "()I" } : Jvm.MethodName)) ∈ bw := mw 582 (by decide +kernel) (by decide +kernel)
theorem m_557 : (Jvm.Cond.code ({ cls := "Lantern", name := "watchMet", desc := "()I" } : Jvm.MethodName) prog_1_method_26_code (4 : Nat) (Option.some Jvm.ClassFile.FieldType.int)) ∈ bw := mw 583 (by decide +kernel) (by decide +kernel)
theorem m_558 : (Jvm.Cond.methodLink "Lantern" (252 : Nat) ({ cls := "Lantern$Past", name := "ago", desc := "(I)LLantern$Moment;" } : Jvm.MethodName)) ∈ bw := mw 584 (by decide +kernel) (by decide +kernel)
theorem m_559 : (Jvm.Cond.instanceMethod ({ cls := "Lantern$Past", name := "ago", desc := "(I)LLantern$Moment;" } : Jvm.MethodName)) ∈ bw := mw 585 (by decide +kernel) (by decide +kernel)
theorem m_560 : (Jvm.Cond.selects "Lantern$Past" ({ cls := "Lantern$Past", name := "ago", desc := "(I)LLantern$Moment;" } : Jvm.MethodName) ({ cls := "Lantern$Past", name := "ago", desc := "(I)LLantern$Moment;" } : Jvm.MethodName)) ∈ bw := mw 586 (by decide +kernel) (by decide +kernel)
theorem m_561 : (Jvm.Cond.code ({ cls := "Lantern$Past", name := "ago", desc := "(I)LLantern$Moment;" } : Jvm.MethodName) prog_3_method_6_code (2 : Nat) (Option.some (Jvm.ClassFile.FieldType.object "Lantern$Moment"))) ∈ bw := mw 587 (by decide +kernel) (by decide +kernel)
theorem m_562 : (Jvm.Cond.methodLink "Lantern" (256 : Nat) ({ cls := "Lantern", name := "watchNumbered", desc := "(I)LLantern$Watch;" } : Jvm.MethodName)) ∈ bw := mw 588 (by decide +kernel) (by decide +kernel)
theorem m_564 : (Jvm.Cond.instanceMethod ({ cls := "Lantern", name := "watchNumbered", desc := "(I)LLantern$Watch;" } : Jvm.MethodName)) ∈ bw := mw 590 (by decide +kernel) (by decide +kernel)
theorem m_565 : (Jvm.Cond.code ({ cls := "Lantern", name := "watchNumbered", desc := "(I)LLantern$Watch;" } : Jvm.MethodName) prog_1_method_15_code (2 : Nat) (Option.some (Jvm.ClassFile.FieldType.object "Lantern$Watch"))) ∈ bw := mw 591 (by decide +kernel) (by decide +kernel)
theorem m_566 : (Jvm.Cond.methodLink "Lantern" (260 : Nat) ({ cls := "Lantern$Watch", name := "isMetBy", desc := "(LLantern$Moment;)Z" } : Jvm.MethodName)) ∈ bw := mw 592 (by decide +kernel) (by decide +kernel)
theorem m_567 : (Jvm.Cond.instanceMethod ({ cls := "Lantern$Watch", name := "isMetBy", desc := "(LLantern$Moment;)Z" } : Jvm.MethodName)) ∈ bw := mw 593 (by decide +kernel) (by decide +kernel)
theorem m_568 : (Jvm.Cond.selects "Lantern$Watch" ({ cls := "Lantern$Watch", name := "isMetBy", desc := "(LLantern$Moment;)Z" } : Jvm.MethodName) ({ cls := "Lantern$Watch", name := "isMetBy", desc := "(LLantern$Moment;)Z" } : Jvm.MethodName)) ∈ bw := mw 594 (by decide +kernel) (by decide +kernel)
theorem m_569 : (Jvm.Cond.code ({ cls := "Lantern$Watch", name := "isMetBy", desc := "(LLantern$Moment;)Z" } : Jvm.MethodName) prog_9_method_3_code (2 : Nat) (Option.some Jvm.ClassFile.FieldType.boolean)) ∈ bw := mw 595 (by decide +kernel) (by decide +kernel)
theorem m_570 : (Jvm.Cond.methodLink "Lantern$Watch" (21 : Nat) ({ cls := "Lantern$Moment", name := "changed", desc := "(I)Z" } : Jvm.MethodName)) ∈ bw := mw 596 (by decide +kernel) (by decide +kernel)
theorem m_571 : (Jvm.Cond.instanceMethod ({ cls := "Lantern$Moment", name := "changed", desc := "(I)Z" } : Jvm.MethodName)) ∈ bw := mw 597 (by decide +kernel) (by decide +kernel)
theorem m_572 : (Jvm.Cond.selects "Lantern$Moment" ({ cls := "Lantern$Moment", name := "changed", desc := "(I)Z" } : Jvm.MethodName) ({ cls := "Lantern$Moment", name := "changed", desc := "(I)Z" } : Jvm.MethodName)) ∈ bw := mw 598 (by decide +kernel) (by decide +kernel)
theorem m_573 : (Jvm.Cond.code ({ cls := "Lantern$Moment", name := "changed", desc := "(I)Z" } : Jvm.MethodName) prog_2_method_3_code (2 : Nat) (Option.some Jvm.ClassFile.FieldType.boolean)) ∈ bw := mw 599 (by decide +kernel) (by decide +kernel)
theorem m_574 : (Jvm.Cond.methodLink "Lantern" (246 : Nat) ({ cls := "Lantern", name := "pointStopping", desc := "()I" } : Jvm.MethodName)) ∈ bw := mw 600 (by decide +kernel) (by decide +kernel)
theorem m_576 : (Jvm.Cond.instanceMethod ({ cls := "Lantern", name := "pointStopping", desc := "()I" } : Jvm.MethodName)) ∈ bw := mw 602 (by decide +kernel) (by decide +kernel)
theorem m_577 : (Jvm.Cond.code ({ cls := "Lantern", name := "pointStopping", desc := "()I" } : Jvm.MethodName) prog_1_method_27_code (4 : Nat) (Option.some Jvm.ClassFile.FieldType.int)) ∈ bw := mw 603 (by decide +kernel) (by decide +kernel)
theorem m_578 : (Jvm.Cond.methodLink "Lantern" (151 : Nat) ({ cls := "Lantern", name := "pointNumbered", desc := "(I)LLantern$Point;" } : Jvm.MethodName)) ∈ bw := mw 604 (by decide +kernel) (by decide +kernel)
theorem m_580 : (Jvm.Cond.instanceMethod ({ cls := "Lantern", name := "pointNumbered", desc := "(I)LLantern$Point;" } : Jvm.MethodName)) ∈ bw := mw 606 (by decide +kernel) (by decide +kernel)
theorem m_581 : (Jvm.Cond.code ({ cls := "Lantern", name := "pointNumbered", desc := "(I)LLantern$Point;" } : Jvm.MethodName) prog_1_method_14_code (2 : Nat) (Option.some (Jvm.ClassFile.FieldType.object "Lantern$Point"))) ∈ bw := mw 607 (by decide +kernel) (by decide +kernel)
theorem m_582 : (Jvm.Cond.methodLink "Lantern" (263 : Nat) ({ cls := "Lantern$Point", name := "isHit", desc := "(LLantern$State;)Z" } : Jvm.MethodName)) ∈ bw := mw 608 (by decide +kernel) (by decide +kernel)
theorem m_583 : (Jvm.Cond.instanceMethod ({ cls := "Lantern$Point", name := "isHit", desc := "(LLantern$State;)Z" } : Jvm.MethodName)) ∈ bw := mw 609 (by decide +kernel) (by decide +kernel)
theorem m_584 : (Jvm.Cond.selects "Lantern$Point" ({ cls := "Lantern$Point", name := "isHit", desc := "(LLantern$State;)Z" } : Jvm.MethodName) ({ cls := "Lantern$Point", name := "isHit", desc := "(LLantern$State;)Z" } : Jvm.MethodName)) ∈ bw := mw 610 (by decide +kernel) (by decide +kernel)
theorem m_585 : (Jvm.Cond.code ({ cls := "Lantern$Point", name := "isHit", desc := "(LLantern$State;)Z" } : Jvm.MethodName) prog_4_method_3_code (2 : Nat) (Option.some Jvm.ClassFile.FieldType.boolean)) ∈ bw := mw 611 (by decide +kernel) (by decide +kernel)
theorem m_586 : (Jvm.Cond.methodLink "Lantern$Point" (37 : Nat) ({ cls := "Lantern$Row", name := "get", desc := "(I)I" } : Jvm.MethodName)) ∈ bw := mw 612 (by decide +kernel) (by decide +kernel)
theorem m_587 : (Jvm.Cond.methodLink "Lantern$Point" (43 : Nat) ({ cls := "Lantern$Point", name := "holds", desc := "(I)Z" } : Jvm.MethodName)) ∈ bw := mw 613 (by decide +kernel) (by decide +kernel)
theorem m_589 : (Jvm.Cond.instanceMethod ({ cls := "Lantern$Point", name := "holds", desc := "(I)Z" } : Jvm.MethodName)) ∈ bw := mw 615 (by decide +kernel) (by decide +kernel)
theorem m_590 : (Jvm.Cond.code ({ cls := "Lantern$Point", name := "holds", desc := "(I)Z" } : Jvm.MethodName) prog_4_method_4_code (2 : Nat) (Option.some Jvm.ClassFile.FieldType.boolean)) ∈ bw := mw 616 (by decide +kernel) (by decide +kernel)
theorem m_591 : (Jvm.Cond.methodLink "Lantern" (267 : Nat) ({ cls := "Lantern$Point", name := "letsPass", desc := "()Z" } : Jvm.MethodName)) ∈ bw := mw 617 (by decide +kernel) (by decide +kernel)
theorem m_592 : (Jvm.Cond.instanceMethod ({ cls := "Lantern$Point", name := "letsPass", desc := "()Z" } : Jvm.MethodName)) ∈ bw := mw 618 (by decide +kernel) (by decide +kernel)
theorem m_593 : (Jvm.Cond.selects "Lantern$Point" ({ cls := "Lantern$Point", name := "letsPass", desc := "()Z" } : Jvm.MethodName) ({ cls := "Lantern$Point", name := "letsPass", desc := "()Z" } : Jvm.MethodName)) ∈ bw := mw 619 (by decide +kernel) (by decide +kernel)
theorem m_594 : (Jvm.Cond.code ({ cls := "Lantern$Point", name := "letsPass", desc := "()Z" } : Jvm.MethodName) prog_4_method_5_code (1 : Nat) (Option.some Jvm.ClassFile.FieldType.boolean)) ∈ bw := mw 620 (by decide +kernel) (by decide +kernel)
theorem m_595 : (Jvm.Cond.methodLink "LanternLaw" (74 : Nat) ({ cls := "Lantern", name := "back", desc := "(I)I" } : Jvm.MethodName)) ∈ bw := mw 621 (by decide +kernel) (by decide +kernel)
theorem m_596 : (Jvm.Cond.instanceMethod ({ cls := "Lantern", name := "back", desc := "(I)I" } : Jvm.MethodName)) ∈ bw := mw 622 (by decide +kernel) (by decide +kernel)
theorem m_597 : (Jvm.Cond.selects "Lantern" ({ cls := "Lantern", name := "back", desc := "(I)I" } : Jvm.MethodName) ({ cls := "Lantern", name := "back", desc := "(I)I" } : Jvm.MethodName)) ∈ bw := mw 623 (by decide +kernel) (by decide +kernel)
theorem m_598 : (Jvm.Cond.code ({ cls := "Lantern", name := "back", desc := "(I)I" } : Jvm.MethodName) prog_1_method_19_code (3 : Nat) (Option.some Jvm.ClassFile.FieldType.int)) ∈ bw := mw 624 (by decide +kernel) (by decide +kernel)
theorem m_600 : (Jvm.Cond.methodLink "Lantern" (205 : Nat) ({ cls := "Lantern", name := "goBack", desc := "()LLantern$Moment;" } : Jvm.MethodName)) ∈ bw := mw 626 (by decide +kernel) (by decide +kernel)
theorem m_602 : (Jvm.Cond.instanceMethod ({ cls := "Lantern", name := "goBack", desc := "()LLantern$Moment;" } : Jvm.MethodName)) ∈ bw := mw 628 (by decide +kernel) (by decide +kernel)
theorem m_603 : (Jvm.Cond.code ({ cls := "Lantern", name := "goBack", desc := "()LLantern$Moment;" } : Jvm.MethodName) prog_1_method_28_code (2 : Nat) (Option.some (Jvm.ClassFile.FieldType.object "Lantern$Moment"))) ∈ bw := mw 629 (by decide +kernel) (by decide +kernel)
theorem m_604 : (Jvm.Cond.methodLink "Lantern" (270 : Nat) ({ cls := "Lantern$State", name := "goBackTo", desc := "(LLantern$Moment;)V" } : Jvm.MethodName)) ∈ bw := mw 630 (by decide +kernel) (by decide +kernel)
theorem m_605 : (Jvm.Cond.instanceMethod ({ cls := "Lantern$State", name := "goBackTo", desc := "(LLantern$Moment;)V" } : Jvm.MethodName)) ∈ bw := mw 631 (by decide +kernel) (by decide +kernel)
theorem m_606 : (Jvm.Cond.selects "Lantern$State" ({ cls := "Lantern$State", name := "goBackTo", desc := "(LLantern$Moment;)V" } : Jvm.MethodName) ({ cls := "Lantern$State", name := "goBackTo", desc := "(LLantern$Moment;)V" } : Jvm.MethodName)) ∈ bw := mw 632 (by decide +kernel) (by decide +kernel)
theorem m_607 : (Jvm.Cond.code ({ cls := "Lantern$State", name := "goBackTo", desc := "(LLantern$Moment;)V" } : Jvm.MethodName) prog_7_method_15_code (2 : Nat) (Option.none : Option Jvm.ClassFile.FieldType)) ∈ bw := mw 633 (by decide +kernel) (by decide +kernel)
theorem m_608 : (Jvm.Cond.methodLink "Lantern$State" (153 : Nat) ({ cls := "Lantern$Row", name := "putFromTop", desc := "(II)V" } : Jvm.MethodName)) ∈ bw := mw 634 (by decide +kernel) (by decide +kernel)
theorem m_609 : (Jvm.Cond.instanceMethod ({ cls := "Lantern$Row", name := "putFromTop", desc := "(II)V" } : Jvm.MethodName)) ∈ bw := mw 635 (by decide +kernel) (by decide +kernel)
theorem m_610 : (Jvm.Cond.selects "Lantern$Row" ({ cls := "Lantern$Row", name := "putFromTop", desc := "(II)V" } : Jvm.MethodName) ({ cls := "Lantern$Row", name := "putFromTop", desc := "(II)V" } : Jvm.MethodName)) ∈ bw := mw 636 (by decide +kernel) (by decide +kernel)
theorem m_611 : (Jvm.Cond.code ({ cls := "Lantern$Row", name := "putFromTop", desc := "(II)V" } : Jvm.MethodName) prog_6_method_8_code (3 : Nat) (Option.none : Option Jvm.ClassFile.FieldType)) ∈ bw := mw 637 (by decide +kernel) (by decide +kernel)
theorem m_612 : (Jvm.Cond.methodLink "Lantern$Row" (27 : Nat) ({ cls := "Lantern$Row", name := "put", desc := "(II)V" } : Jvm.MethodName)) ∈ bw := mw 638 (by decide +kernel) (by decide +kernel)
theorem m_613 : (Jvm.Cond.methodLink "Lantern" (274 : Nat) ({ cls := "Lantern$Past", name := "dropLatest", desc := "()V" } : Jvm.MethodName)) ∈ bw := mw 639 (by decide +kernel) (by decide +kernel)
theorem m_614 : (Jvm.Cond.instanceMethod ({ cls := "Lantern$Past", name := "dropLatest", desc := "()V" } : Jvm.MethodName)) ∈ bw := mw 640 (by decide +kernel) (by decide +kernel)
theorem m_615 : (Jvm.Cond.selects "Lantern$Past" ({ cls := "Lantern$Past", name := "dropLatest", desc := "()V" } : Jvm.MethodName) ({ cls := "Lantern$Past", name := "dropLatest", desc := "()V" } : Jvm.MethodName)) ∈ bw := mw 641 (by decide +kernel) (by decide +kernel)
theorem m_616 : (Jvm.Cond.code ({ cls := "Lantern$Past", name := "dropLatest", desc := "()V" } : Jvm.MethodName) prog_3_method_5_code (1 : Nat) (Option.none : Option Jvm.ClassFile.FieldType)) ∈ bw := mw 642 (by decide +kernel) (by decide +kernel)
theorem m_617 : (Jvm.Cond.methodLink "LanternLaw" (30 : Nat) ({ cls := "Lantern", name := "told", desc := "(I)I" } : Jvm.MethodName)) ∈ bw := mw 643 (by decide +kernel) (by decide +kernel)
theorem m_618 : (Jvm.Cond.instanceMethod ({ cls := "Lantern", name := "told", desc := "(I)I" } : Jvm.MethodName)) ∈ bw := mw 644 (by decide +kernel) (by decide +kernel)
theorem m_619 : (Jvm.Cond.selects "Lantern" ({ cls := "Lantern", name := "told", desc := "(I)I" } : Jvm.MethodName) ({ cls := "Lantern", name := "told", desc := "(I)I" } : Jvm.MethodName)) ∈ bw := mw 645 (by decide +kernel) (by decide +kernel)
theorem m_620 : (Jvm.Cond.code ({ cls := "Lantern", name := "told", desc := "(I)I" } : Jvm.MethodName) prog_1_method_30_code (2 : Nat) (Option.some Jvm.ClassFile.FieldType.int)) ∈ bw := mw 646 (by decide +kernel) (by decide +kernel)
theorem m_621 : (Jvm.Cond.methodLink "Lantern" (295 : Nat) ({ cls := "Lantern$Past", name := "size", desc := "()I" } : Jvm.MethodName)) ∈ bw := mw 647 (by decide +kernel) (by decide +kernel)
theorem m_622 : (Jvm.Cond.instanceMethod ({ cls := "Lantern$Past", name := "size", desc := "()I" } : Jvm.MethodName)) ∈ bw := mw 648 (by decide +kernel) (by decide +kernel)
theorem m_623 : (Jvm.Cond.selects "Lantern$Past" ({ cls := "Lantern$Past", name := "size", desc := "()I" } : Jvm.MethodName) ({ cls := "Lantern$Past", name := "size", desc := "()I" } : Jvm.MethodName)) ∈ bw := mw 649 (by decide +kernel) (by decide +kernel)
theorem m_624 : (Jvm.Cond.code ({ cls := "Lantern$Past", name := "size", desc := "()I" } : Jvm.MethodName) prog_3_method_2_code (1 : Nat) (Option.some Jvm.ClassFile.FieldType.int)) ∈ bw := mw 650 (by decide +kernel) (by decide +kernel)
theorem m_626 : (Jvm.Cond.methodLink "LanternLaw" (34 : Nat) ({ cls := "Lantern", name := "stack", desc := "(I)I" } : Jvm.MethodName)) ∈ bw := mw 652 (by decide +kernel) (by decide +kernel)
theorem m_627 : (Jvm.Cond.instanceMethod ({ cls := "Lantern", name := "stack", desc := "(I)I" } : Jvm.MethodName)) ∈ bw := mw 653 (by decide +kernel) (by decide +kernel)
theorem m_628 : (Jvm.Cond.selects "Lantern" ({ cls := "Lantern", name := "stack", desc := "(I)I" } : Jvm.MethodName) ({ cls := "Lantern", name := "stack", desc := "(I)I" } : Jvm.MethodName)) ∈ bw := mw 654 (by decide +kernel) (by decide +kernel)
theorem m_629 : (Jvm.Cond.code ({ cls := "Lantern", name := "stack", desc := "(I)I" } : Jvm.MethodName) prog_1_method_31_code (2 : Nat) (Option.some Jvm.ClassFile.FieldType.int)) ∈ bw := mw 655 (by decide +kernel) (by decide +kernel)
theorem m_630 : (Jvm.Cond.methodLink "Lantern" (298 : Nat) ({ cls := "Lantern$Row", name := "has", desc := "(I)Z" } : Jvm.MethodName)) ∈ bw := mw 656 (by decide +kernel) (by decide +kernel)
theorem m_647 : (Jvm.Cond.methodLink "Lantern" (301 : Nat) ({ cls := "Lantern$Row", name := "fromTop", desc := "(I)I" } : Jvm.MethodName)) ∈ bw := mw 673 (by decide +kernel) (by decide +kernel)
theorem m_648 : (Jvm.Cond.methodLink "LanternLaw" (37 : Nat) ({ cls := "Lantern", name := "cell", desc := "(I)I" } : Jvm.MethodName)) ∈ bw := mw 674 (by decide +kernel) (by decide +kernel)
theorem m_649 : (Jvm.Cond.instanceMethod ({ cls := "Lantern", name := "cell", desc := "(I)I" } : Jvm.MethodName)) ∈ bw := mw 675 (by decide +kernel) (by decide +kernel)
theorem m_650 : (Jvm.Cond.selects "Lantern" ({ cls := "Lantern", name := "cell", desc := "(I)I" } : Jvm.MethodName) ({ cls := "Lantern", name := "cell", desc := "(I)I" } : Jvm.MethodName)) ∈ bw := mw 676 (by decide +kernel) (by decide +kernel)
theorem m_651 : (Jvm.Cond.code ({ cls := "Lantern", name := "cell", desc := "(I)I" } : Jvm.MethodName) prog_1_method_32_code (2 : Nat) (Option.some Jvm.ClassFile.FieldType.int)) ∈ bw := mw 677 (by decide +kernel) (by decide +kernel)
theorem m_652 : (Jvm.Cond.methodLink "Lantern" (157 : Nat) ({ cls := "Lantern", name := "isCell", desc := "(I)Z" } : Jvm.MethodName)) ∈ bw := mw 678 (by decide +kernel) (by decide +kernel)
theorem m_654 : (Jvm.Cond.methodLink "Lantern" (309 : Nat) ({ cls := "Lantern$Row", name := "get", desc := "(I)I" } : Jvm.MethodName)) ∈ bw := mw 680 (by decide +kernel) (by decide +kernel)
theorem m_655 : (Jvm.Cond.methodLink "LanternLaw" (84 : Nat) ({ cls := "Lantern", name := "ofStep", desc := "(II)I" } : Jvm.MethodName)) ∈ bw := mw 681 (by decide +kernel) (by decide +kernel)
theorem m_656 : (Jvm.Cond.instanceMethod ({ cls := "Lantern", name := "ofStep", desc := "(II)I" } : Jvm.MethodName)) ∈ bw := mw 682 (by decide +kernel) (by decide +kernel)
theorem m_657 : (Jvm.Cond.selects "Lantern" ({ cls := "Lantern", name := "ofStep", desc := "(II)I" } : Jvm.MethodName) ({ cls := "Lantern", name := "ofStep", desc := "(II)I" } : Jvm.MethodName)) ∈ bw := mw 683 (by decide +kernel) (by decide +kernel)
theorem m_658 : (Jvm.Cond.code ({ cls := "Lantern", name := "ofStep", desc := "(II)I" } : Jvm.MethodName) prog_1_method_35_code (3 : Nat) (Option.some Jvm.ClassFile.FieldType.int)) ∈ bw := mw 684 (by decide +kernel) (by decide +kernel)
theorem m_659 : (Jvm.Cond.methodLink "Lantern" (101 : Nat) ({ cls := "Lantern$Program", name := "has", desc := "(I)Z" } : Jvm.MethodName)) ∈ bw := mw 685 (by decide +kernel) (by decide +kernel)
theorem m_661 : (Jvm.Cond.methodLink "Lantern" (110 : Nat) ({ cls := "Lantern$Program", name := "codeAt", desc := "(I)I" } : Jvm.MethodName)) ∈ bw := mw 687 (by decide +kernel) (by decide +kernel)
theorem m_662 : (Jvm.Cond.methodLink "Lantern" (316 : Nat) ({ cls := "Lantern$Program", name := "numberAt", desc := "(I)I" } : Jvm.MethodName)) ∈ bw := mw 688 (by decide +kernel) (by decide +kernel)
theorem m_663 : (Jvm.Cond.methodLink "Lantern" (319 : Nat) ({ cls := "Lantern$Program", name := "timesAt", desc := "(I)I" } : Jvm.MethodName)) ∈ bw := mw 689 (by decide +kernel) (by decide +kernel)
theorem m_664 : (Jvm.Cond.instanceMethod ({ cls := "Lantern$Program", name := "timesAt", desc := "(I)I" } : Jvm.MethodName)) ∈ bw := mw 690 (by decide +kernel) (by decide +kernel)
theorem m_665 : (Jvm.Cond.selects "Lantern$Program" ({ cls := "Lantern$Program", name := "timesAt", desc := "(I)I" } : Jvm.MethodName) ({ cls := "Lantern$Program", name := "timesAt", desc := "(I)I" } : Jvm.MethodName)) ∈ bw := mw 691 (by decide +kernel) (by decide +kernel)
theorem m_666 : (Jvm.Cond.code ({ cls := "Lantern$Program", name := "timesAt", desc := "(I)I" } : Jvm.MethodName) prog_5_method_8_code (2 : Nat) (Option.some Jvm.ClassFile.FieldType.int)) ∈ bw := mw 692 (by decide +kernel) (by decide +kernel)
theorem m_668 : (Jvm.Cond.methodLink "LanternLaw" (107 : Nat) ({ cls := "Lantern", name := "ofPoint", desc := "(II)I" } : Jvm.MethodName)) ∈ bw := mw 694 (by decide +kernel) (by decide +kernel)
theorem m_669 : (Jvm.Cond.instanceMethod ({ cls := "Lantern", name := "ofPoint", desc := "(II)I" } : Jvm.MethodName)) ∈ bw := mw 695 (by decide +kernel) (by decide +kernel)
theorem m_670 : (Jvm.Cond.selects "Lantern" ({ cls := "Lantern", name := "ofPoint", desc := "(II)I" } : Jvm.MethodName) ({ cls := "Lantern", name := "ofPoint", desc := "(II)I" } : Jvm.MethodName)) ∈ bw := mw 696 (by decide +kernel) (by decide +kernel)
theorem m_671 : (Jvm.Cond.code ({ cls := "Lantern", name := "ofPoint", desc := "(II)I" } : Jvm.MethodName) prog_1_method_36_code (4 : Nat) (Option.some Jvm.ClassFile.FieldType.int)) ∈ bw := mw 697 (by decide +kernel) (by decide +kernel)
theorem m_673 : (Jvm.Cond.methodLink "Lantern" (327 : Nat) ({ cls := "Lantern", name := "truth", desc := "(Z)I" } : Jvm.MethodName)) ∈ bw := mw 699 (by decide +kernel) (by decide +kernel)
theorem m_675 : (Jvm.Cond.methodLink "LanternLaw" (81 : Nat) ({ cls := "Lantern", name := "then", desc := "(II)I" } : Jvm.MethodName)) ∈ bw := mw 701 (by decide +kernel) (by decide +kernel)
theorem m_676 : (Jvm.Cond.instanceMethod ({ cls := "Lantern", name := "then", desc := "(II)I" } : Jvm.MethodName)) ∈ bw := mw 702 (by decide +kernel) (by decide +kernel)
theorem m_677 : (Jvm.Cond.selects "Lantern" ({ cls := "Lantern", name := "then", desc := "(II)I" } : Jvm.MethodName) ({ cls := "Lantern", name := "then", desc := "(II)I" } : Jvm.MethodName)) ∈ bw := mw 703 (by decide +kernel) (by decide +kernel)
theorem m_678 : (Jvm.Cond.code ({ cls := "Lantern", name := "then", desc := "(II)I" } : Jvm.MethodName) prog_1_method_37_code (4 : Nat) (Option.some Jvm.ClassFile.FieldType.int)) ∈ bw := mw 704 (by decide +kernel) (by decide +kernel)
theorem m_681 : (Jvm.Cond.methodLink "Lantern" (337 : Nat) ({ cls := "Lantern$Past", name := "cellAgo", desc := "(III)I" } : Jvm.MethodName)) ∈ bw := mw 707 (by decide +kernel) (by decide +kernel)
theorem m_682 : (Jvm.Cond.instanceMethod ({ cls := "Lantern$Past", name := "cellAgo", desc := "(III)I" } : Jvm.MethodName)) ∈ bw := mw 708 (by decide +kernel) (by decide +kernel)
theorem m_683 : (Jvm.Cond.selects "Lantern$Past" ({ cls := "Lantern$Past", name := "cellAgo", desc := "(III)I" } : Jvm.MethodName) ({ cls := "Lantern$Past", name := "cellAgo", desc := "(III)I" } : Jvm.MethodName)) ∈ bw := mw 709 (by decide +kernel) (by decide +kernel)
theorem m_684 : (Jvm.Cond.code ({ cls := "Lantern$Past", name := "cellAgo", desc := "(III)I" } : Jvm.MethodName) prog_3_method_8_code (7 : Nat) (Option.some Jvm.ClassFile.FieldType.int)) ∈ bw := mw 710 (by decide +kernel) (by decide +kernel)
theorem m_685 : (Jvm.Cond.methodLink "Lantern$Past" (25 : Nat) ({ cls := "Lantern$Past", name := "ago", desc := "(I)LLantern$Moment;" } : Jvm.MethodName)) ∈ bw := mw 711 (by decide +kernel) (by decide +kernel)
theorem m_686 : (Jvm.Cond.methodLink "Lantern" (341 : Nat) ({ cls := "Lantern", name := "ofNow", desc := "(I)I" } : Jvm.MethodName)) ∈ bw := mw 712 (by decide +kernel) (by decide +kernel)
theorem m_688 : (Jvm.Cond.instanceMethod ({ cls := "Lantern", name := "ofNow", desc := "(I)I" } : Jvm.MethodName)) ∈ bw := mw 714 (by decide +kernel) (by decide +kernel)
theorem m_689 : (Jvm.Cond.code ({ cls := "Lantern", name := "ofNow", desc := "(I)I" } : Jvm.MethodName) prog_1_method_39_code (2 : Nat) (Option.some Jvm.ClassFile.FieldType.int)) ∈ bw := mw 715 (by decide +kernel) (by decide +kernel)
theorem m_690 : (Jvm.Cond.methodLink "Lantern" (344 : Nat) ({ cls := "Lantern$Moment", name := "tellOf", desc := "(I)I" } : Jvm.MethodName)) ∈ bw := mw 716 (by decide +kernel) (by decide +kernel)
theorem m_691 : (Jvm.Cond.instanceMethod ({ cls := "Lantern$Moment", name := "tellOf", desc := "(I)I" } : Jvm.MethodName)) ∈ bw := mw 717 (by decide +kernel) (by decide +kernel)
theorem m_692 : (Jvm.Cond.selects "Lantern$Moment" ({ cls := "Lantern$Moment", name := "tellOf", desc := "(I)I" } : Jvm.MethodName) ({ cls := "Lantern$Moment", name := "tellOf", desc := "(I)I" } : Jvm.MethodName)) ∈ bw := mw 718 (by decide +kernel) (by decide +kernel)
theorem m_693 : (Jvm.Cond.code ({ cls := "Lantern$Moment", name := "tellOf", desc := "(I)I" } : Jvm.MethodName) prog_2_method_4_code (2 : Nat) (Option.some Jvm.ClassFile.FieldType.int)) ∈ bw := mw 719 (by decide +kernel) (by decide +kernel)
theorem m_694 : (Jvm.Cond.methodLink "LanternLaw" (39 : Nat) ({ cls := "Lantern", name := "wroteAgo", desc := "(I)I" } : Jvm.MethodName)) ∈ bw := mw 720 (by decide +kernel) (by decide +kernel)
theorem m_695 : (Jvm.Cond.instanceMethod ({ cls := "Lantern", name := "wroteAgo", desc := "(I)I" } : Jvm.MethodName)) ∈ bw := mw 721 (by decide +kernel) (by decide +kernel)
theorem m_696 : (Jvm.Cond.selects "Lantern" ({ cls := "Lantern", name := "wroteAgo", desc := "(I)I" } : Jvm.MethodName) ({ cls := "Lantern", name := "wroteAgo", desc := "(I)I" } : Jvm.MethodName)) ∈ bw := mw 722 (by decide +kernel) (by decide +kernel)
theorem m_697 : (Jvm.Cond.code ({ cls := "Lantern", name := "wroteAgo", desc := "(I)I" } : Jvm.MethodName) prog_1_method_38_code (2 : Nat) (Option.some Jvm.ClassFile.FieldType.int)) ∈ bw := mw 723 (by decide +kernel) (by decide +kernel)
theorem m_698 : (Jvm.Cond.methodLink "Lantern" (347 : Nat) ({ cls := "Lantern$Past", name := "storedAgo", desc := "(I)I" } : Jvm.MethodName)) ∈ bw := mw 724 (by decide +kernel) (by decide +kernel)
theorem m_699 : (Jvm.Cond.instanceMethod ({ cls := "Lantern$Past", name := "storedAgo", desc := "(I)I" } : Jvm.MethodName)) ∈ bw := mw 725 (by decide +kernel) (by decide +kernel)
theorem m_700 : (Jvm.Cond.selects "Lantern$Past" ({ cls := "Lantern$Past", name := "storedAgo", desc := "(I)I" } : Jvm.MethodName) ({ cls := "Lantern$Past", name := "storedAgo", desc := "(I)I" } : Jvm.MethodName)) ∈ bw := mw 726 (by decide +kernel) (by decide +kernel)
theorem m_701 : (Jvm.Cond.code ({ cls := "Lantern$Past", name := "storedAgo", desc := "(I)I" } : Jvm.MethodName) prog_3_method_9_code (4 : Nat) (Option.some Jvm.ClassFile.FieldType.int)) ∈ bw := mw 727 (by decide +kernel) (by decide +kernel)
theorem m_702 : (Jvm.Cond.methodLink "LanternLaw" (91 : Nat) ({ cls := "Lantern", name := "record", desc := "(I)I" } : Jvm.MethodName)) ∈ bw := mw 728 (by decide +kernel) (by decide +kernel)
theorem m_703 : (Jvm.Cond.instanceMethod ({ cls := "Lantern", name := "record", desc := "(I)I" } : Jvm.MethodName)) ∈ bw := mw 729 (by decide +kernel) (by decide +kernel)
theorem m_704 : (Jvm.Cond.selects "Lantern" ({ cls := "Lantern", name := "record", desc := "(I)I" } : Jvm.MethodName) ({ cls := "Lantern", name := "record", desc := "(I)I" } : Jvm.MethodName)) ∈ bw := mw 730 (by decide +kernel) (by decide +kernel)
theorem m_705 : (Jvm.Cond.code ({ cls := "Lantern", name := "record", desc := "(I)I" } : Jvm.MethodName) prog_1_method_41_code (3 : Nat) (Option.some Jvm.ClassFile.FieldType.int)) ∈ bw := mw 731 (by decide +kernel) (by decide +kernel)
theorem m_706 : (Jvm.Cond.methodLink "Lantern" (350 : Nat) ({ cls := "Lantern", name := "tapeAt", desc := "(I)LLantern$Tape;" } : Jvm.MethodName)) ∈ bw := mw 732 (by decide +kernel) (by decide +kernel)
theorem m_708 : (Jvm.Cond.instanceMethod ({ cls := "Lantern", name := "tapeAt", desc := "(I)LLantern$Tape;" } : Jvm.MethodName)) ∈ bw := mw 734 (by decide +kernel) (by decide +kernel)
theorem m_709 : (Jvm.Cond.code ({ cls := "Lantern", name := "tapeAt", desc := "(I)LLantern$Tape;" } : Jvm.MethodName) prog_1_method_44_code (2 : Nat) (Option.some (Jvm.ClassFile.FieldType.object "Lantern$Tape"))) ∈ bw := mw 735 (by decide +kernel) (by decide +kernel)
theorem m_711 : (Jvm.Cond.methodLink "Lantern" (356 : Nat) ({ cls := "Lantern", name := "beginsAtStart", desc := "()Z" } : Jvm.MethodName)) ∈ bw := mw 737 (by decide +kernel) (by decide +kernel)
theorem m_713 : (Jvm.Cond.instanceMethod ({ cls := "Lantern", name := "beginsAtStart", desc := "()Z" } : Jvm.MethodName)) ∈ bw := mw 739 (by decide +kernel) (by decide +kernel)
theorem m_714 : (Jvm.Cond.code ({ cls := "Lantern", name := "beginsAtStart", desc := "()Z" } : Jvm.MethodName) prog_1_method_45_code (1 : Nat) (Option.some Jvm.ClassFile.FieldType.boolean)) ∈ bw := mw 740 (by decide +kernel) (by decide +kernel)
theorem m_716 : (Jvm.Cond.methodLink "Lantern" (365 : Nat) ({ cls := "Lantern$Row", name := "copyFrom", desc := "(LLantern$Row;)V" } : Jvm.MethodName)) ∈ bw := mw 742 (by decide +kernel) (by decide +kernel)
theorem m_717 : (Jvm.Cond.instanceMethod ({ cls := "Lantern$Row", name := "copyFrom", desc := "(LLantern$Row;)V" } : Jvm.MethodName)) ∈ bw := mw 743 (by decide +kernel) (by decide +kernel)
theorem m_718 : (Jvm.Cond.selects "Lantern$Row" ({ cls := "Lantern$Row", name := "copyFrom", desc := "(LLantern$Row;)V" } : Jvm.MethodName) ({ cls := "Lantern$Row", name := "copyFrom", desc := "(LLantern$Row;)V" } : Jvm.MethodName)) ∈ bw := mw 744 (by decide +kernel) (by decide +kernel)
theorem m_719 : (Jvm.Cond.code ({ cls := "Lantern$Row", name := "copyFrom", desc := "(LLantern$Row;)V" } : Jvm.MethodName) prog_6_method_13_code (2 : Nat) (Option.none : Option Jvm.ClassFile.FieldType)) ∈ bw := mw 745 (by decide +kernel) (by decide +kernel)
theorem m_720 : (Jvm.Cond.methodLink "Lantern$Row" (34 : Nat) ({ cls := "Lantern$Row", name := "resize", desc := "(I)V" } : Jvm.MethodName)) ∈ bw := mw 746 (by decide +kernel) (by decide +kernel)
theorem m_721 : (Jvm.Cond.methodLink "Lantern$Row" (38 : Nat) ({ cls := "java/lang/System", name := "arraycopy", desc := "(Ljava/lang/Object;ILjava/lang/Object;II)V" } : Jvm.MethodName)) ∈ bw := mw 747 (by decide +kernel) (by decide +kernel)
theorem m_722 : (Jvm.Cond.static ({ cls := "java/lang/System", name := "arraycopy", desc := "(Ljava/lang/Object;ILjava/lang/Object;II)V" } : Jvm.MethodName)) ∈ bw := mw 748 (by decide +kernel) (by decide +kernel)
theorem m_723 : (Jvm.Cond.native ({ cls := "java/lang/System", name := "arraycopy", desc := "(Ljava/lang/Object;ILjava/lang/Object;II)V" } : Jvm.MethodName)) ∈ bw := mw 749 (by decide +kernel) (by decide +kernel)
theorem m_724 : (Jvm.Cond.methodLink "Lantern" (372 : Nat) ({ cls := "Lantern$Past", name := "writeSteps", desc := "(LLantern$Row;)V" } : Jvm.MethodName)) ∈ bw := mw 750 (by decide +kernel) (by decide +kernel)
theorem m_725 : (Jvm.Cond.instanceMethod ({ cls := "Lantern$Past", name := "writeSteps", desc := "(LLantern$Row;)V" } : Jvm.MethodName)) ∈ bw := mw 751 (by decide +kernel) (by decide +kernel)
theorem m_726 : (Jvm.Cond.selects "Lantern$Past" ({ cls := "Lantern$Past", name := "writeSteps", desc := "(LLantern$Row;)V" } : Jvm.MethodName) ({ cls := "Lantern$Past", name := "writeSteps", desc := "(LLantern$Row;)V" } : Jvm.MethodName)) ∈ bw := mw 752 (by decide +kernel) (by decide +kernel)
theorem m_727 : (Jvm.Cond.code ({ cls := "Lantern$Past", name := "writeSteps", desc := "(LLantern$Row;)V" } : Jvm.MethodName) prog_3_method_10_code (3 : Nat) (Option.none : Option Jvm.ClassFile.FieldType)) ∈ bw := mw 753 (by decide +kernel) (by decide +kernel)
theorem m_728 : (Jvm.Cond.methodLink "Lantern$Past" (38 : Nat) ({ cls := "Lantern$Row", name := "resize", desc := "(I)V" } : Jvm.MethodName)) ∈ bw := mw 754 (by decide +kernel) (by decide +kernel)
theorem m_729 : (Jvm.Cond.methodLink "Lantern$Past" (44 : Nat) ({ cls := "Lantern$Past", name := "stepAt", desc := "(I)I" } : Jvm.MethodName)) ∈ bw := mw 755 (by decide +kernel) (by decide +kernel)
theorem m_731 : (Jvm.Cond.instanceMethod ({ cls := "Lantern$Past", name := "stepAt", desc := "(I)I" } : Jvm.MethodName)) ∈ bw := mw 757 (by decide +kernel) (by decide +kernel)
theorem m_732 : (Jvm.Cond.code ({ cls := "Lantern$Past", name := "stepAt", desc := "(I)I" } : Jvm.MethodName) prog_3_method_7_code (3 : Nat) (Option.some Jvm.ClassFile.FieldType.int)) ∈ bw := mw 758 (by decide +kernel) (by decide +kernel)
theorem m_733 : (Jvm.Cond.methodLink "Lantern$Past" (48 : Nat) ({ cls := "Lantern$Row", name := "push", desc := "(I)V" } : Jvm.MethodName)) ∈ bw := mw 759 (by decide +kernel) (by decide +kernel)
theorem m_734 : (Jvm.Cond.methodLink "LanternLaw" (97 : Nat) ({ cls := "Lantern", name := "replay", desc := "(I)I" } : Jvm.MethodName)) ∈ bw := mw 760 (by decide +kernel) (by decide +kernel)
theorem m_735 : (Jvm.Cond.instanceMethod ({ cls := "Lantern", name := "replay", desc := "(I)I" } : Jvm.MethodName)) ∈ bw := mw 761 (by decide +kernel) (by decide +kernel)
theorem m_736 : (Jvm.Cond.selects "Lantern" ({ cls := "Lantern", name := "replay", desc := "(I)I" } : Jvm.MethodName) ({ cls := "Lantern", name := "replay", desc := "(I)I" } : Jvm.MethodName)) ∈ bw := mw 762 (by decide +kernel) (by decide +kernel)
theorem m_737 : (Jvm.Cond.code ({ cls := "Lantern", name := "replay", desc := "(I)I" } : Jvm.MethodName) prog_1_method_42_code (4 : Nat) (Option.some Jvm.ClassFile.FieldType.int)) ∈ bw := mw 763 (by decide +kernel) (by decide +kernel)
theorem m_739 : (Jvm.Cond.methodLink "LanternLaw" (94 : Nat) ({ cls := "Lantern", name := "parts", desc := "(I)I" } : Jvm.MethodName)) ∈ bw := mw 765 (by decide +kernel) (by decide +kernel)
theorem m_740 : (Jvm.Cond.instanceMethod ({ cls := "Lantern", name := "parts", desc := "(I)I" } : Jvm.MethodName)) ∈ bw := mw 766 (by decide +kernel) (by decide +kernel)
theorem m_741 : (Jvm.Cond.selects "Lantern" ({ cls := "Lantern", name := "parts", desc := "(I)I" } : Jvm.MethodName) ({ cls := "Lantern", name := "parts", desc := "(I)I" } : Jvm.MethodName)) ∈ bw := mw 767 (by decide +kernel) (by decide +kernel)
theorem m_742 : (Jvm.Cond.code ({ cls := "Lantern", name := "parts", desc := "(I)I" } : Jvm.MethodName) prog_1_method_43_code (3 : Nat) (Option.some Jvm.ClassFile.FieldType.int)) ∈ bw := mw 768 (by decide +kernel) (by decide +kernel)
theorem m_744 : (Jvm.Cond.methodLink "Lantern" (379 : Nat) ({ cls := "Lantern$Past", name := "firstOther", desc := "(LLantern$Row;)I" } : Jvm.MethodName)) ∈ bw := mw 770 (by decide +kernel) (by decide +kernel)
theorem m_745 : (Jvm.Cond.instanceMethod ({ cls := "Lantern$Past", name := "firstOther", desc := "(LLantern$Row;)I" } : Jvm.MethodName)) ∈ bw := mw 771 (by decide +kernel) (by decide +kernel)
theorem m_746 : (Jvm.Cond.selects "Lantern$Past" ({ cls := "Lantern$Past", name := "firstOther", desc := "(LLantern$Row;)I" } : Jvm.MethodName) ({ cls := "Lantern$Past", name := "firstOther", desc := "(LLantern$Row;)I" } : Jvm.MethodName)) ∈ bw := mw 772 (by decide +kernel) (by decide +kernel)
theorem m_747 : (Jvm.Cond.code ({ cls := "Lantern$Past", name := "firstOther", desc := "(LLantern$Row;)I" } : Jvm.MethodName) prog_3_method_11_code (4 : Nat) (Option.some Jvm.ClassFile.FieldType.int)) ∈ bw := mw 773 (by decide +kernel) (by decide +kernel)
theorem m_748 : (Jvm.Cond.methodLink "Lantern$Past" (51 : Nat) ({ cls := "Lantern$Row", name := "size", desc := "()I" } : Jvm.MethodName)) ∈ bw := mw 774 (by decide +kernel) (by decide +kernel)
theorem m_749 : (Jvm.Cond.methodLink "Lantern$Past" (55 : Nat) ({ cls := "java/lang/Math", name := "min", desc := "(II)I" } : Jvm.MethodName)) ∈ bw := mw 775 (by decide +kernel) (by decide +kernel)
theorem m_750 : (Jvm.Cond.methodLink "Lantern$Past" (61 : Nat) ({ cls := "Lantern$Row", name := "get", desc := "(I)I" } : Jvm.MethodName)) ∈ bw := mw 776 (by decide +kernel) (by decide +kernel)
theorem m_751 : (Jvm.Cond.methodLink "LanternLaw" (56 : Nat) ({ cls := "Lantern", name := "endsIn", desc := "(I)I" } : Jvm.MethodName)) ∈ bw := mw 777 (by decide +kernel) (by decide +kernel)
theorem m_752 : (Jvm.Cond.instanceMethod ({ cls := "Lantern", name := "endsIn", desc := "(I)I" } : Jvm.MethodName)) ∈ bw := mw 778 (by decide +kernel) (by decide +kernel)
theorem m_753 : (Jvm.Cond.selects "Lantern" ({ cls := "Lantern", name := "endsIn", desc := "(I)I" } : Jvm.MethodName) ({ cls := "Lantern", name := "endsIn", desc := "(I)I" } : Jvm.MethodName)) ∈ bw := mw 779 (by decide +kernel) (by decide +kernel)
theorem m_754 : (Jvm.Cond.code ({ cls := "Lantern", name := "endsIn", desc := "(I)I" } : Jvm.MethodName) prog_1_method_46_code (3 : Nat) (Option.some Jvm.ClassFile.FieldType.int)) ∈ bw := mw 780 (by decide +kernel) (by decide +kernel)
theorem m_755 : (Jvm.Cond.methodLink "Lantern" (383 : Nat) ({ cls := "Lantern$State", name := "copyFrom", desc := "(LLantern$State;)V" } : Jvm.MethodName)) ∈ bw := mw 781 (by decide +kernel) (by decide +kernel)
theorem m_756 : (Jvm.Cond.instanceMethod ({ cls := "Lantern$State", name := "copyFrom", desc := "(LLantern$State;)V" } : Jvm.MethodName)) ∈ bw := mw 782 (by decide +kernel) (by decide +kernel)
theorem m_757 : (Jvm.Cond.selects "Lantern$State" ({ cls := "Lantern$State", name := "copyFrom", desc := "(LLantern$State;)V" } : Jvm.MethodName) ({ cls := "Lantern$State", name := "copyFrom", desc := "(LLantern$State;)V" } : Jvm.MethodName)) ∈ bw := mw 783 (by decide +kernel) (by decide +kernel)
theorem m_758 : (Jvm.Cond.code ({ cls := "Lantern$State", name := "copyFrom", desc := "(LLantern$State;)V" } : Jvm.MethodName) prog_7_method_3_code (2 : Nat) (Option.none : Option Jvm.ClassFile.FieldType)) ∈ bw := mw 784 (by decide +kernel) (by decide +kernel)
theorem m_759 : (Jvm.Cond.methodLink "Lantern$State" (48 : Nat) ({ cls := "Lantern$Row", name := "copyFrom", desc := "(LLantern$Row;)V" } : Jvm.MethodName)) ∈ bw := mw 785 (by decide +kernel) (by decide +kernel)
theorem m_760 : (Jvm.Cond.methodLink "Lantern" (386 : Nat) ({ cls := "Lantern", name := "tryOut", desc := "(ILLantern$Row;)I" } : Jvm.MethodName)) ∈ bw := mw 786 (by decide +kernel) (by decide +kernel)
theorem m_762 : (Jvm.Cond.instanceMethod ({ cls := "Lantern", name := "tryOut", desc := "(ILLantern$Row;)I" } : Jvm.MethodName)) ∈ bw := mw 788 (by decide +kernel) (by decide +kernel)
theorem m_763 : (Jvm.Cond.code ({ cls := "Lantern", name := "tryOut", desc := "(ILLantern$Row;)I" } : Jvm.MethodName) prog_1_method_51_code (4 : Nat) (Option.some Jvm.ClassFile.FieldType.int)) ∈ bw := mw 789 (by decide +kernel) (by decide +kernel)
theorem m_764 : (Jvm.Cond.methodLink "LanternLaw" (59 : Nat) ({ cls := "Lantern", name := "cellIn", desc := "(II)I" } : Jvm.MethodName)) ∈ bw := mw 790 (by decide +kernel) (by decide +kernel)
theorem m_765 : (Jvm.Cond.instanceMethod ({ cls := "Lantern", name := "cellIn", desc := "(II)I" } : Jvm.MethodName)) ∈ bw := mw 791 (by decide +kernel) (by decide +kernel)
theorem m_766 : (Jvm.Cond.selects "Lantern" ({ cls := "Lantern", name := "cellIn", desc := "(II)I" } : Jvm.MethodName) ({ cls := "Lantern", name := "cellIn", desc := "(II)I" } : Jvm.MethodName)) ∈ bw := mw 792 (by decide +kernel) (by decide +kernel)
theorem m_767 : (Jvm.Cond.code ({ cls := "Lantern", name := "cellIn", desc := "(II)I" } : Jvm.MethodName) prog_1_method_47_code (3 : Nat) (Option.some Jvm.ClassFile.FieldType.int)) ∈ bw := mw 793 (by decide +kernel) (by decide +kernel)
theorem m_768 : (Jvm.Cond.methodLink "LanternLaw" (87 : Nat) ({ cls := "Lantern", name := "heat", desc := "()D" } : Jvm.MethodName)) ∈ bw := mw 794 (by decide +kernel) (by decide +kernel)
theorem m_769 : (Jvm.Cond.instanceMethod ({ cls := "Lantern", name := "heat", desc := "()D" } : Jvm.MethodName)) ∈ bw := mw 795 (by decide +kernel) (by decide +kernel)
theorem m_770 : (Jvm.Cond.selects "Lantern" ({ cls := "Lantern", name := "heat", desc := "()D" } : Jvm.MethodName) ({ cls := "Lantern", name := "heat", desc := "()D" } : Jvm.MethodName)) ∈ bw := mw 796 (by decide +kernel) (by decide +kernel)
theorem m_771 : (Jvm.Cond.code ({ cls := "Lantern", name := "heat", desc := "()D" } : Jvm.MethodName) prog_1_method_49_code (4 : Nat) (Option.some Jvm.ClassFile.FieldType.double)) ∈ bw := mw 797 (by decide +kernel) (by decide +kernel)
theorem m_772 : (Jvm.Cond.methodLink "LanternLaw" (77 : Nat) ({ cls := "Lantern", name := "digest", desc := "()J" } : Jvm.MethodName)) ∈ bw := mw 798 (by decide +kernel) (by decide +kernel)
theorem m_773 : (Jvm.Cond.instanceMethod ({ cls := "Lantern", name := "digest", desc := "()J" } : Jvm.MethodName)) ∈ bw := mw 799 (by decide +kernel) (by decide +kernel)
theorem m_774 : (Jvm.Cond.selects "Lantern" ({ cls := "Lantern", name := "digest", desc := "()J" } : Jvm.MethodName) ({ cls := "Lantern", name := "digest", desc := "()J" } : Jvm.MethodName)) ∈ bw := mw 800 (by decide +kernel) (by decide +kernel)
theorem m_775 : (Jvm.Cond.code ({ cls := "Lantern", name := "digest", desc := "()J" } : Jvm.MethodName) prog_1_method_50_code (4 : Nat) (Option.some Jvm.ClassFile.FieldType.long)) ∈ bw := mw 801 (by decide +kernel) (by decide +kernel)
theorem m_776 : (Jvm.Cond.constantLong "Lantern" (398 : Nat) (58068 : Int64)) ∈ bw := mw 802 (by decide +kernel) (by decide +kernel)
theorem m_777 : (Jvm.Cond.methodLink "Lantern" (400 : Nat) ({ cls := "Lantern", name := "told", desc := "(I)I" } : Jvm.MethodName)) ∈ bw := mw 803 (by decide +kernel) (by decide +kernel)
theorem m_778 : (Jvm.Cond.methodLink "Lantern" (403 : Nat) ({ cls := "Lantern", name := "mixed", desc := "(JI)J" } : Jvm.MethodName)) ∈ bw := mw 804 (by decide +kernel) (by decide +kernel)
theorem m_779 : (Jvm.Cond.static ({ cls := "Lantern", name := "mixed", desc := "(JI)J" } : Jvm.MethodName)) ∈ bw := mw 805 (by decide +kernel) (by decide +kernel)
theorem m_780 : (Jvm.Cond.code ({ cls := "Lantern", name := "mixed", desc := "(JI)J" } : Jvm.MethodName) prog_1_method_52_code (3 : Nat) (Option.some Jvm.ClassFile.FieldType.long)) ∈ bw := mw 806 (by decide +kernel) (by decide +kernel)
theorem m_781 : (Jvm.Cond.constantLong "Lantern" (423 : Nat) (31 : Int64)) ∈ bw := mw 807 (by decide +kernel) (by decide +kernel)
theorem m_782 : (Jvm.Cond.methodLink "Lantern" (407 : Nat) ({ cls := "Lantern$State", name := "mixedInto", desc := "(J)J" } : Jvm.MethodName)) ∈ bw := mw 808 (by decide +kernel) (by decide +kernel)
theorem m_783 : (Jvm.Cond.instanceMethod ({ cls := "Lantern$State", name := "mixedInto", desc := "(J)J" } : Jvm.MethodName)) ∈ bw := mw 809 (by decide +kernel) (by decide +kernel)
theorem m_784 : (Jvm.Cond.selects "Lantern$State" ({ cls := "Lantern$State", name := "mixedInto", desc := "(J)J" } : Jvm.MethodName) ({ cls := "Lantern$State", name := "mixedInto", desc := "(J)J" } : Jvm.MethodName)) ∈ bw := mw 810 (by decide +kernel) (by decide +kernel)
theorem m_785 : (Jvm.Cond.code ({ cls := "Lantern$State", name := "mixedInto", desc := "(J)J" } : Jvm.MethodName) prog_7_method_16_code (5 : Nat) (Option.some Jvm.ClassFile.FieldType.long)) ∈ bw := mw 811 (by decide +kernel) (by decide +kernel)
theorem m_786 : (Jvm.Cond.methodLink "Lantern$State" (159 : Nat) ({ cls := "Lantern$Row", name := "mixedFromTopInto", desc := "(J)J" } : Jvm.MethodName)) ∈ bw := mw 812 (by decide +kernel) (by decide +kernel)
theorem m_787 : (Jvm.Cond.instanceMethod ({ cls := "Lantern$Row", name := "mixedFromTopInto", desc := "(J)J" } : Jvm.MethodName)) ∈ bw := mw 813 (by decide +kernel) (by decide +kernel)
theorem m_788 : (Jvm.Cond.selects "Lantern$Row" ({ cls := "Lantern$Row", name := "mixedFromTopInto", desc := "(J)J" } : Jvm.MethodName) ({ cls := "Lantern$Row", name := "mixedFromTopInto", desc := "(J)J" } : Jvm.MethodName)) ∈ bw := mw 814 (by decide +kernel) (by decide +kernel)
theorem m_789 : (Jvm.Cond.code ({ cls := "Lantern$Row", name := "mixedFromTopInto", desc := "(J)J" } : Jvm.MethodName) prog_6_method_16_code (6 : Nat) (Option.some Jvm.ClassFile.FieldType.long)) ∈ bw := mw 815 (by decide +kernel) (by decide +kernel)
theorem m_790 : (Jvm.Cond.methodLink "Lantern$Row" (50 : Nat) ({ cls := "Lantern$Row", name := "fromTop", desc := "(I)I" } : Jvm.MethodName)) ∈ bw := mw 816 (by decide +kernel) (by decide +kernel)
theorem m_791 : (Jvm.Cond.methodLinkNest "Lantern$Row" (44 : Nat) ({ cls := "Lantern", name := "mixed", desc := "(JI)J" } : Jvm.MethodName) "Lantern") ∈ bw := mw 817 (by decide +kernel) (by decide +kernel)
theorem m_792 : (Jvm.Cond.methodLink "Lantern$State" (163 : Nat) ({ cls := "Lantern$Row", name := "mixedInto", desc := "(J)J" } : Jvm.MethodName)) ∈ bw := mw 818 (by decide +kernel) (by decide +kernel)
theorem m_793 : (Jvm.Cond.instanceMethod ({ cls := "Lantern$Row", name := "mixedInto", desc := "(J)J" } : Jvm.MethodName)) ∈ bw := mw 819 (by decide +kernel) (by decide +kernel)
theorem m_794 : (Jvm.Cond.selects "Lantern$Row" ({ cls := "Lantern$Row", name := "mixedInto", desc := "(J)J" } : Jvm.MethodName) ({ cls := "Lantern$Row", name := "mixedInto", desc := "(J)J" } : Jvm.MethodName)) ∈ bw := mw 820 (by decide +kernel) (by decide +kernel)
theorem m_795 : (Jvm.Cond.code ({ cls := "Lantern$Row", name := "mixedInto", desc := "(J)J" } : Jvm.MethodName) prog_6_method_15_code (6 : Nat) (Option.some Jvm.ClassFile.FieldType.long)) ∈ bw := mw 821 (by decide +kernel) (by decide +kernel)
theorem m_796 : (Jvm.Cond.methodLink "Lantern" (411 : Nat) ({ cls := "Lantern", name := "mixedProgram", desc := "(J)J" } : Jvm.MethodName)) ∈ bw := mw 822 (by decide +kernel) (by decide +kernel)
theorem m_798 : (Jvm.Cond.instanceMethod ({ cls := "Lantern", name := "mixedProgram", desc := "(J)J" } : Jvm.MethodName)) ∈ bw := mw 824 (by decide +kernel) (by decide +kernel)
theorem m_799 : (Jvm.Cond.code ({ cls := "Lantern", name := "mixedProgram", desc := "(J)J" } : Jvm.MethodName) prog_1_method_53_code (6 : Nat) (Option.some Jvm.ClassFile.FieldType.long)) ∈ bw := mw 825 (by decide +kernel) (by decide +kernel)
theorem m_800 : (Jvm.Cond.methodLink "Lantern" (414 : Nat) ({ cls := "Lantern", name := "mixedPoints", desc := "(J)J" } : Jvm.MethodName)) ∈ bw := mw 826 (by decide +kernel) (by decide +kernel)
theorem m_802 : (Jvm.Cond.instanceMethod ({ cls := "Lantern", name := "mixedPoints", desc := "(J)J" } : Jvm.MethodName)) ∈ bw := mw 828 (by decide +kernel) (by decide +kernel)
theorem m_803 : (Jvm.Cond.code ({ cls := "Lantern", name := "mixedPoints", desc := "(J)J" } : Jvm.MethodName) prog_1_method_54_code (7 : Nat) (Option.some Jvm.ClassFile.FieldType.long)) ∈ bw := mw 829 (by decide +kernel) (by decide +kernel)
theorem m_804 : (Jvm.Cond.methodLink "Lantern" (417 : Nat) ({ cls := "Lantern", name := "mixedThen", desc := "(JI)J" } : Jvm.MethodName)) ∈ bw := mw 830 (by decide +kernel) (by decide +kernel)
theorem m_806 : (Jvm.Cond.instanceMethod ({ cls := "Lantern", name := "mixedThen", desc := "(JI)J" } : Jvm.MethodName)) ∈ bw := mw 832 (by decide +kernel) (by decide +kernel)
theorem m_807 : (Jvm.Cond.code ({ cls := "Lantern", name := "mixedThen", desc := "(JI)J" } : Jvm.MethodName) prog_1_method_55_code (7 : Nat) (Option.some Jvm.ClassFile.FieldType.long)) ∈ bw := mw 833 (by decide +kernel) (by decide +kernel)
theorem m_808 : (Jvm.Cond.methodLink "Lantern" (425 : Nat) ({ cls := "Lantern", name := "then", desc := "(II)I" } : Jvm.MethodName)) ∈ bw := mw 834 (by decide +kernel) (by decide +kernel)
theorem m_809 : (Jvm.Cond.methodLink "Lantern" (420 : Nat) ({ cls := "Lantern", name := "endsIn", desc := "(I)I" } : Jvm.MethodName)) ∈ bw := mw 835 (by decide +kernel) (by decide +kernel)
theorem m_810 : (Jvm.Cond.methodLink "LanternLaw" (17 : Nat) ({ cls := "LanternLaw", name := "below", desc := "(II)I" } : Jvm.MethodName)) ∈ bw := mw 836 (by decide +kernel) (by decide +kernel)
theorem m_811 : (Jvm.Cond.static ({ cls := "LanternLaw", name := "below", desc := "(II)I" } : Jvm.MethodName)) ∈ bw := mw 837 (by decide +kernel) (by decide +kernel)
theorem m_812 : (Jvm.Cond.code ({ cls := "LanternLaw", name := "below", desc := "(II)I" } : Jvm.MethodName) method_2_code (2 : Nat) (Option.some Jvm.ClassFile.FieldType.int)) ∈ bw := mw 838 (by decide +kernel) (by decide +kernel)
theorem m_813 : (Jvm.Cond.constant "LanternLaw" (7 : Nat) (2147483647 : Int32)) ∈ bw := mw 839 (by decide +kernel) (by decide +kernel)
theorem m_814 : (Jvm.Cond.methodLink "LanternLaw" (11 : Nat) ({ cls := "LanternLaw", name := "cell", desc := "([II)I" } : Jvm.MethodName)) ∈ bw := mw 840 (by decide +kernel) (by decide +kernel)
theorem m_815 : (Jvm.Cond.static ({ cls := "LanternLaw", name := "cell", desc := "([II)I" } : Jvm.MethodName)) ∈ bw := mw 841 (by decide +kernel) (by decide +kernel)
theorem m_816 : (Jvm.Cond.code ({ cls := "LanternLaw", name := "cell", desc := "([II)I" } : Jvm.MethodName) method_3_code (2 : Nat) (Option.some Jvm.ClassFile.FieldType.int)) ∈ bw := mw 842 (by decide +kernel) (by decide +kernel)
theorem m_817 : (Jvm.Cond.constant "LanternLaw" (8 : Nat) (790386105 : Int32)) ∈ bw := mw 843 (by decide +kernel) (by decide +kernel)
theorem m_818 : (Jvm.Cond.methodLink "LanternLaw" (49 : Nat) ({ cls := "LanternLaw", name := "program", desc := "(LLantern;[II)[[I" } : Jvm.MethodName)) ∈ bw := mw 844 (by decide +kernel) (by decide +kernel)
theorem m_819 : (Jvm.Cond.static ({ cls := "LanternLaw", name := "program", desc := "(LLantern;[II)[[I" } : Jvm.MethodName)) ∈ bw := mw 845 (by decide +kernel) (by decide +kernel)
theorem m_820 : (Jvm.Cond.code ({ cls := "LanternLaw", name := "program", desc := "(LLantern;[II)[[I" } : Jvm.MethodName) method_4_code (9 : Nat) (Option.some (Jvm.ClassFile.FieldType.array (Jvm.ClassFile.FieldType.array Jvm.ClassFile.FieldType.int)))) ∈ bw := mw 846 (by decide +kernel) (by decide +kernel)
theorem m_821 : (Jvm.Cond.classLink "LanternLaw" (9 : Nat) "[I") ∈ bw := mw 847 (by decide +kernel) (by decide +kernel)
theorem m_823 : (Jvm.Cond.methodLink "LanternLaw" (21 : Nat) ({ cls := "Lantern", name := "step", desc := "(II)I" } : Jvm.MethodName)) ∈ bw := mw 849 (by decide +kernel) (by decide +kernel)
theorem m_824 : (Jvm.Cond.instanceMethod ({ cls := "Lantern", name := "step", desc := "(II)I" } : Jvm.MethodName)) ∈ bw := mw 850 (by decide +kernel) (by decide +kernel)
theorem m_825 : (Jvm.Cond.selects "Lantern" ({ cls := "Lantern", name := "step", desc := "(II)I" } : Jvm.MethodName) ({ cls := "Lantern", name := "step", desc := "(II)I" } : Jvm.MethodName)) ∈ bw := mw 851 (by decide +kernel) (by decide +kernel)
theorem m_826 : (Jvm.Cond.code ({ cls := "Lantern", name := "step", desc := "(II)I" } : Jvm.MethodName) prog_1_method_2_code (3 : Nat) (Option.some Jvm.ClassFile.FieldType.int)) ∈ bw := mw 852 (by decide +kernel) (by decide +kernel)
theorem m_827 : (Jvm.Cond.methodLink "Lantern" (73 : Nat) ({ cls := "Lantern$Program", name := "allows", desc := "(II)Z" } : Jvm.MethodName)) ∈ bw := mw 853 (by decide +kernel) (by decide +kernel)
theorem m_828 : (Jvm.Cond.static ({ cls := "Lantern$Program", name := "allows", desc := "(II)Z" } : Jvm.MethodName)) ∈ bw := mw 854 (by decide +kernel) (by decide +kernel)
theorem m_829 : (Jvm.Cond.code ({ cls := "Lantern$Program", name := "allows", desc := "(II)Z" } : Jvm.MethodName) prog_5_method_2_code (2 : Nat) (Option.some Jvm.ClassFile.FieldType.boolean)) ∈ bw := mw 855 (by decide +kernel) (by decide +kernel)
theorem m_830 : (Jvm.Cond.methodLinkNest "Lantern$Program" (26 : Nat) ({ cls := "Lantern", name := "isCell", desc := "(I)Z" } : Jvm.MethodName) "Lantern") ∈ bw := mw 856 (by decide +kernel) (by decide +kernel)
theorem m_832 : (Jvm.Cond.methodLink "Lantern" (84 : Nat) ({ cls := "Lantern$Program", name := "isFull", desc := "()Z" } : Jvm.MethodName)) ∈ bw := mw 858 (by decide +kernel) (by decide +kernel)
theorem m_833 : (Jvm.Cond.instanceMethod ({ cls := "Lantern$Program", name := "isFull", desc := "()Z" } : Jvm.MethodName)) ∈ bw := mw 859 (by decide +kernel) (by decide +kernel)
theorem m_834 : (Jvm.Cond.selects "Lantern$Program" ({ cls := "Lantern$Program", name := "isFull", desc := "()Z" } : Jvm.MethodName) ({ cls := "Lantern$Program", name := "isFull", desc := "()Z" } : Jvm.MethodName)) ∈ bw := mw 860 (by decide +kernel) (by decide +kernel)
theorem m_835 : (Jvm.Cond.code ({ cls := "Lantern$Program", name := "isFull", desc := "()Z" } : Jvm.MethodName) prog_5_method_4_code (1 : Nat) (Option.some Jvm.ClassFile.FieldType.boolean)) ∈ bw := mw 861 (by decide +kernel) (by decide +kernel)
theorem m_836 : (Jvm.Cond.methodLink "Lantern$Program" (34 : Nat) ({ cls := "Lantern$Row", name := "isFull", desc := "()Z" } : Jvm.MethodName)) ∈ bw := mw 862 (by decide +kernel) (by decide +kernel)
theorem m_838 : (Jvm.Cond.methodLink "Lantern" (93 : Nat) ({ cls := "Lantern$Program", name := "add", desc := "(II)V" } : Jvm.MethodName)) ∈ bw := mw 864 (by decide +kernel) (by decide +kernel)
theorem m_839 : (Jvm.Cond.instanceMethod ({ cls := "Lantern$Program", name := "add", desc := "(II)V" } : Jvm.MethodName)) ∈ bw := mw 865 (by decide +kernel) (by decide +kernel)
theorem m_840 : (Jvm.Cond.selects "Lantern$Program" ({ cls := "Lantern$Program", name := "add", desc := "(II)V" } : Jvm.MethodName) ({ cls := "Lantern$Program", name := "add", desc := "(II)V" } : Jvm.MethodName)) ∈ bw := mw 866 (by decide +kernel) (by decide +kernel)
theorem m_841 : (Jvm.Cond.code ({ cls := "Lantern$Program", name := "add", desc := "(II)V" } : Jvm.MethodName) prog_5_method_9_code (3 : Nat) (Option.none : Option Jvm.ClassFile.FieldType)) ∈ bw := mw 867 (by decide +kernel) (by decide +kernel)
theorem m_842 : (Jvm.Cond.methodLink "Lantern$Program" (45 : Nat) ({ cls := "Lantern$Row", name := "push", desc := "(I)V" } : Jvm.MethodName)) ∈ bw := mw 868 (by decide +kernel) (by decide +kernel)
theorem m_843 : (Jvm.Cond.methodLink "LanternLaw" (70 : Nat) ({ cls := "LanternLaw", name := "state", desc := "(LLantern;)J" } : Jvm.MethodName)) ∈ bw := mw 869 (by decide +kernel) (by decide +kernel)
theorem m_844 : (Jvm.Cond.static ({ cls := "LanternLaw", name := "state", desc := "(LLantern;)J" } : Jvm.MethodName)) ∈ bw := mw 870 (by decide +kernel) (by decide +kernel)
theorem m_845 : (Jvm.Cond.code ({ cls := "LanternLaw", name := "state", desc := "(LLantern;)J" } : Jvm.MethodName) method_5_code (4 : Nat) (Option.some Jvm.ClassFile.FieldType.long)) ∈ bw := mw 871 (by decide +kernel) (by decide +kernel)
theorem m_846 : (Jvm.Cond.constantLong "LanternLaw" (26 : Nat) (7 : Int64)) ∈ bw := mw 872 (by decide +kernel) (by decide +kernel)
theorem m_847 : (Jvm.Cond.constantLong "LanternLaw" (28 : Nat) (31 : Int64)) ∈ bw := mw 873 (by decide +kernel) (by decide +kernel)
theorem m_848 : (Jvm.Cond.methodLink "LanternLaw" (42 : Nat) ({ cls := "Lantern", name := "frame", desc := "(I)I" } : Jvm.MethodName)) ∈ bw := mw 874 (by decide +kernel) (by decide +kernel)
theorem m_849 : (Jvm.Cond.instanceMethod ({ cls := "Lantern", name := "frame", desc := "(I)I" } : Jvm.MethodName)) ∈ bw := mw 875 (by decide +kernel) (by decide +kernel)
theorem m_850 : (Jvm.Cond.selects "Lantern" ({ cls := "Lantern", name := "frame", desc := "(I)I" } : Jvm.MethodName) ({ cls := "Lantern", name := "frame", desc := "(I)I" } : Jvm.MethodName)) ∈ bw := mw 876 (by decide +kernel) (by decide +kernel)
theorem m_851 : (Jvm.Cond.code ({ cls := "Lantern", name := "frame", desc := "(I)I" } : Jvm.MethodName) prog_1_method_33_code (2 : Nat) (Option.some Jvm.ClassFile.FieldType.int)) ∈ bw := mw 877 (by decide +kernel) (by decide +kernel)
theorem m_853 : (Jvm.Cond.methodLink "LanternLaw" (45 : Nat) ({ cls := "Lantern", name := "output", desc := "(I)I" } : Jvm.MethodName)) ∈ bw := mw 879 (by decide +kernel) (by decide +kernel)
theorem m_854 : (Jvm.Cond.instanceMethod ({ cls := "Lantern", name := "output", desc := "(I)I" } : Jvm.MethodName)) ∈ bw := mw 880 (by decide +kernel) (by decide +kernel)
theorem m_855 : (Jvm.Cond.selects "Lantern" ({ cls := "Lantern", name := "output", desc := "(I)I" } : Jvm.MethodName) ({ cls := "Lantern", name := "output", desc := "(I)I" } : Jvm.MethodName)) ∈ bw := mw 881 (by decide +kernel) (by decide +kernel)
theorem m_856 : (Jvm.Cond.code ({ cls := "Lantern", name := "output", desc := "(I)I" } : Jvm.MethodName) prog_1_method_34_code (2 : Nat) (Option.some Jvm.ClassFile.FieldType.int)) ∈ bw := mw 882 (by decide +kernel) (by decide +kernel)
theorem m_858 : (Jvm.Cond.methodLink "LanternLaw" (65 : Nat) ({ cls := "java/lang/Math", name := "min", desc := "(II)I" } : Jvm.MethodName)) ∈ bw := mw 884 (by decide +kernel) (by decide +kernel)
theorem s_1 : (Jvm.Cond.selects "Lantern" ({ cls := "Lantern", name := "start", desc := "()V" } : Jvm.MethodName) ({ cls := "Lantern", name := "start", desc := "()V" } : Jvm.MethodName)) ∈ bw := mw 1 (by decide +kernel) (by decide +kernel)
theorem s_2 : (Jvm.Cond.selects "Lantern" ({ cls := "Lantern", name := "stopBy", desc := "(II)V" } : Jvm.MethodName) ({ cls := "Lantern", name := "stopBy", desc := "(II)V" } : Jvm.MethodName)) ∈ bw := mw 2 (by decide +kernel) (by decide +kernel)
theorem s_3 : (Jvm.Cond.selects "Lantern" ({ cls := "Lantern", name := "runTill", desc := "(II)I" } : Jvm.MethodName) ({ cls := "Lantern", name := "runTill", desc := "(II)I" } : Jvm.MethodName)) ∈ bw := mw 3 (by decide +kernel) (by decide +kernel)
theorem s_4 : (Jvm.Cond.selects "Lantern" ({ cls := "Lantern", name := "doStep", desc := "()Z" } : Jvm.MethodName) ({ cls := "Lantern", name := "doStep", desc := "()Z" } : Jvm.MethodName)) ∈ bw := mw 4 (by decide +kernel) (by decide +kernel)
theorem s_5 : (Jvm.Cond.selects "Lantern$State" ({ cls := "Lantern$State", name := "failureOf", desc := "(LLantern$Program;)I" } : Jvm.MethodName) ({ cls := "Lantern$State", name := "failureOf", desc := "(LLantern$Program;)I" } : Jvm.MethodName)) ∈ bw := mw 5 (by decide +kernel) (by decide +kernel)
theorem s_6 : (Jvm.Cond.selects "Lantern$State" ({ cls := "Lantern$State", name := "isTooFullFor", desc := "(I)Z" } : Jvm.MethodName) ({ cls := "Lantern$State", name := "isTooFullFor", desc := "(I)Z" } : Jvm.MethodName)) ∈ bw := mw 6 (by decide +kernel) (by decide +kernel)
theorem s_7 : (Jvm.Cond.selects "Lantern$State" ({ cls := "Lantern$State", name := "swap", desc := "()V" } : Jvm.MethodName) ({ cls := "Lantern$State", name := "swap", desc := "()V" } : Jvm.MethodName)) ∈ bw := mw 7 (by decide +kernel) (by decide +kernel)
theorem s_8 : (Jvm.Cond.selects "Lantern$State" ({ cls := "Lantern$State", name := "storeAt", desc := "()V" } : Jvm.MethodName) ({ cls := "Lantern$State", name := "storeAt", desc := "()V" } : Jvm.MethodName)) ∈ bw := mw 8 (by decide +kernel) (by decide +kernel)
theorem s_9 : (Jvm.Cond.selects "Lantern$State" ({ cls := "Lantern$State", name := "readFrom", desc := "(LLantern$Row;)I" } : Jvm.MethodName) ({ cls := "Lantern$State", name := "readFrom", desc := "(LLantern$Row;)I" } : Jvm.MethodName)) ∈ bw := mw 9 (by decide +kernel) (by decide +kernel)
theorem s_10 : (Jvm.Cond.selects "Lantern$State" ({ cls := "Lantern$State", name := "reckon", desc := "(I)V" } : Jvm.MethodName) ({ cls := "Lantern$State", name := "reckon", desc := "(I)V" } : Jvm.MethodName)) ∈ bw := mw 10 (by decide +kernel) (by decide +kernel)
theorem s_11 : (Jvm.Cond.selects "Lantern" ({ cls := "Lantern", name := "stopsRun", desc := "(I)Z" } : Jvm.MethodName) ({ cls := "Lantern", name := "stopsRun", desc := "(I)Z" } : Jvm.MethodName)) ∈ bw := mw 11 (by decide +kernel) (by decide +kernel)
theorem s_12 : (Jvm.Cond.selects "Lantern" ({ cls := "Lantern", name := "watchMet", desc := "()I" } : Jvm.MethodName) ({ cls := "Lantern", name := "watchMet", desc := "()I" } : Jvm.MethodName)) ∈ bw := mw 12 (by decide +kernel) (by decide +kernel)
theorem s_13 : (Jvm.Cond.selects "Lantern" ({ cls := "Lantern", name := "watchNumbered", desc := "(I)LLantern$Watch;" } : Jvm.MethodName) ({ cls := "Lantern", name := "watchNumbered", desc := "(I)LLantern$Watch;" } : Jvm.MethodName)) ∈ bw := mw 13 (by decide +kernel) (by decide +kernel)
theorem s_14 : (Jvm.Cond.selects "Lantern" ({ cls := "Lantern", name := "pointStopping", desc := "()I" } : Jvm.MethodName) ({ cls := "Lantern", name := "pointStopping", desc := "()I" } : Jvm.MethodName)) ∈ bw := mw 14 (by decide +kernel) (by decide +kernel)
theorem s_15 : (Jvm.Cond.selects "Lantern" ({ cls := "Lantern", name := "pointNumbered", desc := "(I)LLantern$Point;" } : Jvm.MethodName) ({ cls := "Lantern", name := "pointNumbered", desc := "(I)LLantern$Point;" } : Jvm.MethodName)) ∈ bw := mw 15 (by decide +kernel) (by decide +kernel)
theorem s_16 : (Jvm.Cond.selects "Lantern$Point" ({ cls := "Lantern$Point", name := "holds", desc := "(I)Z" } : Jvm.MethodName) ({ cls := "Lantern$Point", name := "holds", desc := "(I)Z" } : Jvm.MethodName)) ∈ bw := mw 16 (by decide +kernel) (by decide +kernel)
theorem s_17 : (Jvm.Cond.selects "Lantern" ({ cls := "Lantern", name := "goBack", desc := "()LLantern$Moment;" } : Jvm.MethodName) ({ cls := "Lantern", name := "goBack", desc := "()LLantern$Moment;" } : Jvm.MethodName)) ∈ bw := mw 17 (by decide +kernel) (by decide +kernel)
theorem s_18 : (Jvm.Cond.selects "Lantern" ({ cls := "Lantern", name := "ofNow", desc := "(I)I" } : Jvm.MethodName) ({ cls := "Lantern", name := "ofNow", desc := "(I)I" } : Jvm.MethodName)) ∈ bw := mw 18 (by decide +kernel) (by decide +kernel)
theorem s_19 : (Jvm.Cond.selects "Lantern" ({ cls := "Lantern", name := "tapeAt", desc := "(I)LLantern$Tape;" } : Jvm.MethodName) ({ cls := "Lantern", name := "tapeAt", desc := "(I)LLantern$Tape;" } : Jvm.MethodName)) ∈ bw := mw 19 (by decide +kernel) (by decide +kernel)
theorem s_20 : (Jvm.Cond.selects "Lantern" ({ cls := "Lantern", name := "beginsAtStart", desc := "()Z" } : Jvm.MethodName) ({ cls := "Lantern", name := "beginsAtStart", desc := "()Z" } : Jvm.MethodName)) ∈ bw := mw 20 (by decide +kernel) (by decide +kernel)
theorem s_21 : (Jvm.Cond.selects "Lantern$Past" ({ cls := "Lantern$Past", name := "stepAt", desc := "(I)I" } : Jvm.MethodName) ({ cls := "Lantern$Past", name := "stepAt", desc := "(I)I" } : Jvm.MethodName)) ∈ bw := mw 21 (by decide +kernel) (by decide +kernel)
theorem s_22 : (Jvm.Cond.selects "Lantern" ({ cls := "Lantern", name := "tryOut", desc := "(ILLantern$Row;)I" } : Jvm.MethodName) ({ cls := "Lantern", name := "tryOut", desc := "(ILLantern$Row;)I" } : Jvm.MethodName)) ∈ bw := mw 22 (by decide +kernel) (by decide +kernel)
theorem s_23 : (Jvm.Cond.selects "Lantern" ({ cls := "Lantern", name := "mixedProgram", desc := "(J)J" } : Jvm.MethodName) ({ cls := "Lantern", name := "mixedProgram", desc := "(J)J" } : Jvm.MethodName)) ∈ bw := mw 23 (by decide +kernel) (by decide +kernel)
theorem s_24 : (Jvm.Cond.selects "Lantern" ({ cls := "Lantern", name := "mixedPoints", desc := "(J)J" } : Jvm.MethodName) ({ cls := "Lantern", name := "mixedPoints", desc := "(J)J" } : Jvm.MethodName)) ∈ bw := mw 24 (by decide +kernel) (by decide +kernel)
theorem s_25 : (Jvm.Cond.selects "Lantern" ({ cls := "Lantern", name := "mixedThen", desc := "(JI)J" } : Jvm.MethodName) ({ cls := "Lantern", name := "mixedThen", desc := "(JI)J" } : Jvm.MethodName)) ∈ bw := mw 25 (by decide +kernel) (by decide +kernel)
end
section
/-! MY KIT: a walk whose goal holds the world (as a list of groups of cells), the locals by their places, and the operand stack -/
section GK1
/-! worlds as lists, up to their order -/
theorem wP_iff {D : va_G} {cl : List vw_C} {ws : va_W} {H : Heap} : va_P D cl ws H ↔ ∀ q ∈ ws, va_at D cl q H :=
  ⟨fun h q hq => by obtain ⟨k, hk⟩ := List.getElem?_of_mem hq; exact h k q hk, fun h k q hk => h q (List.mem_of_getElem? hk)⟩
theorem wD_iff {A : Nat → Prop} {ws : va_W} : va_D A ws ↔ ws.Pairwise (fun p q => p.1 ≠ q.1) ∧ ∀ q ∈ ws, A q.1 := by
  refine ⟨fun h => ⟨?_, fun q hq => by obtain ⟨k, hk⟩ := List.getElem?_of_mem hq; exact h.2 k q hk⟩, fun h => ⟨?_, fun k q hk => h.2 q (List.mem_of_getElem? hk)⟩⟩
  · rw [List.pairwise_iff_getElem]
    intro i j hi hj hij e
    have := h.1 i j ws[i] ws[j] (List.getElem?_eq_getElem hi) (List.getElem?_eq_getElem hj) e
    omega
  · have h1 := List.pairwise_iff_getElem.mp h.1
    intro i j p q hp hq e
    obtain ⟨hi, rfl⟩ := List.getElem?_eq_some_iff.mp hp
    obtain ⟨hj, rfl⟩ := List.getElem?_eq_some_iff.mp hq
    rcases Nat.lt_trichotomy i j with z | z | z
    · exact absurd e (h1 i j hi hj z)
    · exact z
    · exact absurd e.symm (h1 j i hj hi z)
theorem wP_perm {D : va_G} {cl : List vw_C} {w1 w2 : va_W} {H : Heap} (e : w1.Perm w2) (h : va_P D cl w1 H) : va_P D cl w2 H := wP_iff.mpr fun q hq => wP_iff.mp h q (e.mem_iff.mpr hq)
theorem wD_perm {A : Nat → Prop} {w1 w2 : va_W} (e : w1.Perm w2) (h : va_D A w1) : va_D A w2 := by
  obtain ⟨h1, h2⟩ := wD_iff.mp h
  exact wD_iff.mpr ⟨(e.pairwise_iff (fun {a b} z => fun y => z y.symm)).mp h1, fun q hq => h2 q (e.mem_iff.mpr hq)⟩
theorem wP_left {D : va_G} {cl : List vw_C} {w1 w2 : va_W} {H : Heap} (h : va_P D cl (w1 ++ w2) H) : va_P D cl w1 H := wP_iff.mpr fun q hq => wP_iff.mp h q (List.mem_append_left _ hq)
theorem wP_right {D : va_G} {cl : List vw_C} {w1 w2 : va_W} {H : Heap} (h : va_P D cl (w1 ++ w2) H) : va_P D cl w2 H := wP_iff.mpr fun q hq => wP_iff.mp h q (List.mem_append_right _ hq)
theorem wD_left {A : Nat → Prop} {w1 w2 : va_W} (h : va_D A (w1 ++ w2)) : va_D A w1 := by
  obtain ⟨h1, h2⟩ := wD_iff.mp h
  exact wD_iff.mpr ⟨(List.pairwise_append.mp h1).1, fun q hq => h2 q (List.mem_append_left _ hq)⟩
theorem wD_right {A : Nat → Prop} {w1 w2 : va_W} (h : va_D A (w1 ++ w2)) : va_D A w2 := by
  obtain ⟨h1, h2⟩ := wD_iff.mp h
  exact wD_iff.mpr ⟨(List.pairwise_append.mp h1).2.1, fun q hq => h2 q (List.mem_append_right _ hq)⟩
theorem wD_cross {A : Nat → Prop} {w1 w2 : va_W} (h : va_D A (w1 ++ w2)) {p q : Nat × va_E} (hp : p ∈ w1) (hq : q ∈ w2) : p.1 ≠ q.1 := (List.pairwise_append.mp (wD_iff.mp h).1).2.2 p hp q hq
theorem va_A_mem {ws : va_W} {sz : Nat} {q : Nat} : va_A ws sz q ↔ (∃ e, (q, e) ∈ ws) ∨ sz ≤ q := by
  unfold va_A
  constructor
  · rintro (⟨k, e, h⟩ | h)
    · exact Or.inl ⟨e, List.mem_of_getElem? h⟩
    · exact Or.inr h
  · rintro (⟨e, h⟩ | h)
    · obtain ⟨k, hk⟩ := List.getElem?_of_mem h; exact Or.inl ⟨k, e, hk⟩
    · exact Or.inr h
/-- behind a call: what the callee had (w), what it left (w'), and the rest -/
theorem w_join {D : va_G} {cl : List vw_C} {A : Nat → Prop} {w wr w' : va_W} {H H1 : Heap} (hP : va_P D cl (w ++ wr) H) (hD : va_D A (w ++ wr)) (hk : ∀ q : Nat, q < H.size → ¬ va_A w H.size q → H1[q]? = H[q]?) (hF : ∀ q, va_A w H.size q → A q) (hP1 : va_P D cl w' H1) (hD1 : va_D (va_A w H.size) w') : va_P D cl (w' ++ wr) H1 ∧ va_D A (w' ++ wr) := by
  have hout : ∀ q ∈ wr, q.1 < H.size ∧ ¬ va_A w H.size q.1 := by
    intro q hq
    have hlt : q.1 < H.size := (wP_iff.mp hP q (List.mem_append_right _ hq)).lt
    refine ⟨hlt, fun h => ?_⟩
    rcases va_A_mem.mp h with ⟨e, h⟩ | h
    · exact wD_cross hD h hq rfl
    · omega
  constructor
  · refine wP_iff.mpr fun q hq => ?_
    rcases List.mem_append.mp hq with h | h
    · exact wP_iff.mp hP1 q h
    · obtain ⟨a, b⟩ := hout q h
      exact (wP_iff.mp hP q (List.mem_append_right _ h)).kept (hk q.1 a b)
  · obtain ⟨d1, d2⟩ := wD_iff.mp hD
    obtain ⟨e1, e2⟩ := wD_iff.mp hD1
    refine wD_iff.mpr ⟨List.pairwise_append.mpr ⟨e1, (List.pairwise_append.mp d1).2.1, fun p hp q hq e => ?_⟩, fun q hq => ?_⟩
    · exact (hout q hq).2 (by rw [← e]; exact e2 p hp)
    · rcases List.mem_append.mp hq with h | h
      · exact hF _ (e2 q h)
      · exact d2 q (List.mem_append_right _ h)
/-! groups -/
def gputA : List Nat → List va_W → List va_W → List va_W
  | [], gs, ex => gs ++ ex
  | i :: ps, gs, ex => match ex with
    | [] => gs
    | g :: gs' => gputA ps (gs.set i g) gs'
def gput (gs : List va_W) (ps : List Nat) (ex : List va_W) : List va_W := gputA ps gs ex
def gerase : List va_W → List Nat → List va_W
  | gs, [] => gs
  | gs, i :: ps => gerase (gs.set i []) ps
theorem set_perm : ∀ (gs : List va_W) (i : Nat) (g : va_W), i < gs.length → (gs.set i g).flatten.Perm (g ++ (gs.set i []).flatten)
  | [], i, g, h => absurd h (Nat.not_lt_zero _)
  | x :: gs, 0, g, _ => by simp
  | x :: gs, i + 1, g, h => by
    have ih := set_perm gs i g (by simpa using h)
    simp only [List.set_cons_succ, List.flatten_cons]
    refine (List.Perm.append_left x ih).trans ?_
    rw [← List.append_assoc, ← List.append_assoc]
    exact List.Perm.append_right _ List.perm_append_comm
theorem gerase_set : ∀ (ps : List Nat) (gs : List va_W) (i : Nat) (g : va_W), i ∉ ps → gerase (gs.set i g) ps = (gerase gs ps).set i g
  | [], gs, i, g, _ => rfl
  | j :: ps, gs, i, g, h => by
    have hij : i ≠ j := fun e => h (by rw [e]; exact List.mem_cons_self)
    have hps : i ∉ ps := fun e => h (List.mem_cons_of_mem _ e)
    show gerase ((gs.set i g).set j []) ps = (gerase (gs.set j []) ps).set i g
    rw [← gerase_set ps (gs.set j []) i g hps, List.set_comm _ _ hij]
theorem gerase_len : ∀ (ps : List Nat) (gs : List va_W), (gerase gs ps).length = gs.length
  | [], gs => rfl
  | i :: ps, gs => by
    show (gerase (gs.set i []) ps).length = _
    rw [gerase_len ps, List.length_set]
theorem gput_perm : ∀ (ps : List Nat) (gs gs' : List va_W), ps.length ≤ gs'.length → va_nd ps = true → (∀ i ∈ ps, i < gs.length) → (gput gs ps gs').flatten.Perm (gs'.flatten ++ (gerase gs ps).flatten)
  | [], gs, gs', _, _, _ => by
    show (gs ++ gs').flatten.Perm (gs'.flatten ++ gs.flatten)
    rw [List.flatten_append]
    exact List.perm_append_comm
  | i :: ps, gs, [], h, _, _ => absurd h (by simp)
  | i :: ps, gs, g :: gs', h, hn, hi => by
    simp only [va_nd, Bool.and_eq_true, decide_eq_true_eq] at hn
    have hl : i < gs.length := hi i List.mem_cons_self
    have ih := gput_perm ps (gs.set i g) gs' (by simpa using h) hn.2 (fun j hj => by rw [List.length_set]; exact hi j (List.mem_cons_of_mem _ hj))
    show (gput (gs.set i g) ps gs').flatten.Perm ((g :: gs').flatten ++ (gerase (gs.set i []) ps).flatten)
    refine ih.trans ?_
    rw [gerase_set ps gs i g hn.1, gerase_set ps gs i [] hn.1, List.flatten_cons]
    have h2 := set_perm (gerase gs ps) i g (by rw [gerase_len]; exact hl)
    refine (List.Perm.append_left _ h2).trans ?_
    rw [← List.append_assoc]
    exact List.Perm.append_right _ List.perm_append_comm
theorem set_same {gs : List va_W} {i : Nat} {g : va_W} (h : gs[i]? = some g) : gs.set i g = gs := by
  obtain ⟨hl, rfl⟩ := List.getElem?_eq_some_iff.mp h
  exact List.set_getElem_self hl
theorem gput_same : ∀ (ps : List Nat) (gs gsC : List va_W), ps.map (fun i => gs[i]?) = gsC.map some → gput gs ps gsC = gs
  | [], gs, [], _ => by show gs ++ [] = gs; simp
  | [], gs, _ :: _, h => by simp at h
  | _ :: _, gs, [], h => by simp at h
  | i :: ps, gs, g :: gsC, h => by
    simp only [List.map_cons, List.cons.injEq] at h
    show gput (gs.set i g) ps gsC = gs
    rw [set_same h.1]
    exact gput_same ps gs gsC h.2
theorem ps_lt {ps : List Nat} {gs gsC : List va_W} (h : ps.map (fun i => gs[i]?) = gsC.map some) : ∀ i ∈ ps, i < gs.length := by
  intro i hi
  have h1 : gs[i]? ∈ ps.map (fun i => gs[i]?) := List.mem_map.mpr ⟨i, hi, rfl⟩
  rw [h] at h1
  obtain ⟨g, -, hg⟩ := List.mem_map.mp h1
  exact (List.getElem?_eq_some_iff.mp hg.symm).1
theorem ps_len {ps : List Nat} {gs gsC : List va_W} (h : ps.map (fun i => gs[i]?) = gsC.map some) : ps.length = gsC.length := by
  have := congrArg List.length h
  simpa using this
theorem gs_perm {ps : List Nat} {gs gsC : List va_W} (h : ps.map (fun i => gs[i]?) = gsC.map some) (hn : va_nd ps = true) : gs.flatten.Perm (gsC.flatten ++ (gerase gs ps).flatten) := by
  have h1 := gput_perm ps gs gsC (Nat.le_of_eq (ps_len h)) hn (ps_lt h)
  rwa [gput_same ps gs gsC h] at h1
/-- a group's head has a place in the world, and is set there -/
theorem head_at : ∀ (gs : List va_W) (k : Nat) (x : Nat × va_E) (t : va_W), gs[k]? = some (x :: t) → ∃ q0, gs.flatten[q0]? = some x ∧ ∀ y, gs.flatten.set q0 y = (gs.set k (y :: t)).flatten
  | [], k, x, t, h => by simp at h
  | g :: gs, 0, x, t, h => by
    simp only [List.getElem?_cons_zero, Option.some.injEq] at h
    subst h
    exact ⟨0, by simp, fun y => by simp⟩
  | g :: gs, k + 1, x, t, h => by
    obtain ⟨q0, h1, h2⟩ := head_at gs k x t (by simpa using h)
    refine ⟨g.length + q0, ?_, fun y => ?_⟩
    · rw [List.flatten_cons, List.getElem?_append_right (by omega)]
      simpa using h1
    · simp only [List.flatten_cons, List.set_cons_succ]
      rw [List.set_append_right _ _ (by omega)]
      simp [h2 y]
end GK1
section GK2
/-! locals by their places -/
def hasP (ls : Array Slot) (nL : Nat) (lv : List (Option Value)) : Prop := (ls.size = nL ∧ lv.length = nL) ∧ lv_wf ls ∧ ∀ (i : Nat) (v : Value), lv[i]? = some (some v) → ls[i]? = some (.val v)
def prs (lv : List (Option Value)) : List (Nat × Value) := (List.range lv.length).filterMap (fun i => match lv[i]? with | some (some v) => some (i, v) | _ => none)
theorem mem_prs {lv : List (Option Value)} {i : Nat} {v : Value} : (i, v) ∈ prs lv ↔ lv[i]? = some (some v) := by
  unfold prs
  rw [List.mem_filterMap]
  constructor
  · rintro ⟨j, -, h⟩
    split at h
    · rename_i w hw; cases h; exact hw
    · cases h
  · intro h
    refine ⟨i, List.mem_range.mpr (List.getElem?_eq_some_iff.mp h).1, ?_⟩
    rw [h]
theorem hasP_has {ls : Array Slot} {nL : Nat} {lv : List (Option Value)} (h : hasP ls nL lv) : lv_has ls nL (prs lv) := ⟨h.1.1, h.2.1, fun q hq => h.2.2 q.1 q.2 (mem_prs.mp hq)⟩
def okst (lv : List (Option Value)) : Nat → Bool
  | 0 => true
  | j + 1 => match lv[j]? with
    | some (some w) => !(w.category == 2)
    | _ => true
theorem okst_of {lv : List (Option Value)} {i j : Nat} {w : Value} (h : okst lv i = true) (hj : lv[j]? = some (some w)) (e : j + 1 = i) : (w.category == 2) = false := by
  subst e
  simp only [okst, hj] at h
  simpa using h
theorem hasP_set {ls' : Array Slot} {nL i : Nat} {x : Value} {lv : List (Option Value)} (hn : lv.length = nL) (ho : okst lv i = true) (h : lv_has ls' nL ((i, x) :: (prs lv).filter (fun q => !(q.1 == i) && !(q.1 + 1 == i && q.2.category == 2)))) : hasP ls' nL (lv.set i (some x)) := by
  refine ⟨⟨h.1, by rw [List.length_set]; exact hn⟩, h.2.1, fun j w hj => ?_⟩
  by_cases e : j = i
  · subst e
    have hl : j < lv.length := by
      have := (List.getElem?_eq_some_iff.mp hj).1
      simpa using this
    rw [List.getElem?_set_self hl] at hj
    cases hj
    exact h.2.2 (j, x) List.mem_cons_self
  · rw [List.getElem?_set_ne (Ne.symm e)] at hj
    refine h.2.2 (j, w) (List.mem_cons_of_mem _ (List.mem_filter.mpr ⟨mem_prs.mpr hj, ?_⟩))
    by_cases e1 : j + 1 = i
    · simp [e, okst_of ho hj e1]
    · simp [e, e1]
theorem hasP_set2 {ls' : Array Slot} {nL i : Nat} {x : Value} {lv : List (Option Value)} (hn : lv.length = nL) (ho : okst lv i = true) (h : lv_has ls' nL ((i, x) :: (prs lv).filter (fun q => !(q.1 == i) && (!(q.1 == i + 1) && !(q.1 + 1 == i && q.2.category == 2))))) : hasP ls' nL ((lv.set i (some x)).set (i + 1) none) := by
  refine ⟨⟨h.1, by rw [List.length_set, List.length_set]; exact hn⟩, h.2.1, fun j w hj => ?_⟩
  by_cases e2 : j = i + 1
  · subst e2
    by_cases hl : i + 1 < (lv.set i (some x)).length
    · rw [List.getElem?_set_self hl] at hj; cases hj
    · rw [List.getElem?_eq_none (by simp only [List.length_set] at hl ⊢; omega)] at hj; cases hj
  · rw [List.getElem?_set_ne (Ne.symm e2)] at hj
    by_cases e : j = i
    · subst e
      have hl : j < lv.length := by
        have := (List.getElem?_eq_some_iff.mp hj).1
        simpa using this
      rw [List.getElem?_set_self hl] at hj
      cases hj
      exact h.2.2 (j, x) List.mem_cons_self
    · rw [List.getElem?_set_ne (Ne.symm e)] at hj
      refine h.2.2 (j, w) (List.mem_cons_of_mem _ (List.mem_filter.mpr ⟨mem_prs.mpr hj, ?_⟩))
      by_cases e1 : j + 1 = i
      · simp [e, e2, okst_of ho hj e1]
      · simp [e, e1, e2]
def lv0 : List Value → List (Option Value)
  | [] => []
  | v :: vs => (if v.category = 2 then [some v, none] else [some v]) ++ lv0 vs
theorem lv0_len : ∀ vs : List Value, (lg_sl vs).length = (lv0 vs).length
  | [] => rfl
  | v :: vs => by
    have ih := lv0_len vs
    unfold lg_sl at ih ⊢
    rw [List.flatMap_cons, List.length_append, ih]
    by_cases h : v.category = 2
    · simp [lv0, h]; omega
    · simp [lv0, h]; omega
theorem lv0_in : ∀ (vs : List Value) (b i : Nat) (v : Value), (lv0 vs)[i]? = some (some v) → (b + i, v) ∈ lv_args b vs
  | [], b, i, v, h => by simp [lv0] at h
  | w :: vs, b, i, v, h => by
    by_cases hc : w.category = 2
    · simp only [lv0, hc, if_true] at h
      match i, h with
      | 0, h =>
        simp at h
        subst h
        simp [lv_args]
      | 1, h => simp at h
      | j + 2, h =>
        have ih := lv0_in vs (b + 2) j v (by simpa using h)
        simp only [lv_args, hc, if_true]
        rw [show b + (j + 2) = b + 2 + j by omega]
        exact List.mem_cons_of_mem _ ih
    · simp only [lv0, hc, if_false] at h
      match i, h with
      | 0, h =>
        simp at h
        subst h
        simp [lv_args]
      | j + 1, h =>
        have ih := lv0_in vs (b + 1) j v (by simpa using h)
        simp only [lv_args, hc, if_false]
        rw [show b + (j + 1) = b + 1 + j by omega]
        exact List.mem_cons_of_mem _ ih
theorem lv0_pad {vs : List Value} {n i : Nat} {v : Value} (h : (lv0 vs ++ List.replicate n none)[i]? = some (some v)) : (i, v) ∈ lv_args 0 vs := by
  have key : (lv0 vs)[i]? = some (some v) := by
    rcases Nat.lt_or_ge i (lv0 vs).length with z | z
    · rwa [List.getElem?_append_left z] at h
    · rw [List.getElem?_append_right z, List.getElem?_replicate] at h
      split at h
      · cases h
      · cases h
  have := lv0_in vs 0 i v key
  rwa [Nat.zero_add] at this
end GK2
end
section
/-! MY KIT, second: the judgement and its rows -/
section GK3
abbrev Env3 : Type := Launch × va_G × (Nat → ClassId)
abbrev Ro : Type := Option (Nat × Nat × (Nat → Int32))
abbrev Fix : Type := Env3 × Program × Env × Room × State × MethodId × Array Value × List Frame × Method × Code × (Nat → Prop) × Nat × Ro × (State → Prop)
/-- the arrays' classes -/
def tyL (cy : Nat → ClassId) : List (ClassId × FieldType) := [(cy 0, .int), (cy 1, .object "Lantern$Moment"), (cy 2, .object "Lantern$Point"), (cy 3, .object "Lantern$Watch"), (cy 4, .object "Lantern$Tape"), (cy 5, .array .int)]
/-- the script, that is read alone -/
def roX (X : Ro) (U : State) (H : Heap) (A : Nat → Prop) : Prop := match X with
  | none => True
  | some (b, L, xs) => va_X b L xs U H ∧ b < H.size ∧ ¬ A b
def G (F : Fix) (k n : Nat) (gs : List va_W) (pc : Nat) (lv : List (Option Value)) (st : List Value) : Prop := match F with
  | ((l, D, _), p, e, R, s, m, args, below, meth, c, A, nL, _, Q) => ∀ (H : Heap) (locs : List Loc) (ls : Array Slot), va_P D vwCl gs.flatten H → va_D A gs.flatten → va_S A s.heap H locs → hasP ls nL lv → W p l e R s m args below meth c H locs k n Q (F0 m pc ls st)
def Ok (F : Fix) (cc : ByteArray) (own : String) (d kM nM : Nat) : Prop := match F with
  | ((_, D, cy), p, _, R, s, m, args, _, _, c, A, nL, X, _) => p.tables.exec = Jvm.exec ∧ c.code = cc ∧ c.maxLocals = nL ∧ s.vm.findClass own = some m.cls ∧ (∀ w ∈ bw, w.before args s = true) ∧ va_K D vwCl (tyL cy) s ∧ (∀ q : Nat, s.heap.size ≤ q → A q) ∧ d ≤ R.frames ∧ 30 * d ≤ R.locals ∧ kM ≤ R.cells ∧ nM ≤ R.slots ∧ roX X s s.heap A
def PostC (D : va_G) (sz : Nat) (gs : List va_W) (Po : Option Value → List va_W → Prop) : State → Outcome → State → Prop := fun st oc t => (∃ (r : Option Value) (gs' : List va_W), oc = .returned r ∧ Po r gs' ∧ va_P D vwCl gs'.flatten t.heap ∧ va_D (va_A gs.flatten sz) gs'.flatten) ∧ va_F (va_A gs.flatten sz) st t
def OkR (F : Fix) (gs : List va_W) (Po : Option Value → List va_W → Prop) (mc ms : Nat) (ret : Option FieldType) : Prop := match F with
  | ((_, D, _), _, _, _, s, _, args, below, meth, _, A, _, _, Q) => meth.sig.returnType = ret ∧ meth.locks = false ∧ A = va_A gs.flatten s.heap.size ∧ Q = MQ below (fun _ => PostC D s.heap.size gs Po) args s mc ms A
def OkN (F : Fix) (nm : String) : Prop := match F with
  | (_, _, _, _, _, _, _, _, meth, _, _, _, _, _) => meth.name = nm
/-- a contract: called with av in a world of the groups gs, it returns r and leaves gs' with Po r gs'; d: how deep its calls go; mc, ms: the cells and slots that it makes -/
def Ct (E : Env3) (X : Ro) (d mc ms : Nat) (y : MethodName) (bytes : ByteArray) (maxL : Nat) (ret : Option FieldType) (av : List Value) (gs : List va_W) (Po : Option Value → List va_W → Prop) : Prop :=
  ∀ sz : Nat, Met E.1 y (.code y bytes maxL ret :: bw) ({ frames := d, cells := mc, slots := ms, locals := 30 * d }) (va_Pc av (fun U => U.heap.size = sz ∧ va_P E.2.1 vwCl gs.flatten U.heap ∧ va_K E.2.1 vwCl (tyL E.2.2) U ∧ va_D (fun _ => True) gs.flatten ∧ roX X U U.heap (va_A gs.flatten sz))) (fun _ => PostC E.2.1 sz gs Po) mc ms (va_A gs.flatten sz)
/-- .. that answers r and leaves gs', and makes nothing -/
def Cd (E : Env3) (X : Ro) (d : Nat) (y : MethodName) (bytes : ByteArray) (maxL : Nat) (ret : Option FieldType) (av : List Value) (gs : List va_W) (r0 : Option Value) (g0 : List va_W) : Prop := Ct E X d 0 0 y bytes maxL ret av gs (fun r g => r = r0 ∧ g = g0)
theorem roX.kept {X : Ro} {s : State} {A : Nat → Prop} {H : Heap} {locs : List Loc} (h : roX X s s.heap A) (hS : va_S A s.heap H locs) {B : Nat → Prop} (hB : ∀ q, B q → A q) {U : State} (hU : U.heap = H) (hW : s.WarmedH U.vm) : roX X U U.heap B := by
  obtain _ | ⟨b, L, xs⟩ := X
  · trivial
  · obtain ⟨h1, h2, h3⟩ := h
    refine ⟨?_, ?_, fun z => h3 (hB b z)⟩
    · rw [hU]
      exact (h1.kept (hS.2.1 b h2 h3)).moved hW.alike
    · rw [hU]
      exact Nat.lt_of_lt_of_le h2 hS.1
theorem roX.blind {X : Ro} {U : State} {A : Nat → Prop} (g : JFrame) (mk : MethodId) (a : Array Value) (h : roX X U U.heap A) : roX X (U.calling g mk a) (U.calling g mk a).heap A := by
  obtain _ | ⟨b, L, xs⟩ := X
  · trivial
  · obtain ⟨h1, h2, h3⟩ := h
    exact ⟨h1.moved (U := U.calling g mk a) (Vm.Alike.refl U.vm), h2, h3⟩
theorem Ct.of {E : Env3} {X : Ro} {d mc ms : Nat} {y : MethodName} {bytes : ByteArray} {maxL : Nat} {ret : Option FieldType} {av : List Value} {gs : List va_W} {Po : Option Value → List va_W → Prop} (lv : List (Option Value)) (hy : plainName y.cls = true) (hlv : lv0 av ++ List.replicate (maxL - (lv0 av).length) none = lv) (hsl : (lv0 av).length ≤ maxL)
    (body : ∀ F : Fix, F.1 = E → Ok F bytes y.cls d mc ms → OkR F gs Po mc ms ret → OkN F y.name → G F 0 0 gs 0 lv []) : Ct E X d mc ms y bytes maxL ret av gs Po := by
  obtain ⟨l, D, cy⟩ := E
  intro sz
  refine Met.ofW (cc := bytes) (maxL := maxL) (ret := ret) hy rfl ?_
  intro p e s m args below meth c s₁ B hml hv
  obtain ⟨rfl, hsz, hP, hK, hD0, hX⟩ := hv
  subst hsz
  have hts := atoms_spec (ws := .code y bytes maxL ret :: bw) B.pre
  have hown : s.vm.findClass y.cls = some m.cls := findClass_of_methodNamed B.named
  have hD := hD0.self (sz := s.heap.size)
  have hl := lv_entry av (n := maxL) (by rw [lv0_len]; exact hsl)
  rw [lg_entry_eq]
  generalize hls : (lg_sl av ++ List.replicate (maxL - (lg_sl av).length) Slot.unset).toArray = ls at hl ⊢
  have hp : hasP ls maxL lv := by
    refine ⟨⟨hl.1, ?_⟩, hl.2.1, fun i v h => ?_⟩
    · rw [← hlv, List.length_append, List.length_replicate]; omega
    · rw [← hlv] at h
      exact hl.2.2 _ (lv0_pad h)
  exact body ((l, D, cy), p, e, (headSpec (.code y bytes maxL ret :: bw) { frames := d, cells := mc, slots := ms, locals := 30 * d }).room, s, m, av.toArray, below, meth, c, va_A gs.flatten s.heap.size, maxL, X, MQ below (fun _ => PostC D s.heap.size gs Po) av.toArray s mc ms (va_A gs.flatten s.heap.size)) rfl
    ⟨B.exec, B.bytes, hml, hown, fun w hw => hts w (List.mem_cons_of_mem _ hw), hK, fun q h => Or.inr h, Nat.le_refl _, Nat.le_refl _, Nat.le_refl _, Nat.le_refl _, hX⟩ ⟨B.returns, B.notSynchronized, rfl, rfl⟩ (name_of_methodNamed B.named B.method).1 s.heap [] ls hP hD va_S.rf hp
end GK3

section GK4
variable {F : Fix} {cc : ByteArray} {own : String} {dd kM nM k n pc : Nat} {gs : List va_W} {lv : List (Option Value)} {st : List Value}
theorem g_iconst {i : Int} {v : Int32} (hF : Ok F cc own dd kM nM) (d : decode cc pc = .ok (.iconst i, 1)) (hv : Int32.ofInt i = v) (kk : G F k n gs (pc + 1) lv (.int v :: st)) : G F k n gs pc lv st := by
  obtain ⟨⟨l, D, cy⟩, p, e, R, s, m, args, below, meth, c, A, nL, X, Q⟩ := F
  obtain ⟨hx, hb, hml, hown, hts, hK, hA, hd1, hd2, hk1, hk2, hX⟩ := hF
  intro H locs ls hP hD hS hl
  exact lv_iconst hx hb d hv (kk H locs ls hP hD hS hl)
theorem g_bipush {i : Int} {v : Int32} (hF : Ok F cc own dd kM nM) (d : decode cc pc = .ok (.bipush i, 2)) (hv : (Int8.ofInt i).toInt32 = v) (kk : G F k n gs (pc + 2) lv (.int v :: st)) : G F k n gs pc lv st := by
  obtain ⟨⟨l, D, cy⟩, p, e, R, s, m, args, below, meth, c, A, nL, X, Q⟩ := F
  obtain ⟨hx, hb, hml, hown, hts, hK, hA, hd1, hd2, hk1, hk2, hX⟩ := hF
  intro H locs ls hP hD hS hl
  exact lv_bipush hx hb d hv (kk H locs ls hP hD hS hl)
theorem g_sipush {i : Int} {v : Int32} (hF : Ok F cc own dd kM nM) (d : decode cc pc = .ok (.sipush i, 3)) (hv : (Int16.ofInt i).toInt32 = v) (kk : G F k n gs (pc + 3) lv (.int v :: st)) : G F k n gs pc lv st := by
  obtain ⟨⟨l, D, cy⟩, p, e, R, s, m, args, below, meth, c, A, nL, X, Q⟩ := F
  obtain ⟨hx, hb, hml, hown, hts, hK, hA, hd1, hd2, hk1, hk2, hX⟩ := hF
  intro H locs ls hP hD hS hl
  exact lv_sipush hx hb d hv (kk H locs ls hP hD hS hl)
theorem g_lconst {i : Fin 2} {v : Int64} (hF : Ok F cc own dd kM nM) (d : decode cc pc = .ok (.lconst i, 1)) (hv : Int64.ofNat (i : Nat) = v) (kk : G F k n gs (pc + 1) lv (.long v :: st)) : G F k n gs pc lv st := by
  obtain ⟨⟨l, D, cy⟩, p, e, R, s, m, args, below, meth, c, A, nL, X, Q⟩ := F
  obtain ⟨hx, hb, hml, hown, hts, hK, hA, hd1, hd2, hk1, hk2, hX⟩ := hF
  intro H locs ls hP hD hS hl
  exact lv_lconst hx hb d hv (kk H locs ls hP hD hS hl)
theorem g_ldc {i : Nat} {v : Int32} (hF : Ok F cc own dd kM nM) (hm : Cond.constant own i v ∈ bw) (d : decode cc pc = .ok (.ldc i, 2)) (kk : G F k n gs (pc + 2) lv (.int v :: st)) : G F k n gs pc lv st := by
  obtain ⟨⟨l, D, cy⟩, p, e, R, s, m, args, below, meth, c, A, nL, X, Q⟩ := F
  obtain ⟨hx, hb, hml, hown, hts, hK, hA, hd1, hd2, hk1, hk2, hX⟩ := hF
  intro H locs ls hP hD hS hl
  exact lv_ldc hx hb hown (hts _ hm) d (kk H locs ls hP hD hS hl)
theorem g_ldc2 {i : Nat} {v : Int64} (hF : Ok F cc own dd kM nM) (hm : Cond.constantLong own i v ∈ bw) (d : decode cc pc = .ok (.ldc2_w i, 3)) (kk : G F k n gs (pc + 3) lv (.long v :: st)) : G F k n gs pc lv st := by
  obtain ⟨⟨l, D, cy⟩, p, e, R, s, m, args, below, meth, c, A, nL, X, Q⟩ := F
  obtain ⟨hx, hb, hml, hown, hts, hK, hA, hd1, hd2, hk1, hk2, hX⟩ := hF
  intro H locs ls hP hD hS hl
  exact lv_ldc2 hx hb hown (hts _ hm) d (kk H locs ls hP hD hS hl)
theorem g_dconst0  (hF : Ok F cc own dd kM nM) (d : decode cc pc = .ok (.dconst 0, 1)) (kk : G F k n gs (pc + 1) lv (.double 0 :: st)) : G F k n gs pc lv st := by
  obtain ⟨⟨l, D, cy⟩, p, e, R, s, m, args, below, meth, c, A, nL, X, Q⟩ := F
  obtain ⟨hx, hb, hml, hown, hts, hK, hA, hd1, hd2, hk1, hk2, hX⟩ := hF
  intro H locs ls hP hD hS hl
  exact lv_dconst0 hx hb d (kk H locs ls hP hD hS hl)
theorem g_null  (hF : Ok F cc own dd kM nM) (d : decode cc pc = .ok (.aconst_null, 1)) (kk : G F k n gs (pc + 1) lv (.null :: st)) : G F k n gs pc lv st := by
  obtain ⟨⟨l, D, cy⟩, p, e, R, s, m, args, below, meth, c, A, nL, X, Q⟩ := F
  obtain ⟨hx, hb, hml, hown, hts, hK, hA, hd1, hd2, hk1, hk2, hX⟩ := hF
  intro H locs ls hP hD hS hl
  exact lv_null hx hb d (kk H locs ls hP hD hS hl)
theorem g_iload_n {j : Fin 4} {x : Int32} (hF : Ok F cc own dd kM nM) (d : decode cc pc = .ok (.iload_n j, 1)) (h : lv[(j : Nat)]? = some (some (.int x))) (kk : G F k n gs (pc + 1) lv (.int x :: st)) : G F k n gs pc lv st := by
  obtain ⟨⟨l, D, cy⟩, p, e, R, s, m, args, below, meth, c, A, nL, X, Q⟩ := F
  obtain ⟨hx, hb, hml, hown, hts, hK, hA, hd1, hd2, hk1, hk2, hX⟩ := hF
  intro H locs ls hP hD hS hl
  exact lv_iload_n hx hb d rfl (hl.2.2 _ _ h) (kk H locs ls hP hD hS hl)
theorem g_iload {i : Nat} {x : Int32} (hF : Ok F cc own dd kM nM) (d : decode cc pc = .ok (.iload i, 2)) (h : lv[i]? = some (some (.int x))) (kk : G F k n gs (pc + 2) lv (.int x :: st)) : G F k n gs pc lv st := by
  obtain ⟨⟨l, D, cy⟩, p, e, R, s, m, args, below, meth, c, A, nL, X, Q⟩ := F
  obtain ⟨hx, hb, hml, hown, hts, hK, hA, hd1, hd2, hk1, hk2, hX⟩ := hF
  intro H locs ls hP hD hS hl
  exact lv_iload hx hb d (hl.2.2 _ _ h) (kk H locs ls hP hD hS hl)
theorem g_lload_n {j : Fin 4} {x : Int64} (hF : Ok F cc own dd kM nM) (d : decode cc pc = .ok (.lload_n j, 1)) (h : lv[(j : Nat)]? = some (some (.long x))) (kk : G F k n gs (pc + 1) lv (.long x :: st)) : G F k n gs pc lv st := by
  obtain ⟨⟨l, D, cy⟩, p, e, R, s, m, args, below, meth, c, A, nL, X, Q⟩ := F
  obtain ⟨hx, hb, hml, hown, hts, hK, hA, hd1, hd2, hk1, hk2, hX⟩ := hF
  intro H locs ls hP hD hS hl
  exact lv_lload_n hx hb d rfl (hl.2.2 _ _ h) (kk H locs ls hP hD hS hl)
theorem g_lload {i : Nat} {x : Int64} (hF : Ok F cc own dd kM nM) (d : decode cc pc = .ok (.lload i, 2)) (h : lv[i]? = some (some (.long x))) (kk : G F k n gs (pc + 2) lv (.long x :: st)) : G F k n gs pc lv st := by
  obtain ⟨⟨l, D, cy⟩, p, e, R, s, m, args, below, meth, c, A, nL, X, Q⟩ := F
  obtain ⟨hx, hb, hml, hown, hts, hK, hA, hd1, hd2, hk1, hk2, hX⟩ := hF
  intro H locs ls hP hD hS hl
  exact lv_lload hx hb d (hl.2.2 _ _ h) (kk H locs ls hP hD hS hl)
theorem g_aload_n {j : Fin 4} {x : Nat} (hF : Ok F cc own dd kM nM) (d : decode cc pc = .ok (.aload_n j, 1)) (h : lv[(j : Nat)]? = some (some (.ref x))) (kk : G F k n gs (pc + 1) lv (.ref x :: st)) : G F k n gs pc lv st := by
  obtain ⟨⟨l, D, cy⟩, p, e, R, s, m, args, below, meth, c, A, nL, X, Q⟩ := F
  obtain ⟨hx, hb, hml, hown, hts, hK, hA, hd1, hd2, hk1, hk2, hX⟩ := hF
  intro H locs ls hP hD hS hl
  exact lv_aload_n hx hb d rfl (hl.2.2 _ _ h) (kk H locs ls hP hD hS hl)
theorem g_aload {i : Nat} {x : Nat} (hF : Ok F cc own dd kM nM) (d : decode cc pc = .ok (.aload i, 2)) (h : lv[i]? = some (some (.ref x))) (kk : G F k n gs (pc + 2) lv (.ref x :: st)) : G F k n gs pc lv st := by
  obtain ⟨⟨l, D, cy⟩, p, e, R, s, m, args, below, meth, c, A, nL, X, Q⟩ := F
  obtain ⟨hx, hb, hml, hown, hts, hK, hA, hd1, hd2, hk1, hk2, hX⟩ := hF
  intro H locs ls hP hD hS hl
  exact lv_aload hx hb d (hl.2.2 _ _ h) (kk H locs ls hP hD hS hl)
theorem g_aload_nN {j : Fin 4} (hF : Ok F cc own dd kM nM) (d : decode cc pc = .ok (.aload_n j, 1)) (h : lv[(j : Nat)]? = some (some .null)) (kk : G F k n gs (pc + 1) lv (.null :: st)) : G F k n gs pc lv st := by
  obtain ⟨⟨l, D, cy⟩, p, e, R, s, m, args, below, meth, c, A, nL, X, Q⟩ := F
  obtain ⟨hx, hb, hml, hown, hts, hK, hA, hd1, hd2, hk1, hk2, hX⟩ := hF
  intro H locs ls hP hD hS hl
  exact lv_aload_nN hx hb d rfl (hl.2.2 _ _ h) (kk H locs ls hP hD hS hl)
theorem g_aloadN {i : Nat} (hF : Ok F cc own dd kM nM) (d : decode cc pc = .ok (.aload i, 2)) (h : lv[i]? = some (some .null)) (kk : G F k n gs (pc + 2) lv (.null :: st)) : G F k n gs pc lv st := by
  obtain ⟨⟨l, D, cy⟩, p, e, R, s, m, args, below, meth, c, A, nL, X, Q⟩ := F
  obtain ⟨hx, hb, hml, hown, hts, hK, hA, hd1, hd2, hk1, hk2, hX⟩ := hF
  intro H locs ls hP hD hS hl
  exact lv_aloadN hx hb d (hl.2.2 _ _ h) (kk H locs ls hP hD hS hl)
theorem g_istore_n {j : Fin 4} {x : Int32} (hF : Ok F cc own dd kM nM) (d : decode cc pc = .ok (.istore_n j, 1)) (hi : (j : Nat) < lv.length) (ho : okst lv (j : Nat) = true) (kk : G F k n gs (pc + 1) (lv.set (j : Nat) (some (.int x))) st) : G F k n gs pc lv ((.int x) :: st) := by
  obtain ⟨⟨l, D, cy⟩, p, e, R, s, m, args, below, meth, c, A, nL, X, Q⟩ := F
  obtain ⟨hx, hb, hml, hown, hts, hK, hA, hd1, hd2, hk1, hk2, hX⟩ := hF
  intro H locs ls hP hD hS hl
  exact lv_istore_n hx hb d rfl (hasP_has hl) (by rw [← hl.1.2]; exact hi) rfl (fun ls1 hl1 => kk H locs ls1 hP hD hS (hasP_set hl.1.2 ho hl1))
theorem g_istore {i : Nat} {x : Int32} (hF : Ok F cc own dd kM nM) (d : decode cc pc = .ok (.istore i, 2)) (hi : i < lv.length) (ho : okst lv i = true) (kk : G F k n gs (pc + 2) (lv.set i (some (.int x))) st) : G F k n gs pc lv ((.int x) :: st) := by
  obtain ⟨⟨l, D, cy⟩, p, e, R, s, m, args, below, meth, c, A, nL, X, Q⟩ := F
  obtain ⟨hx, hb, hml, hown, hts, hK, hA, hd1, hd2, hk1, hk2, hX⟩ := hF
  intro H locs ls hP hD hS hl
  exact lv_istore hx hb d (hasP_has hl) (by rw [← hl.1.2]; exact hi) rfl (fun ls1 hl1 => kk H locs ls1 hP hD hS (hasP_set hl.1.2 ho hl1))
theorem g_astore_n {j : Fin 4} {x : Nat} (hF : Ok F cc own dd kM nM) (d : decode cc pc = .ok (.astore_n j, 1)) (hi : (j : Nat) < lv.length) (ho : okst lv (j : Nat) = true) (kk : G F k n gs (pc + 1) (lv.set (j : Nat) (some (.ref x))) st) : G F k n gs pc lv ((.ref x) :: st) := by
  obtain ⟨⟨l, D, cy⟩, p, e, R, s, m, args, below, meth, c, A, nL, X, Q⟩ := F
  obtain ⟨hx, hb, hml, hown, hts, hK, hA, hd1, hd2, hk1, hk2, hX⟩ := hF
  intro H locs ls hP hD hS hl
  exact lv_astore_n hx hb d rfl (hasP_has hl) (by rw [← hl.1.2]; exact hi) rfl (fun ls1 hl1 => kk H locs ls1 hP hD hS (hasP_set hl.1.2 ho hl1))
theorem g_astore {i : Nat} {x : Nat} (hF : Ok F cc own dd kM nM) (d : decode cc pc = .ok (.astore i, 2)) (hi : i < lv.length) (ho : okst lv i = true) (kk : G F k n gs (pc + 2) (lv.set i (some (.ref x))) st) : G F k n gs pc lv ((.ref x) :: st) := by
  obtain ⟨⟨l, D, cy⟩, p, e, R, s, m, args, below, meth, c, A, nL, X, Q⟩ := F
  obtain ⟨hx, hb, hml, hown, hts, hK, hA, hd1, hd2, hk1, hk2, hX⟩ := hF
  intro H locs ls hP hD hS hl
  exact lv_astore hx hb d (hasP_has hl) (by rw [← hl.1.2]; exact hi) rfl (fun ls1 hl1 => kk H locs ls1 hP hD hS (hasP_set hl.1.2 ho hl1))
theorem g_astore_nN {j : Fin 4}  (hF : Ok F cc own dd kM nM) (d : decode cc pc = .ok (.astore_n j, 1)) (hi : (j : Nat) < lv.length) (ho : okst lv (j : Nat) = true) (kk : G F k n gs (pc + 1) (lv.set (j : Nat) (some .null)) st) : G F k n gs pc lv (.null :: st) := by
  obtain ⟨⟨l, D, cy⟩, p, e, R, s, m, args, below, meth, c, A, nL, X, Q⟩ := F
  obtain ⟨hx, hb, hml, hown, hts, hK, hA, hd1, hd2, hk1, hk2, hX⟩ := hF
  intro H locs ls hP hD hS hl
  exact lv_astore_nN hx hb d rfl (hasP_has hl) (by rw [← hl.1.2]; exact hi) rfl (fun ls1 hl1 => kk H locs ls1 hP hD hS (hasP_set hl.1.2 ho hl1))
theorem g_astoreN {i : Nat}  (hF : Ok F cc own dd kM nM) (d : decode cc pc = .ok (.astore i, 2)) (hi : i < lv.length) (ho : okst lv i = true) (kk : G F k n gs (pc + 2) (lv.set i (some .null)) st) : G F k n gs pc lv (.null :: st) := by
  obtain ⟨⟨l, D, cy⟩, p, e, R, s, m, args, below, meth, c, A, nL, X, Q⟩ := F
  obtain ⟨hx, hb, hml, hown, hts, hK, hA, hd1, hd2, hk1, hk2, hX⟩ := hF
  intro H locs ls hP hD hS hl
  exact lv_astoreN hx hb d (hasP_has hl) (by rw [← hl.1.2]; exact hi) rfl (fun ls1 hl1 => kk H locs ls1 hP hD hS (hasP_set hl.1.2 ho hl1))
theorem g_lstore_n {j : Fin 4} {x : Int64} (hF : Ok F cc own dd kM nM) (d : decode cc pc = .ok (.lstore_n j, 1)) (hi : (j : Nat) + 1 < lv.length) (ho : okst lv (j : Nat) = true) (kk : G F k n gs (pc + 1) ((lv.set (j : Nat) (some (.long x))).set ((j : Nat) + 1) none) st) : G F k n gs pc lv (.long x :: st) := by
  obtain ⟨⟨l, D, cy⟩, p, e, R, s, m, args, below, meth, c, A, nL, X, Q⟩ := F
  obtain ⟨hx, hb, hml, hown, hts, hK, hA, hd1, hd2, hk1, hk2, hX⟩ := hF
  intro H locs ls hP hD hS hl
  exact lv_lstore_n hx hb d rfl (hasP_has hl) (by rw [← hl.1.2]; exact hi) rfl (fun ls1 hl1 => kk H locs ls1 hP hD hS (hasP_set2 hl.1.2 ho hl1))
theorem g_lstore {i : Nat} {x : Int64} (hF : Ok F cc own dd kM nM) (d : decode cc pc = .ok (.lstore i, 2)) (hi : i + 1 < lv.length) (ho : okst lv i = true) (kk : G F k n gs (pc + 2) ((lv.set i (some (.long x))).set (i + 1) none) st) : G F k n gs pc lv (.long x :: st) := by
  obtain ⟨⟨l, D, cy⟩, p, e, R, s, m, args, below, meth, c, A, nL, X, Q⟩ := F
  obtain ⟨hx, hb, hml, hown, hts, hK, hA, hd1, hd2, hk1, hk2, hX⟩ := hF
  intro H locs ls hP hD hS hl
  exact lv_lstore hx hb d (hasP_has hl) (by rw [← hl.1.2]; exact hi) rfl (fun ls1 hl1 => kk H locs ls1 hP hD hS (hasP_set2 hl.1.2 ho hl1))
theorem g_iinc {i : Nat} {z : Int} {x v : Int32} (hF : Ok F cc own dd kM nM) (d : decode cc pc = .ok (.iinc i z, 3)) (h : lv[i]? = some (some (.int x))) (hv : x + Int32.ofInt z = v) (ho : okst lv i = true) (kk : G F k n gs (pc + 3) (lv.set i (some (.int v))) st) : G F k n gs pc lv st := by
  obtain ⟨⟨l, D, cy⟩, p, e, R, s, m, args, below, meth, c, A, nL, X, Q⟩ := F
  obtain ⟨hx, hb, hml, hown, hts, hK, hA, hd1, hd2, hk1, hk2, hX⟩ := hF
  intro H locs ls hP hD hS hl
  obtain ⟨j, hj⟩ := List.getElem?_of_mem (mem_prs.mpr h)
  exact lv_iinc hx hb d (hasP_has hl) hj hv (by rw [← hl.1.2]; exact (List.getElem?_eq_some_iff.mp h).1) rfl (fun ls1 hl1 => kk H locs ls1 hP hD hS (hasP_set hl.1.2 ho hl1))
theorem g_iadd {x y : Int32} (hF : Ok F cc own dd kM nM) (d : decode cc pc = .ok (.iadd, 1)) (kk : G F k n gs (pc + 1) lv (.int (x + y) :: st)) : G F k n gs pc lv (.int y :: .int x :: st) := by
  obtain ⟨⟨l, D, cy⟩, p, e, R, s, m, args, below, meth, c, A, nL, X, Q⟩ := F
  obtain ⟨hx, hb, hml, hown, hts, hK, hA, hd1, hd2, hk1, hk2, hX⟩ := hF
  intro H locs ls hP hD hS hl
  exact lv_iadd hx hb d (kk H locs ls hP hD hS hl)
theorem g_isub {x y : Int32} (hF : Ok F cc own dd kM nM) (d : decode cc pc = .ok (.isub, 1)) (kk : G F k n gs (pc + 1) lv (.int (x - y) :: st)) : G F k n gs pc lv (.int y :: .int x :: st) := by
  obtain ⟨⟨l, D, cy⟩, p, e, R, s, m, args, below, meth, c, A, nL, X, Q⟩ := F
  obtain ⟨hx, hb, hml, hown, hts, hK, hA, hd1, hd2, hk1, hk2, hX⟩ := hF
  intro H locs ls hP hD hS hl
  exact lv_isub hx hb d (kk H locs ls hP hD hS hl)
theorem g_imul {x y : Int32} (hF : Ok F cc own dd kM nM) (d : decode cc pc = .ok (.imul, 1)) (kk : G F k n gs (pc + 1) lv (.int (x * y) :: st)) : G F k n gs pc lv (.int y :: .int x :: st) := by
  obtain ⟨⟨l, D, cy⟩, p, e, R, s, m, args, below, meth, c, A, nL, X, Q⟩ := F
  obtain ⟨hx, hb, hml, hown, hts, hK, hA, hd1, hd2, hk1, hk2, hX⟩ := hF
  intro H locs ls hP hD hS hl
  exact lv_imul hx hb d (kk H locs ls hP hD hS hl)
theorem g_iand {x y : Int32} (hF : Ok F cc own dd kM nM) (d : decode cc pc = .ok (.iand, 1)) (kk : G F k n gs (pc + 1) lv (.int (x &&& y) :: st)) : G F k n gs pc lv (.int y :: .int x :: st) := by
  obtain ⟨⟨l, D, cy⟩, p, e, R, s, m, args, below, meth, c, A, nL, X, Q⟩ := F
  obtain ⟨hx, hb, hml, hown, hts, hK, hA, hd1, hd2, hk1, hk2, hX⟩ := hF
  intro H locs ls hP hD hS hl
  exact lv_iand hx hb d (kk H locs ls hP hD hS hl)
theorem g_ishr {x y : Int32} (hF : Ok F cc own dd kM nM) (d : decode cc pc = .ok (.ishr, 1)) (kk : G F k n gs (pc + 1) lv (.int (x >>> (y &&& 31)) :: st)) : G F k n gs pc lv (.int y :: .int x :: st) := by
  obtain ⟨⟨l, D, cy⟩, p, e, R, s, m, args, below, meth, c, A, nL, X, Q⟩ := F
  obtain ⟨hx, hb, hml, hown, hts, hK, hA, hd1, hd2, hk1, hk2, hX⟩ := hF
  intro H locs ls hP hD hS hl
  exact lv_ishr hx hb d (kk H locs ls hP hD hS hl)
theorem g_idiv {x y : Int32} (hF : Ok F cc own dd kM nM) (d : decode cc pc = .ok (.idiv, 1)) (hne : ¬ y = 0) (kk : G F k n gs (pc + 1) lv (.int (x / y) :: st)) : G F k n gs pc lv (.int y :: .int x :: st) := by
  obtain ⟨⟨l, D, cy⟩, p, e, R, s, m, args, below, meth, c, A, nL, X, Q⟩ := F
  obtain ⟨hx, hb, hml, hown, hts, hK, hA, hd1, hd2, hk1, hk2, hX⟩ := hF
  intro H locs ls hP hD hS hl
  exact lv_idiv hx hb d hne (kk H locs ls hP hD hS hl)
theorem g_irem {x y : Int32} (hF : Ok F cc own dd kM nM) (d : decode cc pc = .ok (.irem, 1)) (hne : ¬ y = 0) (kk : G F k n gs (pc + 1) lv (.int (x - x / y * y) :: st)) : G F k n gs pc lv (.int y :: .int x :: st) := by
  obtain ⟨⟨l, D, cy⟩, p, e, R, s, m, args, below, meth, c, A, nL, X, Q⟩ := F
  obtain ⟨hx, hb, hml, hown, hts, hK, hA, hd1, hd2, hk1, hk2, hX⟩ := hF
  intro H locs ls hP hD hS hl
  exact lv_irem hx hb d hne (kk H locs ls hP hD hS hl)
theorem g_ladd {x y : Int64} (hF : Ok F cc own dd kM nM) (d : decode cc pc = .ok (.ladd, 1)) (kk : G F k n gs (pc + 1) lv (.long (x + y) :: st)) : G F k n gs pc lv (.long y :: .long x :: st) := by
  obtain ⟨⟨l, D, cy⟩, p, e, R, s, m, args, below, meth, c, A, nL, X, Q⟩ := F
  obtain ⟨hx, hb, hml, hown, hts, hK, hA, hd1, hd2, hk1, hk2, hX⟩ := hF
  intro H locs ls hP hD hS hl
  exact lv_ladd hx hb d (kk H locs ls hP hD hS hl)
theorem g_lmul {x y : Int64} (hF : Ok F cc own dd kM nM) (d : decode cc pc = .ok (.lmul, 1)) (kk : G F k n gs (pc + 1) lv (.long (x * y) :: st)) : G F k n gs pc lv (.long y :: .long x :: st) := by
  obtain ⟨⟨l, D, cy⟩, p, e, R, s, m, args, below, meth, c, A, nL, X, Q⟩ := F
  obtain ⟨hx, hb, hml, hown, hts, hK, hA, hd1, hd2, hk1, hk2, hX⟩ := hF
  intro H locs ls hP hD hS hl
  exact lv_lmul hx hb d (kk H locs ls hP hD hS hl)
theorem g_i2l {x : Int32} (hF : Ok F cc own dd kM nM) (d : decode cc pc = .ok (.i2l, 1)) (kk : G F k n gs (pc + 1) lv (.long x.toInt64 :: st)) : G F k n gs pc lv (.int x :: st) := by
  obtain ⟨⟨l, D, cy⟩, p, e, R, s, m, args, below, meth, c, A, nL, X, Q⟩ := F
  obtain ⟨hx, hb, hml, hown, hts, hK, hA, hd1, hd2, hk1, hk2, hX⟩ := hF
  intro H locs ls hP hD hS hl
  exact lv_i2l hx hb d rfl (kk H locs ls hP hD hS hl)
theorem g_i2d {x : Int32} (hF : Ok F cc own dd kM nM) (d : decode cc pc = .ok (.i2d, 1)) (kk : G F k n gs (pc + 1) lv (.double (FP.i2d x) :: st)) : G F k n gs pc lv (.int x :: st) := by
  obtain ⟨⟨l, D, cy⟩, p, e, R, s, m, args, below, meth, c, A, nL, X, Q⟩ := F
  obtain ⟨hx, hb, hml, hown, hts, hK, hA, hd1, hd2, hk1, hk2, hX⟩ := hF
  intro H locs ls hP hD hS hl
  exact lv_i2d hx hb d (kk H locs ls hP hD hS hl)
theorem g_ddiv {x y : UInt64} (hF : Ok F cc own dd kM nM) (d : decode cc pc = .ok (.ddiv, 1)) (hne : vf_n64 (FP.ddiv x y)) (kk : G F k n gs (pc + 1) lv (.double (FP.ddiv x y) :: st)) : G F k n gs pc lv (.double y :: .double x :: st) := by
  obtain ⟨⟨l, D, cy⟩, p, e, R, s, m, args, below, meth, c, A, nL, X, Q⟩ := F
  obtain ⟨hx, hb, hml, hown, hts, hK, hA, hd1, hd2, hk1, hk2, hX⟩ := hF
  intro H locs ls hP hD hS hl
  exact lv_ddiv hx hb d hne (kk H locs ls hP hD hS hl)
theorem g_dcmp {x y : UInt64} {op : CmpOp} (hF : Ok F cc own dd kM nM) (d : decode cc pc = .ok (.dcmp op, 1)) (kk : G F k n gs (pc + 1) lv (.int (Op.cmpValue (FP.dcmp x y) op) :: st)) : G F k n gs pc lv (.double y :: .double x :: st) := by
  obtain ⟨⟨l, D, cy⟩, p, e, R, s, m, args, below, meth, c, A, nL, X, Q⟩ := F
  obtain ⟨hx, hb, hml, hown, hts, hK, hA, hd1, hd2, hk1, hk2, hX⟩ := hF
  intro H locs ls hP hD hS hl
  exact lv_dcmp hx hb d (kk H locs ls hP hD hS hl)
theorem g_lcmp {x y : Int64} (hF : Ok F cc own dd kM nM) (d : decode cc pc = .ok (.lcmp, 1)) (kk : G F k n gs (pc + 1) lv (.int (lg_cmp x y) :: st)) : G F k n gs pc lv (.long y :: .long x :: st) := by
  obtain ⟨⟨l, D, cy⟩, p, e, R, s, m, args, below, meth, c, A, nL, X, Q⟩ := F
  obtain ⟨hx, hb, hml, hown, hts, hK, hA, hd1, hd2, hk1, hk2, hX⟩ := hF
  intro H locs ls hP hD hS hl
  exact W.lcmp hx hb d (kk H locs ls hP hD hS hl)
theorem g_dup {v : Value} (hF : Ok F cc own dd kM nM) (d : decode cc pc = .ok (.dup, 1)) (hv : v.category = 1) (kk : G F k n gs (pc + 1) lv (v :: v :: st)) : G F k n gs pc lv (v :: st) := by
  obtain ⟨⟨l, D, cy⟩, p, e, R, s, m, args, below, meth, c, A, nL, X, Q⟩ := F
  obtain ⟨hx, hb, hml, hown, hts, hK, hA, hd1, hd2, hk1, hk2, hX⟩ := hF
  intro H locs ls hP hD hS hl
  exact lv_dup hx hb d hv (kk H locs ls hP hD hS hl)
theorem g_dup_x1 {v w : Value} (hF : Ok F cc own dd kM nM) (d : decode cc pc = .ok (.dup_x1, 1)) (hv : v.category = 1) (hw : w.category = 1) (kk : G F k n gs (pc + 1) lv (v :: w :: v :: st)) : G F k n gs pc lv (v :: w :: st) := by
  obtain ⟨⟨l, D, cy⟩, p, e, R, s, m, args, below, meth, c, A, nL, X, Q⟩ := F
  obtain ⟨hx, hb, hml, hown, hts, hK, hA, hd1, hd2, hk1, hk2, hX⟩ := hF
  intro H locs ls hP hD hS hl
  exact lv_dup_x1 hx hb d hv hw (kk H locs ls hP hD hS hl)
theorem g_pop {v : Value} (hF : Ok F cc own dd kM nM) (d : decode cc pc = .ok (.pop, 1)) (hv : v.category = 1) (kk : G F k n gs (pc + 1) lv st) : G F k n gs pc lv (v :: st) := by
  obtain ⟨⟨l, D, cy⟩, p, e, R, s, m, args, below, meth, c, A, nL, X, Q⟩ := F
  obtain ⟨hx, hb, hml, hown, hts, hK, hA, hd1, hd2, hk1, hk2, hX⟩ := hF
  intro H locs ls hP hD hS hl
  exact lv_pop hx hb d hv (kk H locs ls hP hD hS hl)
theorem g_if_eq {x : Int32} (hF : Ok F cc own dd kM nM) {off : Int} {tgt : Nat} (d : decode cc pc = .ok (.ifCond .eq off, 3)) (ht : (pc : Int) + off = (tgt : Int)) (kt : x = 0 → G F k n gs tgt lv st) (kf : ¬ x = 0 → G F k n gs (pc + 3) lv st) : G F k n gs pc lv (.int x :: st) := by
  obtain ⟨⟨l, D, cy⟩, p, e, R, s, m, args, below, meth, c, A, nL, X, Q⟩ := F
  obtain ⟨hx, hb, hml, hown, hts, hK, hA, hd1, hd2, hk1, hk2, hX⟩ := hF
  intro H locs ls hP hD hS hl
  exact lv_if_eq hx hb d ht (fun q => kt q H locs ls hP hD hS hl) (fun q => kf q H locs ls hP hD hS hl)
theorem g_if_ne {x : Int32} (hF : Ok F cc own dd kM nM) {off : Int} {tgt : Nat} (d : decode cc pc = .ok (.ifCond .ne off, 3)) (ht : (pc : Int) + off = (tgt : Int)) (kt : ¬ x = 0 → G F k n gs tgt lv st) (kf : x = 0 → G F k n gs (pc + 3) lv st) : G F k n gs pc lv (.int x :: st) := by
  obtain ⟨⟨l, D, cy⟩, p, e, R, s, m, args, below, meth, c, A, nL, X, Q⟩ := F
  obtain ⟨hx, hb, hml, hown, hts, hK, hA, hd1, hd2, hk1, hk2, hX⟩ := hF
  intro H locs ls hP hD hS hl
  exact lv_if_ne hx hb d ht (fun q => kt q H locs ls hP hD hS hl) (fun q => kf q H locs ls hP hD hS hl)
theorem g_if_lt {x : Int32} (hF : Ok F cc own dd kM nM) {off : Int} {tgt : Nat} (d : decode cc pc = .ok (.ifCond .lt off, 3)) (ht : (pc : Int) + off = (tgt : Int)) (kt : x < 0 → G F k n gs tgt lv st) (kf : ¬ x < 0 → G F k n gs (pc + 3) lv st) : G F k n gs pc lv (.int x :: st) := by
  obtain ⟨⟨l, D, cy⟩, p, e, R, s, m, args, below, meth, c, A, nL, X, Q⟩ := F
  obtain ⟨hx, hb, hml, hown, hts, hK, hA, hd1, hd2, hk1, hk2, hX⟩ := hF
  intro H locs ls hP hD hS hl
  exact lv_if_lt hx hb d ht (fun q => kt q H locs ls hP hD hS hl) (fun q => kf q H locs ls hP hD hS hl)
theorem g_if_ge {x : Int32} (hF : Ok F cc own dd kM nM) {off : Int} {tgt : Nat} (d : decode cc pc = .ok (.ifCond .ge off, 3)) (ht : (pc : Int) + off = (tgt : Int)) (kt : 0 ≤ x → G F k n gs tgt lv st) (kf : ¬ 0 ≤ x → G F k n gs (pc + 3) lv st) : G F k n gs pc lv (.int x :: st) := by
  obtain ⟨⟨l, D, cy⟩, p, e, R, s, m, args, below, meth, c, A, nL, X, Q⟩ := F
  obtain ⟨hx, hb, hml, hown, hts, hK, hA, hd1, hd2, hk1, hk2, hX⟩ := hF
  intro H locs ls hP hD hS hl
  exact lv_if_ge hx hb d ht (fun q => kt q H locs ls hP hD hS hl) (fun q => kf q H locs ls hP hD hS hl)
theorem g_if_gt {x : Int32} (hF : Ok F cc own dd kM nM) {off : Int} {tgt : Nat} (d : decode cc pc = .ok (.ifCond .gt off, 3)) (ht : (pc : Int) + off = (tgt : Int)) (kt : 0 < x → G F k n gs tgt lv st) (kf : ¬ 0 < x → G F k n gs (pc + 3) lv st) : G F k n gs pc lv (.int x :: st) := by
  obtain ⟨⟨l, D, cy⟩, p, e, R, s, m, args, below, meth, c, A, nL, X, Q⟩ := F
  obtain ⟨hx, hb, hml, hown, hts, hK, hA, hd1, hd2, hk1, hk2, hX⟩ := hF
  intro H locs ls hP hD hS hl
  exact lv_if_gt hx hb d ht (fun q => kt q H locs ls hP hD hS hl) (fun q => kf q H locs ls hP hD hS hl)
theorem g_if_le {x : Int32} (hF : Ok F cc own dd kM nM) {off : Int} {tgt : Nat} (d : decode cc pc = .ok (.ifCond .le off, 3)) (ht : (pc : Int) + off = (tgt : Int)) (kt : x ≤ 0 → G F k n gs tgt lv st) (kf : ¬ x ≤ 0 → G F k n gs (pc + 3) lv st) : G F k n gs pc lv (.int x :: st) := by
  obtain ⟨⟨l, D, cy⟩, p, e, R, s, m, args, below, meth, c, A, nL, X, Q⟩ := F
  obtain ⟨hx, hb, hml, hown, hts, hK, hA, hd1, hd2, hk1, hk2, hX⟩ := hF
  intro H locs ls hP hD hS hl
  exact lv_if_le hx hb d ht (fun q => kt q H locs ls hP hD hS hl) (fun q => kf q H locs ls hP hD hS hl)
theorem g_icmp_eq {x y : Int32} (hF : Ok F cc own dd kM nM) {off : Int} {tgt : Nat} (d : decode cc pc = .ok (.if_icmp .eq off, 3)) (ht : (pc : Int) + off = (tgt : Int)) (kt : x = y → G F k n gs tgt lv st) (kf : ¬ x = y → G F k n gs (pc + 3) lv st) : G F k n gs pc lv (.int y :: .int x :: st) := by
  obtain ⟨⟨l, D, cy⟩, p, e, R, s, m, args, below, meth, c, A, nL, X, Q⟩ := F
  obtain ⟨hx, hb, hml, hown, hts, hK, hA, hd1, hd2, hk1, hk2, hX⟩ := hF
  intro H locs ls hP hD hS hl
  exact lv_icmp_eq hx hb d ht (fun q => kt q H locs ls hP hD hS hl) (fun q => kf q H locs ls hP hD hS hl)
theorem g_icmp_ne {x y : Int32} (hF : Ok F cc own dd kM nM) {off : Int} {tgt : Nat} (d : decode cc pc = .ok (.if_icmp .ne off, 3)) (ht : (pc : Int) + off = (tgt : Int)) (kt : ¬ x = y → G F k n gs tgt lv st) (kf : x = y → G F k n gs (pc + 3) lv st) : G F k n gs pc lv (.int y :: .int x :: st) := by
  obtain ⟨⟨l, D, cy⟩, p, e, R, s, m, args, below, meth, c, A, nL, X, Q⟩ := F
  obtain ⟨hx, hb, hml, hown, hts, hK, hA, hd1, hd2, hk1, hk2, hX⟩ := hF
  intro H locs ls hP hD hS hl
  exact lv_icmp_ne hx hb d ht (fun q => kt q H locs ls hP hD hS hl) (fun q => kf q H locs ls hP hD hS hl)
theorem g_icmp_lt {x y : Int32} (hF : Ok F cc own dd kM nM) {off : Int} {tgt : Nat} (d : decode cc pc = .ok (.if_icmp .lt off, 3)) (ht : (pc : Int) + off = (tgt : Int)) (kt : x < y → G F k n gs tgt lv st) (kf : ¬ x < y → G F k n gs (pc + 3) lv st) : G F k n gs pc lv (.int y :: .int x :: st) := by
  obtain ⟨⟨l, D, cy⟩, p, e, R, s, m, args, below, meth, c, A, nL, X, Q⟩ := F
  obtain ⟨hx, hb, hml, hown, hts, hK, hA, hd1, hd2, hk1, hk2, hX⟩ := hF
  intro H locs ls hP hD hS hl
  exact lv_icmp_lt hx hb d ht (fun q => kt q H locs ls hP hD hS hl) (fun q => kf q H locs ls hP hD hS hl)
theorem g_icmp_ge {x y : Int32} (hF : Ok F cc own dd kM nM) {off : Int} {tgt : Nat} (d : decode cc pc = .ok (.if_icmp .ge off, 3)) (ht : (pc : Int) + off = (tgt : Int)) (kt : y ≤ x → G F k n gs tgt lv st) (kf : ¬ y ≤ x → G F k n gs (pc + 3) lv st) : G F k n gs pc lv (.int y :: .int x :: st) := by
  obtain ⟨⟨l, D, cy⟩, p, e, R, s, m, args, below, meth, c, A, nL, X, Q⟩ := F
  obtain ⟨hx, hb, hml, hown, hts, hK, hA, hd1, hd2, hk1, hk2, hX⟩ := hF
  intro H locs ls hP hD hS hl
  exact lv_icmp_ge hx hb d ht (fun q => kt q H locs ls hP hD hS hl) (fun q => kf q H locs ls hP hD hS hl)
theorem g_icmp_gt {x y : Int32} (hF : Ok F cc own dd kM nM) {off : Int} {tgt : Nat} (d : decode cc pc = .ok (.if_icmp .gt off, 3)) (ht : (pc : Int) + off = (tgt : Int)) (kt : y < x → G F k n gs tgt lv st) (kf : ¬ y < x → G F k n gs (pc + 3) lv st) : G F k n gs pc lv (.int y :: .int x :: st) := by
  obtain ⟨⟨l, D, cy⟩, p, e, R, s, m, args, below, meth, c, A, nL, X, Q⟩ := F
  obtain ⟨hx, hb, hml, hown, hts, hK, hA, hd1, hd2, hk1, hk2, hX⟩ := hF
  intro H locs ls hP hD hS hl
  exact lv_icmp_gt hx hb d ht (fun q => kt q H locs ls hP hD hS hl) (fun q => kf q H locs ls hP hD hS hl)
theorem g_icmp_le {x y : Int32} (hF : Ok F cc own dd kM nM) {off : Int} {tgt : Nat} (d : decode cc pc = .ok (.if_icmp .le off, 3)) (ht : (pc : Int) + off = (tgt : Int)) (kt : x ≤ y → G F k n gs tgt lv st) (kf : ¬ x ≤ y → G F k n gs (pc + 3) lv st) : G F k n gs pc lv (.int y :: .int x :: st) := by
  obtain ⟨⟨l, D, cy⟩, p, e, R, s, m, args, below, meth, c, A, nL, X, Q⟩ := F
  obtain ⟨hx, hb, hml, hown, hts, hK, hA, hd1, hd2, hk1, hk2, hX⟩ := hF
  intro H locs ls hP hD hS hl
  exact lv_icmp_le hx hb d ht (fun q => kt q H locs ls hP hD hS hl) (fun q => kf q H locs ls hP hD hS hl)
theorem g_goto (hF : Ok F cc own dd kM nM) {off : Int} {tgt : Nat} (d : decode cc pc = .ok (.goto off, 3)) (ht : (pc : Int) + off = (tgt : Int)) (kk : G F k n gs tgt lv st) : G F k n gs pc lv st := by
  obtain ⟨⟨l, D, cy⟩, p, e, R, s, m, args, below, meth, c, A, nL, X, Q⟩ := F
  obtain ⟨hx, hb, hml, hown, hts, hK, hA, hd1, hd2, hk1, hk2, hX⟩ := hF
  intro H locs ls hP hD hS hl
  exact lv_goto hx hb d ht (kk H locs ls hP hD hS hl)
theorem g_ifnonnull {x : Nat} (hF : Ok F cc own dd kM nM) {off : Int} {tgt : Nat} (d : decode cc pc = .ok (.ifnonnull off, 3)) (ht : (pc : Int) + off = (tgt : Int)) (kk : G F k n gs tgt lv st) : G F k n gs pc lv (.ref x :: st) := by
  obtain ⟨⟨l, D, cy⟩, p, e, R, s, m, args, below, meth, c, A, nL, X, Q⟩ := F
  obtain ⟨hx, hb, hml, hown, hts, hK, hA, hd1, hd2, hk1, hk2, hX⟩ := hF
  intro H locs ls hP hD hS hl
  exact lv_ifnonnull hx hb d ht (kk H locs ls hP hD hS hl)
theorem g_ifnull {x : Nat} (hF : Ok F cc own dd kM nM) {off : Int} (d : decode cc pc = .ok (.ifnull off, 3)) (kk : G F k n gs (pc + 3) lv st) : G F k n gs pc lv (.ref x :: st) := by
  obtain ⟨⟨l, D, cy⟩, p, e, R, s, m, args, below, meth, c, A, nL, X, Q⟩ := F
  obtain ⟨hx, hb, hml, hown, hts, hK, hA, hd1, hd2, hk1, hk2, hX⟩ := hF
  intro H locs ls hP hD hS hl
  exact lv_ifnull hx hb d (kk H locs ls hP hD hS hl)
theorem g_ifnullN  (hF : Ok F cc own dd kM nM) {off : Int} {tgt : Nat} (d : decode cc pc = .ok (.ifnull off, 3)) (ht : (pc : Int) + off = (tgt : Int)) (kk : G F k n gs tgt lv st) : G F k n gs pc lv (.null :: st) := by
  obtain ⟨⟨l, D, cy⟩, p, e, R, s, m, args, below, meth, c, A, nL, X, Q⟩ := F
  obtain ⟨hx, hb, hml, hown, hts, hK, hA, hd1, hd2, hk1, hk2, hX⟩ := hF
  intro H locs ls hP hD hS hl
  exact lv_ifnullN hx hb d ht (kk H locs ls hP hD hS hl)
theorem g_ifnonnullN  (hF : Ok F cc own dd kM nM) {off : Int} (d : decode cc pc = .ok (.ifnonnull off, 3)) (kk : G F k n gs (pc + 3) lv st) : G F k n gs pc lv (.null :: st) := by
  obtain ⟨⟨l, D, cy⟩, p, e, R, s, m, args, below, meth, c, A, nL, X, Q⟩ := F
  obtain ⟨hx, hb, hml, hown, hts, hK, hA, hd1, hd2, hk1, hk2, hX⟩ := hF
  intro H locs ls hP hD hS hl
  exact lv_ifnonnullN hx hb d (kk H locs ls hP hD hS hl)
theorem g_tableOut (hF : Ok F cc own dd kM nM) {x : Int32} {dflt lo hi : Int} {offs : Array Int} {len tgt : Nat} (d : decode cc pc = .ok (.tableswitch dflt lo hi offs, len)) (h : x.toInt < lo ∨ hi < x.toInt) (ht : (pc : Int) + dflt = (tgt : Int)) (kk : G F k n gs tgt lv st) : G F k n gs pc lv (.int x :: st) := by
  obtain ⟨⟨l, D, cy⟩, p, e, R, s, m, args, below, meth, c, A, nL, X, Q⟩ := F
  obtain ⟨hx, hb, hml, hown, hts, hK, hA, hd1, hd2, hk1, hk2, hX⟩ := hF
  intro H locs ls hP hD hS hl
  exact lv_tableOut hx hb d h ht (kk H locs ls hP hD hS hl)
theorem g_tableIn (hF : Ok F cc own dd kM nM) {x : Int32} {dflt lo hi : Int} {offs : Array Int} {len tgt : Nat} {off : Int} (d : decode cc pc = .ok (.tableswitch dflt lo hi offs, len)) (h1 : ¬ x.toInt < lo) (h2 : ¬ hi < x.toInt) (ho : offs[(x.toInt - lo).toNat]? = some off) (ht : (pc : Int) + off = (tgt : Int)) (kk : G F k n gs tgt lv st) : G F k n gs pc lv (.int x :: st) := by
  obtain ⟨⟨l, D, cy⟩, p, e, R, s, m, args, below, meth, c, A, nL, X, Q⟩ := F
  obtain ⟨hx, hb, hml, hown, hts, hK, hA, hd1, hd2, hk1, hk2, hX⟩ := hF
  intro H locs ls hP hD hS hl
  exact lv_tableIn hx hb d h1 h2 ho ht (kk H locs ls hP hD hS hl)
theorem g_lookup (hF : Ok F cc own dd kM nM) {x : Int32} {dflt : Int} {ps : Array (Int × Int)} {len tgt : Nat} {off : Int} (d : decode cc pc = .ok (.lookupswitch dflt ps, len)) (hp : (ps.toList.zip (ps.toList.drop 1)).all (fun (a, next) => a.1 < next.1) = true) (ho : Op.lookupswitch.offset ps.toList dflt x.toInt = off) (ht : (pc : Int) + off = (tgt : Int)) (kk : G F k n gs tgt lv st) : G F k n gs pc lv (.int x :: st) := by
  obtain ⟨⟨l, D, cy⟩, p, e, R, s, m, args, below, meth, c, A, nL, X, Q⟩ := F
  obtain ⟨hx, hb, hml, hown, hts, hK, hA, hd1, hd2, hk1, hk2, hX⟩ := hF
  intro H locs ls hP hD hS hl
  exact lv_lookup hx hb d hp ho ht (kk H locs ls hP hD hS hl)
theorem g_regroup {gs' : List va_W} (h : gs.flatten = gs'.flatten) (kk : G F k n gs' pc lv st) : G F k n gs pc lv st := by
  obtain ⟨⟨l, D, cy⟩, p, e, R, s, m, args, below, meth, c, A, nL, X, Q⟩ := F
  intro H locs ls hP hD hS hl
  exact kk H locs ls (by rw [← h]; exact hP) (by rw [← h]; exact hD) hS hl
theorem g_widen {k' n' : Nat} (hk : k ≤ k') (hn : n ≤ n') (kk : G F k' n' gs pc lv st) : G F k n gs pc lv st := by
  obtain ⟨⟨l, D, cy⟩, p, e, R, s, m, args, below, meth, c, A, nL, X, Q⟩ := F
  intro H locs ls hP hD hS hl
  exact W.widen hk hn (kk H locs ls hP hD hS hl)
/-- locals forgotten -/
theorem g_forget {lv' : List (Option Value)} (hlen : lv'.length = lv.length) (h : ∀ (i : Nat) (v : Value), lv'[i]? = some (some v) → lv[i]? = some (some v)) (kk : G F k n gs pc lv' st) : G F k n gs pc lv st := by
  obtain ⟨⟨l, D, cy⟩, p, e, R, s, m, args, below, meth, c, A, nL, X, Q⟩ := F
  intro H locs ls hP hD hS hl
  exact kk H locs ls hP hD hS ⟨⟨hl.1.1, hlen.trans hl.1.2⟩, hl.2.1, fun i v q => hl.2.2 i v (h i v q)⟩
/-- groups forgotten -/
theorem g_drop {gs' : List va_W} (x : va_W) (h : gs.flatten.Perm (gs'.flatten ++ x)) (kk : G F k n gs' pc lv st) : G F k n gs pc lv st := by
  obtain ⟨⟨l, D, cy⟩, p, e, R, s, m, args, below, meth, c, A, nL, X, Q⟩ := F
  intro H locs ls hP hD hS hl
  exact kk H locs ls (wP_left (wP_perm h hP)) (wD_left (wD_perm h hD)) hS hl
end GK4
section GK5
variable {F : Fix} {cc : ByteArray} {own : String} {dd kM nM k n pc : Nat} {gs : List va_W} {lv : List (Option Value)} {st : List Value}
variable {gs0 : List va_W} {Po : Option Value → List va_W → Prop} {mc ms : Nat}
theorem g_vret (hF : Ok F cc own dd kM nM) (hR : OkR F gs0 Po mc ms none) (d : decode cc pc = .ok (.return_, 1)) (hp : Po none gs) : G F mc ms gs pc lv [] := by
  obtain ⟨⟨l, D, cy⟩, p, e, R, s, m, args, below, meth, c, A, nL, X, Q⟩ := F
  obtain ⟨hx, hb, hml, hown, hts, hK, hA, hd1, hd2, hk1, hk2, hX⟩ := hF
  obtain ⟨hr, hlocks, rfl, rfl⟩ := hR
  intro H locs ls hP hD hS hl
  exact W.vret hx hb hr (fun t ht hW => ⟨⟨_, gs, rfl, hp, by rw [ht]; exact hP, hD⟩, hS.F ht⟩) hS.2.2 d hlocks
theorem g_iret (hF : Ok F cc own dd kM nM) (hR : OkR F gs0 Po mc ms (some .int)) {v : Int32} (d : decode cc pc = .ok (.ireturn, 1)) (hp : Po (some (.int v)) gs) : G F mc ms gs pc lv [.int v] := by
  obtain ⟨⟨l, D, cy⟩, p, e, R, s, m, args, below, meth, c, A, nL, X, Q⟩ := F
  obtain ⟨hx, hb, hml, hown, hts, hK, hA, hd1, hd2, hk1, hk2, hX⟩ := hF
  obtain ⟨hr, hlocks, rfl, rfl⟩ := hR
  intro H locs ls hP hD hS hl
  exact W.iret hx hb hr (fun t ht hW => ⟨⟨_, gs, rfl, hp, by rw [ht]; exact hP, hD⟩, hS.F ht⟩) hS.2.2 d hlocks
theorem g_zret {v : Int32} (hF : Ok F cc own dd kM nM) (hR : OkR F gs0 Po mc ms (some .boolean)) (d : decode cc pc = .ok (.ireturn, 1)) (hn : narrow .boolean (.int v) = .int v) (hp : Po (some (.int v)) gs) : G F mc ms gs pc lv [.int v] := by
  obtain ⟨⟨l, D, cy⟩, p, e, R, s, m, args, below, meth, c, A, nL, X, Q⟩ := F
  obtain ⟨hx, hb, hml, hown, hts, hK, hA, hd1, hd2, hk1, hk2, hX⟩ := hF
  obtain ⟨hr, hlocks, rfl, rfl⟩ := hR
  intro H locs ls hP hD hS hl
  exact W.zret hx hb hr hn (fun t ht hW => ⟨⟨_, gs, rfl, hp, by rw [ht]; exact hP, hD⟩, hS.F ht⟩) hS.2.2 d hlocks
theorem g_lret {v : Int64} (hF : Ok F cc own dd kM nM) (hR : OkR F gs0 Po mc ms (some .long)) (d : decode cc pc = .ok (.lreturn, 1)) (hp : Po (some (.long v)) gs) : G F mc ms gs pc lv [.long v] := by
  obtain ⟨⟨l, D, cy⟩, p, e, R, s, m, args, below, meth, c, A, nL, X, Q⟩ := F
  obtain ⟨hx, hb, hml, hown, hts, hK, hA, hd1, hd2, hk1, hk2, hX⟩ := hF
  obtain ⟨hr, hlocks, rfl, rfl⟩ := hR
  intro H locs ls hP hD hS hl
  exact W.lret hx hb hr (fun t ht hW => ⟨⟨_, gs, rfl, hp, by rw [ht]; exact hP, hD⟩, hS.F ht⟩) hS.2.2 d hlocks
theorem g_dret {v : UInt64} (hF : Ok F cc own dd kM nM) (hR : OkR F gs0 Po mc ms (some .double)) (d : decode cc pc = .ok (.dreturn, 1)) (hp : Po (some (.double v)) gs) : G F mc ms gs pc lv [.double v] := by
  obtain ⟨⟨l, D, cy⟩, p, e, R, s, m, args, below, meth, c, A, nL, X, Q⟩ := F
  obtain ⟨hx, hb, hml, hown, hts, hK, hA, hd1, hd2, hk1, hk2, hX⟩ := hF
  obtain ⟨hr, hlocks, rfl, rfl⟩ := hR
  intro H locs ls hP hD hS hl
  exact W.dret hx hb hr (fun t ht hW => ⟨⟨_, gs, rfl, hp, by rw [ht]; exact hP, hD⟩, hS.F ht⟩) hS.2.2 d hlocks
theorem g_aret {v : Value} {rt : FieldType} (hF : Ok F cc own dd kM nM) (hR : OkR F gs0 Po mc ms (some rt)) (hrt : (∃ n, rt = .object n) ∨ ∃ t, rt = .array t) (hv : v = .null ∨ ∃ a, v = .ref a) (d : decode cc pc = .ok (.areturn, 1)) (hp : Po (some v) gs) : G F mc ms gs pc lv [v] := by
  obtain ⟨⟨l, D, cy⟩, p, e, R, s, m, args, below, meth, c, A, nL, X, Q⟩ := F
  obtain ⟨hx, hb, hml, hown, hts, hK, hA, hd1, hd2, hk1, hk2, hX⟩ := hF
  obtain ⟨hr, hlocks, rfl, rfl⟩ := hR
  intro H locs ls hP hD hS hl
  exact W.aret hx hb hr hrt hv (fun t ht hW => ⟨⟨_, gs, rfl, hp, by rw [ht]; exact hP, hD⟩, hS.F ht⟩) hS.2.2 d hlocks
end GK5
end
section
/-! MY KIT, third: fields, arrays, making -/
section GK6
theorem cls_ok {ci : Nat} {C : String} {T : u_T} {N : Nat} (hc : vwCl[ci]? = some (C, T, N)) : (∀ w ∈ u_ws C T N, w ∈ bw) ∧ (∃ ty : Nat → FieldType, ∀ k, k < N → parseFieldDescriptor (T k).2.2.1 = some (ty k)) ∧ (∀ a, a < N → ∀ b, b < N → a ≠ b → (T a).2.1 ≠ (T b).2.1) := by
  match ci, hc with
  | 0, hc => cases hc; exact ⟨by decide +kernel, ⟨_, tyX0_ok⟩, nmX0⟩
  | 1, hc => cases hc; exact ⟨by decide +kernel, ⟨_, tyX1_ok⟩, nmX1⟩
  | 2, hc => cases hc; exact ⟨by decide +kernel, ⟨_, tyX2_ok⟩, nmX2⟩
  | 3, hc => cases hc; exact ⟨by decide +kernel, ⟨_, tyX3_ok⟩, nmX3⟩
  | 4, hc => cases hc; exact ⟨by decide +kernel, ⟨_, tyX4_ok⟩, nmX4⟩
  | 5, hc => cases hc; exact ⟨by decide +kernel, ⟨_, tyX5_ok⟩, nmX5⟩
  | 6, hc => cases hc; exact ⟨by decide +kernel, ⟨_, tyX6_ok⟩, nmX6⟩
  | 7, hc => cases hc; exact ⟨by decide +kernel, ⟨_, tyX7_ok⟩, nmX7⟩
  | 8, hc => cases hc; exact ⟨by decide +kernel, ⟨_, tyX8_ok⟩, nmX8⟩
  | _ + 9, hc => simp at hc
variable {F : Fix} {cc : ByteArray} {own : String} {dd kM nM k n pc : Nat} {gs : List va_W} {lv : List (Option Value)} {st : List Value}
theorem g_get (hF : Ok F cc own dd kM nM) (kg : Nat) {a ci N j idx : Nat} {C : String} {T : u_T} {fs : List Value} {t : va_W} {v : Value} (hg : gs[kg]? = some ((a, .inr (ci, fs)) :: t)) (hc : vwCl[ci]? = some (C, T, N)) (hj : j < N) (hdc : (T j).1 = C) (hm : Cond.fieldLink own idx C (T j).2.1 (T j).2.2.1 ∈ bw) (hv : fs[j]? = some v) (d : decode cc pc = .ok (.getfield idx, 3)) (kk : G F k n gs (pc + 3) lv (v :: st)) : G F k n gs pc lv (.ref a :: st) := by
  obtain ⟨⟨l, D, cy⟩, p, e, R, s, m, args, below, meth, c, A, nL, X, Q⟩ := F
  obtain ⟨hx, hb, hml, hown, hts, hK, hA, hd1, hd2, hk1, hk2, hX⟩ := hF
  intro H locs ls hP hD hS hl
  obtain ⟨q0, h1, -⟩ := head_at gs kg _ t hg
  exact va_get hx hb hts (cls_ok hc).1 hown hK hP q0 h1 hc j hj (hts _ hm) (fun x h => by rw [← hdc]; exact h) hv d (kk H locs ls hP hD hS hl)
theorem g_getN (hF : Ok F cc own dd kM nM) (kg : Nat) {a ci N j idx : Nat} {C host : String} {T : u_T} {fs : List Value} {t : va_W} {v : Value} (hg : gs[kg]? = some ((a, .inr (ci, fs)) :: t)) (hc : vwCl[ci]? = some (C, T, N)) (hj : j < N) (hdc : (T j).1 = C) (hm : Cond.fieldLinkNest own idx C (T j).2.1 (T j).2.2.1 host ∈ bw) (hv : fs[j]? = some v) (d : decode cc pc = .ok (.getfield idx, 3)) (kk : G F k n gs (pc + 3) lv (v :: st)) : G F k n gs pc lv (.ref a :: st) := by
  obtain ⟨⟨l, D, cy⟩, p, e, R, s, m, args, below, meth, c, A, nL, X, Q⟩ := F
  obtain ⟨hx, hb, hml, hown, hts, hK, hA, hd1, hd2, hk1, hk2, hX⟩ := hF
  intro H locs ls hP hD hS hl
  obtain ⟨q0, h1, -⟩ := head_at gs kg _ t hg
  exact va_getN hx hb hts (cls_ok hc).1 hown hK hP q0 h1 hc j hj (hts _ hm) (fun x h => by rw [← hdc]; exact h) hv d (kk H locs ls hP hD hS hl)
theorem g_put (hF : Ok F cc own dd kM nM) (kg : Nat) {a ci N j idx : Nat} {C : String} {T : u_T} {fs : List Value} {t : va_W} {v : Value} {ty : FieldType} (hg : gs[kg]? = some ((a, .inr (ci, fs)) :: t)) (hc : vwCl[ci]? = some (C, T, N)) (hj : j < N) (hdc : (T j).1 = C) (hm : Cond.fieldLink own idx C (T j).2.1 (T j).2.2.1 ∈ bw) (hfin : (T j).2.2.2 = false) (hty : parseFieldDescriptor (T j).2.2.1 = some ty) (hn : narrow ty v = v) (hfit : fits ty v = true) (hlen : j < fs.length) (d : decode cc pc = .ok (.putfield idx, 3)) (kk : G F k n (gs.set kg ((a, .inr (ci, fs.set j v)) :: t)) (pc + 3) lv st) : G F k n gs pc lv (v :: .ref a :: st) := by
  obtain ⟨⟨l, D, cy⟩, p, e, R, s, m, args, below, meth, c, A, nL, X, Q⟩ := F
  obtain ⟨hx, hb, hml, hown, hts, hK, hA, hd1, hd2, hk1, hk2, hX⟩ := hF
  intro H locs ls hP hD hS hl
  obtain ⟨q0, h1, h2⟩ := head_at gs kg _ t hg
  obtain ⟨hin, ⟨ty0, hty0⟩, hnm⟩ := cls_ok hc
  exact va_put hx hb hts hin ty0 hty0 hnm hown hK hP hD hS q0 h1 hc j hj (hts _ hm) (fun x h => by rw [← hdc]; exact h) hfin hty hn hfit hlen d (fun H1 locs1 hP1 hD1 hS1 => kk H1 locs1 ls (by rw [← h2]; exact hP1) (by rw [← h2]; exact hD1) hS1 hl)
theorem g_putN (hF : Ok F cc own dd kM nM) (kg : Nat) {a ci N j idx : Nat} {C host : String} {T : u_T} {fs : List Value} {t : va_W} {v : Value} {ty : FieldType} (hg : gs[kg]? = some ((a, .inr (ci, fs)) :: t)) (hc : vwCl[ci]? = some (C, T, N)) (hj : j < N) (hdc : (T j).1 = C) (hm : Cond.fieldLinkNest own idx C (T j).2.1 (T j).2.2.1 host ∈ bw) (hfin : (T j).2.2.2 = false) (hty : parseFieldDescriptor (T j).2.2.1 = some ty) (hn : narrow ty v = v) (hfit : fits ty v = true) (hlen : j < fs.length) (d : decode cc pc = .ok (.putfield idx, 3)) (kk : G F k n (gs.set kg ((a, .inr (ci, fs.set j v)) :: t)) (pc + 3) lv st) : G F k n gs pc lv (v :: .ref a :: st) := by
  obtain ⟨⟨l, D, cy⟩, p, e, R, s, m, args, below, meth, c, A, nL, X, Q⟩ := F
  obtain ⟨hx, hb, hml, hown, hts, hK, hA, hd1, hd2, hk1, hk2, hX⟩ := hF
  intro H locs ls hP hD hS hl
  obtain ⟨q0, h1, h2⟩ := head_at gs kg _ t hg
  obtain ⟨hin, ⟨ty0, hty0⟩, hnm⟩ := cls_ok hc
  exact va_putN hx hb hts hin ty0 hty0 hnm hown hK hP hD hS q0 h1 hc j hj (hts _ hm) (fun x h => by rw [← hdc]; exact h) hfin hty hn hfit hlen d (fun H1 locs1 hP1 hD1 hS1 => kk H1 locs1 ls (by rw [← h2]; exact hP1) (by rw [← h2]; exact hD1) hS1 hl)
/-- a final field, in a constructor -/
theorem g_putF (hF : Ok F cc own dd kM nM) (hN : OkN F "<init>") (kg : Nat) {a ci N j idx : Nat} {T : u_T} {fs : List Value} {t : va_W} {v : Value} {ty : FieldType} (hg : gs[kg]? = some ((a, .inr (ci, fs)) :: t)) (hc : vwCl[ci]? = some (own, T, N)) (hj : j < N) (hdc : (T j).1 = own) (hm : Cond.fieldLink own idx own (T j).2.1 (T j).2.2.1 ∈ bw) (hfin : (T j).2.2.2 = true) (hty : parseFieldDescriptor (T j).2.2.1 = some ty) (hn : narrow ty v = v) (hfit : fits ty v = true) (hlen : j < fs.length) (d : decode cc pc = .ok (.putfield idx, 3)) (kk : G F k n (gs.set kg ((a, .inr (ci, fs.set j v)) :: t)) (pc + 3) lv st) : G F k n gs pc lv (v :: .ref a :: st) := by
  obtain ⟨⟨l, D, cy⟩, p, e, R, s, m, args, below, meth, c, A, nL, X, Q⟩ := F
  obtain ⟨hx, hb, hml, hown, hts, hK, hA, hd1, hd2, hk1, hk2, hX⟩ := hF
  intro H locs ls hP hD hS hl
  obtain ⟨q0, h1, h2⟩ := head_at gs kg _ t hg
  obtain ⟨hin, ⟨ty0, hty0⟩, hnm⟩ := cls_ok hc
  exact va_putF hx hb hts hin ty0 hty0 hnm hown hK hP hD hS q0 h1 hc j hj (hts _ hm) (fun x h => by rw [← hdc]; exact h) hfin hN hdc hty hn hfit hlen d (fun H1 locs1 hP1 hD1 hS1 => kk H1 locs1 ls (by rw [← h2]; exact hP1) (by rw [← h2]; exact hD1) hS1 hl)
theorem g_iald {cy : Nat → ClassId} (hF : Ok F cc own dd kM nM) (hcy : F.1.2.2 = cy) (kg : Nat) {a N : Nat} {f : Nat → Int32} {t : va_W} {i v : Int32} (hg : gs[kg]? = some ((a, .inl (cy 0, N, .inl f)) :: t)) (hin : vp_in i N) (hv : f i.toNatClampNeg = v) (d : decode cc pc = .ok (.iaload, 1)) (kk : G F k n gs (pc + 1) lv (.int v :: st)) : G F k n gs pc lv (.int i :: .ref a :: st) := by
  obtain ⟨⟨l, D, cy'⟩, p, e, R, s, m, args, below, meth, c, A, nL, X, Q⟩ := F
  obtain ⟨hx, hb, hml, hown, hts, hK, hA, hd1, hd2, hk1, hk2, hX⟩ := hF
  subst hcy
  subst hv
  intro H locs ls hP hD hS hl
  obtain ⟨q0, h1, h2⟩ := head_at gs kg _ t hg
  exact va_iald hx hb hK hP q0 0 h1 rfl hin d (kk H locs ls hP hD hS hl)
theorem g_iast {cy : Nat → ClassId} (hF : Ok F cc own dd kM nM) (hcy : F.1.2.2 = cy) (kg : Nat) {a N : Nat} {f : Nat → Int32} {t : va_W} {i x : Int32} (j : Nat) (hg : gs[kg]? = some ((a, .inl (cy 0, N, .inl f)) :: t)) (hin : vp_in i N) (hj : i.toNatClampNeg = j) (d : decode cc pc = .ok (.iastore, 1)) (kk : G F k n (gs.set kg ((a, .inl (cy 0, N, .inl (upd f j x))) :: t)) (pc + 1) lv st) : G F k n gs pc lv (.int x :: .int i :: .ref a :: st) := by
  obtain ⟨⟨l, D, cy'⟩, p, e, R, s, m, args, below, meth, c, A, nL, X, Q⟩ := F
  obtain ⟨hx, hb, hml, hown, hts, hK, hA, hd1, hd2, hk1, hk2, hX⟩ := hF
  subst hcy
  subst hj
  intro H locs ls hP hD hS hl
  obtain ⟨q0, h1, h2⟩ := head_at gs kg _ t hg
  exact va_iast hx hb hK hP hD hS q0 0 h1 rfl hin d (fun H1 locs1 hP1 hD1 hS1 => kk H1 locs1 ls (by rw [← h2]; exact hP1) (by rw [← h2]; exact hD1) hS1 hl)
theorem g_alen {cy : Nat → ClassId} (hF : Ok F cc own dd kM nM) (hcy : F.1.2.2 = cy) (kg tk : Nat) {a : Nat} {x : vp_A} {t : va_W} {ty : FieldType} {v : Int32} (hg : gs[kg]? = some ((a, .inl (cy tk, x)) :: t)) (ht : (tyL cy)[tk]? = some (cy tk, ty)) (hv : Int32.ofNat x.1 = v) (d : decode cc pc = .ok (.arraylength, 1)) (kk : G F k n gs (pc + 1) lv (.int v :: st)) : G F k n gs pc lv (.ref a :: st) := by
  obtain ⟨⟨l, D, cy'⟩, p, e, R, s, m, args, below, meth, c, A, nL, X, Q⟩ := F
  obtain ⟨hx, hb, hml, hown, hts, hK, hA, hd1, hd2, hk1, hk2, hX⟩ := hF
  subst hcy
  intro H locs ls hP hD hS hl
  obtain ⟨q0, h1, h2⟩ := head_at gs kg _ t hg
  exact va_alen hx hb hK hP q0 tk h1 ht hv d (kk H locs ls hP hD hS hl)
theorem g_aald {cy : Nat → ClassId} (hF : Ok F cc own dd kM nM) (hcy : F.1.2.2 = cy) (kg tk : Nat) {a N : Nat} {C : String} {f : Nat → Option Nat} {t : va_W} {i : Int32} {v : Nat} (hg : gs[kg]? = some ((a, .inl (cy tk, N, .inr (.inr (.inr (.inr f))))) :: t)) (ht : (tyL cy)[tk]? = some (cy tk, .object C)) (hin : vp_in i N) (hv : f i.toNatClampNeg = some v) (d : decode cc pc = .ok (.aaload, 1)) (kk : G F k n gs (pc + 1) lv (.ref v :: st)) : G F k n gs pc lv (.int i :: .ref a :: st) := by
  obtain ⟨⟨l, D, cy'⟩, p, e, R, s, m, args, below, meth, c, A, nL, X, Q⟩ := F
  obtain ⟨hx, hb, hml, hown, hts, hK, hA, hd1, hd2, hk1, hk2, hX⟩ := hF
  subst hcy
  intro H locs ls hP hD hS hl
  obtain ⟨q0, h1, h2⟩ := head_at gs kg _ t hg
  exact va_aldq hx hb hK hP q0 tk h1 ht hin d (by rw [hv]; exact kk H locs ls hP hD hS hl)
theorem g_aast {cy : Nat → ClassId} (hF : Ok F cc own dd kM nM) (hcy : F.1.2.2 = cy) (kg tk kv : Nat) {a N v ci : Nat} {r : vw_C} {f : Nat → Option Nat} {t tv : va_W} {vs : List Value} {i : Int32} (j : Nat) (hg : gs[kg]? = some ((a, .inl (cy tk, N, .inr (.inr (.inr (.inr f))))) :: t)) (ht : (tyL cy)[tk]? = some (cy tk, .object r.1)) (hv : gs[kv]? = some ((v, .inr (ci, vs)) :: tv)) (hc : vwCl[ci]? = some r) (hin : vp_in i N) (hj : i.toNatClampNeg = j) (d : decode cc pc = .ok (.aastore, 1)) (kk : G F k n (gs.set kg ((a, .inl (cy tk, N, .inr (.inr (.inr (.inr (va_up f j (some v))))))) :: t)) (pc + 1) lv st) : G F k n gs pc lv (.ref v :: .int i :: .ref a :: st) := by
  obtain ⟨⟨l, D, cy'⟩, p, e, R, s, m, args, below, meth, c, A, nL, X, Q⟩ := F
  obtain ⟨hx, hb, hml, hown, hts, hK, hA, hd1, hd2, hk1, hk2, hX⟩ := hF
  subst hcy
  subst hj
  intro H locs ls hP hD hS hl
  obtain ⟨q0, h1, h2⟩ := head_at gs kg _ t hg
  obtain ⟨q1, h3, -⟩ := head_at gs kv _ tv hv
  exact va_astq hx hb hK hP hD hS q0 tk q1 ci h1 ht h3 hc hin d (fun H1 locs1 hP1 hD1 hS1 => kk H1 locs1 ls (by rw [← h2]; exact hP1) (by rw [← h2]; exact hD1) hS1 hl)
/-- the class of an array by its name is one -/
theorem K_uniq {D : va_G} {cl : List vw_C} {tys : List (ClassId × FieldType)} {s : State} {cA cB : ClassId} {ty : FieldType} (hK : va_K D cl (tys ++ [(cA, ty)]) s) (tk : Nat) (hB : tys[tk]? = some (cB, ty)) : cA = cB := by
  have h1 := (hK.2 tys.length (cA, ty) (by simp)).2
  have h2 := (hK.2 tk (cB, ty) (by rw [List.getElem?_append_left (List.getElem?_eq_some_iff.mp hB).1]; exact hB)).2
  cases ty with
  | object C =>
    obtain ⟨_, _, _, _, _, e1⟩ := h1
    obtain ⟨_, _, _, _, _, e2⟩ := h2
    exact Option.some.inj (e1.symm.trans e2)
  | _ => exact Option.some.inj (Eq.trans (Eq.symm h1) h2)
theorem g_newi {cy : Nat → ClassId} (hF : Ok F cc own dd kM nM) (hcy : F.1.2.2 = cy) {i : Int32} {N : Nat} (hm : Cond.arrayClass .int ∈ bw) (hn : ¬ i < 0) (hN : i.toNatClampNeg = N) (hbytes : N ≤ 134217728) (hk : k + 1 ≤ kM) (hn2 : n + N ≤ nM) (d : decode cc pc = .ok (.newarray .int, 2)) (kk : ∀ q : Nat, G F (k + 1) (n + N) (gs ++ [[(q, .inl (cy 0, N, .inl (fun _ => 0)))]]) (pc + 2) lv (.ref q :: st)) : G F k n gs pc lv (.int i :: st) := by
  obtain ⟨⟨l, D, cy'⟩, p, e, R, s, m, args, below, meth, c, A, nL, X, Q⟩ := F
  obtain ⟨hx, hb, hml, hown, hts, hK, hA, hd1, hd2, hk1, hk2, hX⟩ := hF
  subst hcy
  intro H locs ls hP hD hS hl
  refine va_newa (atype := .int) (ty := .int) (N' := N) (a0 := (N, .inl (fun _ => 0))) hx hb (hts _ hm) rfl hK hP hD hS hA (fun cA => rfl) hn hN ?_ (Nat.le_trans hk hk1) (Nat.le_trans hn2 hk2) d (fun q cA H1 hK1 hP1 hD1 hS1 => ?_)
  · show N * 4 ≤ _
    omega
  · have e := K_uniq hK1 0 rfl
    subst e
    exact kk q H1 locs ls (by rw [List.flatten_append]; simpa using hP1) (by rw [List.flatten_append]; simpa using hD1) hS1 hl
theorem g_newq {cy : Nat → ClassId} (hF : Ok F cc own dd kM nM) (hcy : F.1.2.2 = cy) (tk : Nat) {i : Int32} {N idx : Nat} {C : String} (ht : (tyL cy)[tk]? = some (cy tk, .object C)) (hm : Cond.classLink own idx C ∈ bw) (hm2 : Cond.arrayOver (.object C) ∈ bw) (hn : ¬ i < 0) (hN : i.toNatClampNeg = N) (hbytes : N ≤ 134217728) (hk : k + 1 ≤ kM) (hn2 : n + N ≤ nM) (d : decode cc pc = .ok (.anewarray idx, 3)) (kk : ∀ q : Nat, G F (k + 1) (n + N) (gs ++ [[(q, .inl (cy tk, N, .inr (.inr (.inr (.inr (fun _ => none))))))]]) (pc + 3) lv (.ref q :: st)) : G F k n gs pc lv (.int i :: st) := by
  obtain ⟨⟨l, D, cy'⟩, p, e, R, s, m, args, below, meth, c, A, nL, X, Q⟩ := F
  obtain ⟨hx, hb, hml, hown, hts, hK, hA, hd1, hd2, hk1, hk2, hX⟩ := hF
  subst hcy
  intro H locs ls hP hD hS hl
  refine va_newq (N' := N) hx hb hown (hts _ hm) (va_AO.of (hts _ hm2)) hK hP hD hS hA hn hN (by omega) (Nat.le_trans hk hk1) (Nat.le_trans hn2 hk2) d (fun q cA H1 hK1 hP1 hD1 hS1 => ?_)
  have e := K_uniq hK1 tk ht
  subst e
  exact kk q H1 locs ls (by rw [List.flatten_append]; simpa using hP1) (by rw [List.flatten_append]; simpa using hD1) hS1 hl
theorem g_new (hF : Ok F cc own dd kM nM) {ci N idx : Nat} {C : String} {T : u_T} {fs : List Value} (hc : vwCl[ci]? = some (C, T, N)) (ty : Nat → FieldType) (hty : ∀ k, k < N → parseFieldDescriptor (T k).2.2.1 = some (ty k)) (hm1 : Cond.classLink own idx C ∈ bw) (hm2 : Cond.instantiable C N ∈ bw) (hm3 : Cond.initialized C ∈ bw) (hfs : ∀ j, j < N → defaultValue (ty j) = vp_V fs j) (hk : k + 1 ≤ kM) (hn2 : n + N ≤ nM) (d : decode cc pc = .ok (.new idx, 3)) (kk : ∀ q : Nat, G F (k + 1) (n + N) (gs ++ [[(q, .inr (ci, fs))]]) (pc + 3) lv (.ref q :: st)) : G F k n gs pc lv st := by
  obtain ⟨⟨l, D, cy'⟩, p, e, R, s, m, args, below, meth, c, A, nL, X, Q⟩ := F
  obtain ⟨hx, hb, hml, hown, hts, hK, hA, hd1, hd2, hk1, hk2, hX⟩ := hF
  intro H locs ls hP hD hS hl
  refine va_new hx hb hts (cls_ok hc).1 ty hty hown (hts _ hm1) (hts _ hm2) (hts _ hm3) hK hP hD hS hA hc hfs (Nat.le_trans hk hk1) (Nat.le_trans hn2 hk2) d (fun q H1 hP1 hD1 hS1 => ?_)
  exact kk q H1 locs ls (by rw [List.flatten_append]; simpa using hP1) (by rw [List.flatten_append]; simpa using hD1) hS1 hl
theorem g_objInit (hF : Ok F cc own dd kM nM) {idx a : Nat} (hm1 : Cond.methodLink own idx objectInit ∈ bw) (hm2 : Cond.instanceMethod objectInit ∈ bw) (hm3 : Cond.code objectInit ⟨#[0xb1]⟩ 1 none ∈ bw) (hdd : 1 ≤ dd) (hst : (st.map fun v => v.category).sum ≤ 8) (d : decode cc pc = .ok (.invokespecial idx, 3)) (kk : G F k n gs (pc + 3) lv st) : G F k n gs pc lv (.ref a :: st) := by
  obtain ⟨⟨l, D, cy'⟩, p, e, R, s, m, args, below, meth, c, A, nL, X, Q⟩ := F
  obtain ⟨hx, hb, hml, hown, hts, hK, hA, hd1, hd2, hk1, hk2, hX⟩ := hF
  intro H locs ls hP hD hS hl
  exact W.objInit hx hb hown (hts _ hm1) (hts _ hm2) (hts _ hm3) (g := F0 m pc ls (.ref a :: st)) rfl (by rw [hml]; exact hl.1.1) rfl d (Nat.le_trans hdd hd1) (by show 2 * 0 + _ + 12 ≤ _; omega) (kk H locs ls hP hD hS hl)
/-- the script, read alone -/
theorem g_sld {b L : Nat} {xs : Nat → Int32} (hF : Ok F cc own dd kM nM) (hXF : F.2.2.2.2.2.2.2.2.2.2.2.2.1 = some (b, L, xs)) {i v : Int32} (hin : vp_in i L) (hv : xs i.toNatClampNeg = v) (d : decode cc pc = .ok (.iaload, 1)) (kk : G F k n gs (pc + 1) lv (.int v :: st)) : G F k n gs pc lv (.int i :: .ref b :: st) := by
  obtain ⟨⟨l, D, cy'⟩, p, e, R, s, m, args, below, meth, c, A, nL, X, Q⟩ := F
  obtain ⟨hx, hb, hml, hown, hts, hK, hA, hd1, hd2, hk1, hk2, hX⟩ := hF
  subst hXF
  subst hv
  obtain ⟨hX1, hX2, hX3⟩ := hX
  intro H locs ls hP hD hS hl
  exact va_sld hx hb hX1 hX2 hX3 hS hin d (kk H locs ls hP hD hS hl)
theorem g_slen {b L : Nat} {xs : Nat → Int32} (hF : Ok F cc own dd kM nM) (hXF : F.2.2.2.2.2.2.2.2.2.2.2.2.1 = some (b, L, xs)) (d : decode cc pc = .ok (.arraylength, 1)) (kk : G F k n gs (pc + 1) lv (.int (Int32.ofNat L) :: st)) : G F k n gs pc lv (.ref b :: st) := by
  obtain ⟨⟨l, D, cy'⟩, p, e, R, s, m, args, below, meth, c, A, nL, X, Q⟩ := F
  obtain ⟨hx, hb, hml, hown, hts, hK, hA, hd1, hd2, hk1, hk2, hX⟩ := hF
  subst hXF
  obtain ⟨hX1, hX2, hX3⟩ := hX
  intro H locs ls hP hD hS hl
  exact va_slen hx hb hX1 hX2 hX3 hS d (kk H locs ls hP hD hS hl)
end GK6
end
section
/-! MY KIT, fourth: calls -/
section GK7
/-- what the tables say of a callee: found by its receiver's class, its bytes, how many arguments -/
def CalV (y : MethodName) (bytes : ByteArray) (maxL : Nat) (ret : Option FieldType) (na : Nat) : Prop := Cond.instanceMethod y ∈ bw ∧ Cond.selects y.cls y y ∈ bw ∧ Cond.initialized y.cls ∈ bw ∧ Cond.code y bytes maxL ret ∈ bw ∧ (y.cls ≠ "java/lang/invoke/MethodHandle" ∧ y.cls ≠ "java/lang/invoke/VarHandle") ∧ (parseMethodDescriptor y.desc).map (fun d => d.parameters.length) = some na ∧ maxL ≤ 11
def CalS (y : MethodName) (bytes : ByteArray) (maxL : Nat) (ret : Option FieldType) (na : Nat) : Prop := Cond.static y ∈ bw ∧ Cond.initialized y.cls ∈ bw ∧ Cond.code y bytes maxL ret ∈ bw ∧ (y.cls ≠ "java/lang/invoke/MethodHandle" ∧ y.cls ≠ "java/lang/invoke/VarHandle") ∧ (parseMethodDescriptor y.desc).map (fun d => d.parameters.length) = some na ∧ maxL ≤ 11
def CalI (y : MethodName) (bytes : ByteArray) (maxL : Nat) (na : Nat) : Prop := Cond.instanceMethod y ∈ bw ∧ y.name = "<init>" ∧ Cond.initialized y.cls ∈ bw ∧ Cond.code y bytes maxL none ∈ bw ∧ (y.cls ≠ "java/lang/invoke/MethodHandle" ∧ y.cls ≠ "java/lang/invoke/VarHandle") ∧ (parseMethodDescriptor y.desc).map (fun d => d.parameters.length) = some na ∧ maxL ≤ 11
theorem cal_len {y : MethodName} {na : Nat} (h : (parseMethodDescriptor y.desc).map (fun d => d.parameters.length) = some na) : ∀ sig, parseMethodDescriptor y.desc = some sig → na = sig.parameters.length := by
  intro sig hs
  rw [hs] at h
  exact (Option.some.inj h).symm
theorem cal_ws {s : State} {args : Array Value} {y : MethodName} {bytes : ByteArray} {maxL : Nat} {ret : Option FieldType} (hts : ∀ w ∈ bw, w.before args s = true) (hc : Cond.code y bytes maxL ret ∈ bw) : ∀ w ∈ (Cond.code y bytes maxL ret :: bw), ∀ (a' : Array Value) (U : State), s.WarmedH U.vm → w.before a' U = true := by
  intro w hw a' U hW
  rcases List.mem_cons.mp hw with h | h
  · rw [h]; exact bw_warm hW hts _ hc a'
  · exact bw_warm hW hts _ h a'
theorem pc_blind {E : Env3} {X : Ro} {sz : Nat} {av : List Value} {gs : List va_W} : FrameBlind (va_Pc av (fun U => U.heap.size = sz ∧ va_P E.2.1 vwCl gs.flatten U.heap ∧ va_K E.2.1 vwCl (tyL E.2.2) U ∧ va_D (fun _ => True) gs.flatten ∧ roX X U U.heap (va_A gs.flatten sz))) := by
  intro a U g mk q
  obtain ⟨q0, q1, qP, qK, qD, qX⟩ := q
  exact ⟨q0, q1, qP, va_K.moved (u := U) (U := U.calling g mk a) (Vm.Alike.refl U.vm) qK, qD, qX.blind g mk a⟩
variable {F : Fix} {cc : ByteArray} {own : String} {dd kM nM k n pc : Nat} {gs : List va_W} {lv : List (Option Value)} {st : List Value}
/-- behind a call -/
theorem call_tail {p : Program} {l : Launch} {e : Env} {R : Room} {s : State} {m : MethodId} {args : Array Value} {below : List Frame} {meth : Method} {c : Code} {H : Heap} {locs : List Loc} {Q : State → Prop} {D : va_G} {A : Nat → Prop} {nL mc ms : Nat} {ls : Array Slot} {st0 rest : List Value} {gsC : List va_W} {Po : Option Value → List va_W → Prop} {ps : List Nat} {cy : Nat → ClassId} {X : Ro}
    (hr : va_Run p l e R s m args below meth c H locs k n mc ms (F0 m pc ls st0) rest (PostC D H.size gsC Po) (va_A gsC.flatten H.size))
    (hA : ∀ q : Nat, s.heap.size ≤ q → A q) (hP : va_P D vwCl gs.flatten H) (hD : va_D A gs.flatten) (hS : va_S A s.heap H locs) (hl : hasP ls nL lv) (hps : ps.map (fun i => gs[i]?) = gsC.map some) (hnd : va_nd ps = true)
    (kk : ∀ (r : Option Value) (gs' : List va_W), Po r gs' → gsC.length ≤ gs'.length ∧ G ((l, D, cy), p, e, R, s, m, args, below, meth, c, A, nL, X, Q) (k + mc) (n + ms) (gput gs ps gs') (pc + 3) lv (r.toList ++ rest)) : W p l e R s m args below meth c H locs k n Q (F0 m pc ls st0) := by
  have pm := gs_perm hps hnd
  have hP1 := wP_perm pm hP
  have hD1 := wD_perm pm hD
  have hDc := wD_left hD1
  have hFc : ∀ q, va_A gsC.flatten H.size q → A q := fun q h => (va_A_mem.mp h).elim (fun ⟨e, h⟩ => (wD_iff.mp hDc).2 (q, e) h) (fun h => hA q (Nat.le_trans hS.1 h))
  intro T hT X1
  obtain ⟨v, st₀, t, T', L, h0, X', hL, e1, e2, ⟨⟨r, gs', hv, hp, hPn, hDn⟩, hz, hkp⟩, hst⟩ := hr T hT X1
  cases hv
  rw [h0] at hz hkp
  have joined := w_join (H1 := t.heap) hP1 hD1 hkp hFc hPn hDn
  obtain ⟨hlen, hG⟩ := kk v gs' hp
  have pm2 := gput_perm ps gs gs' (by rw [ps_len hps]; exact hlen) hnd (ps_lt hps)
  obtain ⟨t2, a1, b1⟩ := hG T'.heap (locs ++ L) ls (by rw [e1]; exact wP_perm pm2.symm joined.1) (wD_perm pm2.symm joined.2)
    ⟨Nat.le_trans hS.1 (by rw [e1]; exact hz), fun q h1 h2 => by rw [e1, hkp q (Nat.lt_of_lt_of_le h1 hS.1) (fun z => h2 (hFc q z))]; exact hS.2.1 q h1 h2, fun q hq => by
      rcases List.mem_append.mp hq with h | h
      · exact hS.2.2 q h
      · exact hFc _ (hL q h)⟩ hl T' rfl X'
  exact ⟨t2, hst t2 a1, b1⟩
/-- what a callee owes is there -/
theorem call_pre {s : State} {H : Heap} {locs : List Loc} {D : va_G} {cy : Nat → ClassId} {l : Launch} {A : Nat → Prop} {X X' : Ro} {gsC : List va_W} {ps : List Nat} {av : List Value} (hX : roX X s s.heap A) (hXX : X' = none ∨ X' = X) (hK : va_K D vwCl (tyL cy) s) (hA : ∀ q : Nat, s.heap.size ≤ q → A q) (hP : va_P D vwCl gs.flatten H) (hD : va_D A gs.flatten) (hS : va_S A s.heap H locs) (hps : ps.map (fun i => gs[i]?) = gsC.map some) (hnd : va_nd ps = true) :
    ∀ U : State, U.heap = H → s.WarmedH U.vm → va_Pc av (fun U => U.heap.size = H.size ∧ va_P D vwCl gsC.flatten U.heap ∧ va_K D vwCl (tyL cy) U ∧ va_D (fun _ => True) gsC.flatten ∧ roX X' U U.heap (va_A gsC.flatten H.size)) av.toArray U := by
  intro U hU hW
  have pm := gs_perm hps hnd
  have hPc := wP_left (wP_perm pm hP)
  have hDc := wD_left (wD_perm pm hD)
  have hFc : ∀ q, va_A gsC.flatten H.size q → A q := fun q h => (va_A_mem.mp h).elim (fun ⟨e, h⟩ => (wD_iff.mp hDc).2 (q, e) h) (fun h => hA q (Nat.le_trans hS.1 h))
  refine ⟨rfl, by rw [hU], by rw [hU]; exact hPc, va_K.moved hW.alike hK, hDc.weaken (fun _ _ _ _ => trivial), ?_⟩
  rcases hXX with rfl | rfl
  · trivial
  · exact hX.kept hS hFc hU hW
theorem g_callV (hF : Ok F cc own dd kM nM) {X' : Ro} {d mc ms na : Nat} {y : MethodName} {bytes : ByteArray} {maxL : Nat} {ret : Option FieldType} {b : Nat} {As rest : List Value} {gsC : List va_W} {Po : Option Value → List va_W → Prop} (hC : Ct F.1 X' d mc ms y bytes maxL ret (.ref b :: As) gsC Po) (hcal : CalV y bytes maxL ret na) (hna : As.length = na) {idx : Nat} (hl0 : Cond.methodLink own idx y ∈ bw) (hdd : d < dd) (hXX : X' = none ∨ X' = F.2.2.2.2.2.2.2.2.2.2.2.2.1) (hk : k + mc ≤ kM) (hn : n + ms ≤ nM)
    (kg : Nat) {ci N : Nat} {T : u_T} {fs : List Value} {t : va_W} (hg : gs[kg]? = some ((b, .inr (ci, fs)) :: t)) (hc : vwCl[ci]? = some (y.cls, T, N)) (ps : List Nat) (hps : ps.map (fun i => gs[i]?) = gsC.map some) (hnd : va_nd ps = true) (hst : st = As.reverse ++ .ref b :: rest) (hr8 : (rest.map fun v => v.category).sum ≤ 8) (dg : decode cc pc = .ok (.invokevirtual idx, 3))
    (kk : ∀ (r : Option Value) (gs' : List va_W), Po r gs' → gsC.length ≤ gs'.length ∧ G F (k + mc) (n + ms) (gput gs ps gs') (pc + 3) lv (r.toList ++ rest)) : G F k n gs pc lv st := by
  obtain ⟨⟨l, D, cy⟩, p, e, R, s, m, args, below, meth, c, A, nL, X, Q⟩ := F
  obtain ⟨hx, hb, hml, hown, hts, hK, hA, hd1, hd2, hk1, hk2, hX⟩ := hF
  obtain ⟨c1, c2, c3, c4, c5, c6, c7⟩ := hcal
  intro H locs ls hP hD hS hl
  obtain ⟨q0, h1, -⟩ := head_at gs kg _ t hg
  refine call_tail (cy := cy) (X := X) (va_runV (As := As) (rest := rest) (n := na) (own := own) (C := y.cls) (index := idx) (b := b) (g := F0 m pc ls st) (Ts := bw) ⟨hx, hb, hml, hown, hts⟩ (hC H.size) ⟨⟨rfl, rfl, ?_, ?_, cal_ws hts c4, List.mem_cons_self, hts _ c4, hts _ c3, c5, cal_len c6, hts _ hl0⟩, hts _ c1, hts _ c2⟩ ⟨pc_blind, va_recv hK hP hc h1, call_pre (l := l) hX hXX hK hA hP hD hS hps hnd⟩ rfl hna hl.1.1 hst (lv_room hr8) dg ⟨Nat.le_trans hk hk1, Nat.le_trans hn hk2⟩) hA hP hD hS hl hps hnd kk
  · show d + 1 ≤ R.frames
    omega
  · show 8 + (maxL + 11) + 30 * d ≤ R.locals
    omega
theorem g_callS (hF : Ok F cc own dd kM nM) {X' : Ro} {d mc ms na : Nat} {y : MethodName} {bytes : ByteArray} {maxL : Nat} {ret : Option FieldType} {As rest : List Value} {gsC : List va_W} {Po : Option Value → List va_W → Prop} (hC : Ct F.1 X' d mc ms y bytes maxL ret As gsC Po) (hcal : CalS y bytes maxL ret na) (hna : As.length = na) {idx : Nat} (hl0 : Cond.methodLink own idx y ∈ bw) (hdd : d < dd) (hXX : X' = none ∨ X' = F.2.2.2.2.2.2.2.2.2.2.2.2.1) (hk : k + mc ≤ kM) (hn : n + ms ≤ nM)
    (ps : List Nat) (hps : ps.map (fun i => gs[i]?) = gsC.map some) (hnd : va_nd ps = true) (hst : st = As.reverse ++ rest) (hr8 : (rest.map fun v => v.category).sum ≤ 8) (dg : decode cc pc = .ok (.invokestatic idx, 3))
    (kk : ∀ (r : Option Value) (gs' : List va_W), Po r gs' → gsC.length ≤ gs'.length ∧ G F (k + mc) (n + ms) (gput gs ps gs') (pc + 3) lv (r.toList ++ rest)) : G F k n gs pc lv st := by
  obtain ⟨⟨l, D, cy⟩, p, e, R, s, m, args, below, meth, c, A, nL, X, Q⟩ := F
  obtain ⟨hx, hb, hml, hown, hts, hK, hA, hd1, hd2, hk1, hk2, hX⟩ := hF
  obtain ⟨c1, c3, c4, c5, c6, c7⟩ := hcal
  intro H locs ls hP hD hS hl
  refine call_tail (cy := cy) (X := X) (va_runS (As := As) (rest := rest) (n := na) (own := own) (index := idx) (g := F0 m pc ls st) (Ts := bw) ⟨hx, hb, hml, hown, hts⟩ (hC H.size) ⟨⟨rfl, rfl, ?_, ?_, cal_ws hts c4, List.mem_cons_self, hts _ c4, hts _ c3, c5, cal_len c6, hts _ hl0⟩, hts _ c1⟩ ⟨pc_blind, call_pre (l := l) hX hXX hK hA hP hD hS hps hnd⟩ rfl hna hl.1.1 hst (lv_room hr8) dg ⟨Nat.le_trans hk hk1, Nat.le_trans hn hk2⟩) hA hP hD hS hl hps hnd kk
  · show d + 1 ≤ R.frames
    omega
  · show 8 + (maxL + 11) + 30 * d ≤ R.locals
    omega
theorem g_callSN (hF : Ok F cc own dd kM nM) {X' : Ro} {d mc ms na : Nat} {y : MethodName} {bytes : ByteArray} {maxL : Nat} {ret : Option FieldType} {As rest : List Value} {gsC : List va_W} {Po : Option Value → List va_W → Prop} (hC : Ct F.1 X' d mc ms y bytes maxL ret As gsC Po) (hcal : CalS y bytes maxL ret na) (hna : As.length = na) {idx : Nat} {host : String} (hl0 : Cond.methodLinkNest own idx y host ∈ bw) (hdd : d < dd) (hXX : X' = none ∨ X' = F.2.2.2.2.2.2.2.2.2.2.2.2.1) (hk : k + mc ≤ kM) (hn : n + ms ≤ nM)
    (ps : List Nat) (hps : ps.map (fun i => gs[i]?) = gsC.map some) (hnd : va_nd ps = true) (hst : st = As.reverse ++ rest) (hr8 : (rest.map fun v => v.category).sum ≤ 8) (dg : decode cc pc = .ok (.invokestatic idx, 3))
    (kk : ∀ (r : Option Value) (gs' : List va_W), Po r gs' → gsC.length ≤ gs'.length ∧ G F (k + mc) (n + ms) (gput gs ps gs') (pc + 3) lv (r.toList ++ rest)) : G F k n gs pc lv st := by
  obtain ⟨⟨l, D, cy⟩, p, e, R, s, m, args, below, meth, c, A, nL, X, Q⟩ := F
  obtain ⟨hx, hb, hml, hown, hts, hK, hA, hd1, hd2, hk1, hk2, hX⟩ := hF
  obtain ⟨c1, c3, c4, c5, c6, c7⟩ := hcal
  intro H locs ls hP hD hS hl
  refine call_tail (cy := cy) (X := X) (va_runSN (As := As) (rest := rest) (n := na) (own := own) (index := idx) (host := host) (g := F0 m pc ls st) (Ts := bw) ⟨hx, hb, hml, hown, hts⟩ (hC H.size) ⟨⟨⟨rfl, rfl, ?_, ?_, cal_ws hts c4, List.mem_cons_self⟩, hts _ c4, hts _ c3, c5, cal_len c6, hts _ hl0⟩, hts _ c1, trivial⟩ ⟨pc_blind, call_pre (l := l) hX hXX hK hA hP hD hS hps hnd⟩ rfl hna hl.1.1 hst (lv_room hr8) dg ⟨Nat.le_trans hk hk1, Nat.le_trans hn hk2⟩) hA hP hD hS hl hps hnd kk
  · show d + 1 ≤ R.frames
    omega
  · show 8 + (maxL + 11) + 30 * d ≤ R.locals
    omega
theorem g_callI (hF : Ok F cc own dd kM nM) {X' : Ro} {d mc ms na : Nat} {y : MethodName} {bytes : ByteArray} {maxL : Nat} {b : Nat} {As rest : List Value} {gsC : List va_W} {Po : Option Value → List va_W → Prop} (hC : Ct F.1 X' d mc ms y bytes maxL none (.ref b :: As) gsC Po) (hcal : CalI y bytes maxL na) (hna : As.length = na) {idx : Nat} (hl0 : Cond.methodLink own idx y ∈ bw) (hdd : d < dd) (hXX : X' = none ∨ X' = F.2.2.2.2.2.2.2.2.2.2.2.2.1) (hk : k + mc ≤ kM) (hn : n + ms ≤ nM)
    (ps : List Nat) (hps : ps.map (fun i => gs[i]?) = gsC.map some) (hnd : va_nd ps = true) (hst : st = As.reverse ++ .ref b :: rest) (hr8 : (rest.map fun v => v.category).sum ≤ 8) (dg : decode cc pc = .ok (.invokespecial idx, 3))
    (kk : ∀ (r : Option Value) (gs' : List va_W), Po r gs' → gsC.length ≤ gs'.length ∧ G F (k + mc) (n + ms) (gput gs ps gs') (pc + 3) lv (r.toList ++ rest)) : G F k n gs pc lv st := by
  obtain ⟨⟨l, D, cy⟩, p, e, R, s, m, args, below, meth, c, A, nL, X, Q⟩ := F
  obtain ⟨hx, hb, hml, hown, hts, hK, hA, hd1, hd2, hk1, hk2, hX⟩ := hF
  obtain ⟨c1, c2, c3, c4, c5, c6, c7⟩ := hcal
  intro H locs ls hP hD hS hl
  refine call_tail (cy := cy) (X := X) (va_runI (As := As) (rest := rest) (n := na) (own := own) (index := idx) (b := b) (g := F0 m pc ls st) (Ts := bw) ⟨hx, hb, hml, hown, hts⟩ (hC H.size) ⟨⟨rfl, rfl, ?_, ?_, cal_ws hts c4, List.mem_cons_self, hts _ c4, hts _ c3, c5, cal_len c6, hts _ hl0⟩, c2, hts _ c1⟩ ⟨pc_blind, call_pre (l := l) hX hXX hK hA hP hD hS hps hnd⟩ rfl hna hl.1.1 hst (lv_room hr8) dg ⟨Nat.le_trans hk hk1, Nat.le_trans hn hk2⟩) hA hP hD hS hl hps hnd kk
  · show d + 1 ≤ R.frames
    omega
  · show 8 + (maxL + 11) + 30 * d ≤ R.locals
    omega
theorem g_callIN (hF : Ok F cc own dd kM nM) {X' : Ro} {d mc ms na : Nat} {y : MethodName} {bytes : ByteArray} {maxL : Nat} {b : Nat} {As rest : List Value} {gsC : List va_W} {Po : Option Value → List va_W → Prop} (hC : Ct F.1 X' d mc ms y bytes maxL none (.ref b :: As) gsC Po) (hcal : CalI y bytes maxL na) (hna : As.length = na) {idx : Nat} {host : String} (hl0 : Cond.methodLinkNest own idx y host ∈ bw) (hdd : d < dd) (hXX : X' = none ∨ X' = F.2.2.2.2.2.2.2.2.2.2.2.2.1) (hk : k + mc ≤ kM) (hn : n + ms ≤ nM)
    (ps : List Nat) (hps : ps.map (fun i => gs[i]?) = gsC.map some) (hnd : va_nd ps = true) (hst : st = As.reverse ++ .ref b :: rest) (hr8 : (rest.map fun v => v.category).sum ≤ 8) (dg : decode cc pc = .ok (.invokespecial idx, 3))
    (kk : ∀ (r : Option Value) (gs' : List va_W), Po r gs' → gsC.length ≤ gs'.length ∧ G F (k + mc) (n + ms) (gput gs ps gs') (pc + 3) lv (r.toList ++ rest)) : G F k n gs pc lv st := by
  obtain ⟨⟨l, D, cy⟩, p, e, R, s, m, args, below, meth, c, A, nL, X, Q⟩ := F
  obtain ⟨hx, hb, hml, hown, hts, hK, hA, hd1, hd2, hk1, hk2, hX⟩ := hF
  obtain ⟨c1, c2, c3, c4, c5, c6, c7⟩ := hcal
  intro H locs ls hP hD hS hl
  refine call_tail (cy := cy) (X := X) (va_runIN (As := As) (rest := rest) (n := na) (own := own) (index := idx) (host := host) (b := b) (g := F0 m pc ls st) (Ts := bw) ⟨hx, hb, hml, hown, hts⟩ (hC H.size) ⟨⟨⟨rfl, rfl, ?_, ?_, cal_ws hts c4, List.mem_cons_self⟩, hts _ c4, hts _ c3, c5, cal_len c6, hts _ hl0⟩, c2, hts _ c1⟩ ⟨pc_blind, call_pre (l := l) hX hXX hK hA hP hD hS hps hnd⟩ rfl hna hl.1.1 hst (lv_room hr8) dg ⟨Nat.le_trans hk hk1, Nat.le_trans hn hk2⟩) hA hP hD hS hl hps hnd kk
  · show d + 1 ≤ R.frames
    omega
  · show 8 + (maxL + 11) + 30 * d ≤ R.locals
    omega
/-! the same for callees that answer r0, leave g0, and make nothing -/
theorem g_callVd (hF : Ok F cc own dd kM nM) {X' : Ro} {d na : Nat} {y : MethodName} {bytes : ByteArray} {maxL : Nat} {ret : Option FieldType} {b : Nat} {As rest : List Value} {gsC g0 : List va_W} {r0 : Option Value} (hC : Cd F.1 X' d y bytes maxL ret (.ref b :: As) gsC r0 g0) (hcal : CalV y bytes maxL ret na) (hna : As.length = na) {idx : Nat} (hl0 : Cond.methodLink own idx y ∈ bw) (hdd : d < dd) (hXX : X' = none ∨ X' = F.2.2.2.2.2.2.2.2.2.2.2.2.1) (hk : k ≤ kM) (hn : n ≤ nM)
    (kg : Nat) {ci N : Nat} {T : u_T} {fs : List Value} {t : va_W} (hg : gs[kg]? = some ((b, .inr (ci, fs)) :: t)) (hc : vwCl[ci]? = some (y.cls, T, N)) (ps : List Nat) (hps : ps.map (fun i => gs[i]?) = gsC.map some) (hnd : va_nd ps = true) (hlen : gsC.length ≤ g0.length) (hst : st = As.reverse ++ .ref b :: rest) (hr8 : (rest.map fun v => v.category).sum ≤ 8) (dg : decode cc pc = .ok (.invokevirtual idx, 3))
    (kk : G F k n (gput gs ps g0) (pc + 3) lv (r0.toList ++ rest)) : G F k n gs pc lv st :=
  g_callV hF hC hcal hna hl0 hdd hXX hk hn kg hg hc ps hps hnd hst hr8 dg (fun r gs' h => by obtain ⟨rfl, rfl⟩ := h; exact ⟨hlen, kk⟩)
theorem g_callSd (hF : Ok F cc own dd kM nM) {X' : Ro} {d na : Nat} {y : MethodName} {bytes : ByteArray} {maxL : Nat} {ret : Option FieldType} {As rest : List Value} {gsC g0 : List va_W} {r0 : Option Value} (hC : Cd F.1 X' d y bytes maxL ret As gsC r0 g0) (hcal : CalS y bytes maxL ret na) (hna : As.length = na) {idx : Nat} (hl0 : Cond.methodLink own idx y ∈ bw) (hdd : d < dd) (hXX : X' = none ∨ X' = F.2.2.2.2.2.2.2.2.2.2.2.2.1) (hk : k ≤ kM) (hn : n ≤ nM)
    (ps : List Nat) (hps : ps.map (fun i => gs[i]?) = gsC.map some) (hnd : va_nd ps = true) (hlen : gsC.length ≤ g0.length) (hst : st = As.reverse ++ rest) (hr8 : (rest.map fun v => v.category).sum ≤ 8) (dg : decode cc pc = .ok (.invokestatic idx, 3))
    (kk : G F k n (gput gs ps g0) (pc + 3) lv (r0.toList ++ rest)) : G F k n gs pc lv st :=
  g_callS hF hC hcal hna hl0 hdd hXX hk hn ps hps hnd hst hr8 dg (fun r gs' h => by obtain ⟨rfl, rfl⟩ := h; exact ⟨hlen, kk⟩)
theorem g_callSNd (hF : Ok F cc own dd kM nM) {X' : Ro} {d na : Nat} {y : MethodName} {bytes : ByteArray} {maxL : Nat} {ret : Option FieldType} {As rest : List Value} {gsC g0 : List va_W} {r0 : Option Value} (hC : Cd F.1 X' d y bytes maxL ret As gsC r0 g0) (hcal : CalS y bytes maxL ret na) (hna : As.length = na) {idx : Nat} {host : String} (hl0 : Cond.methodLinkNest own idx y host ∈ bw) (hdd : d < dd) (hXX : X' = none ∨ X' = F.2.2.2.2.2.2.2.2.2.2.2.2.1) (hk : k ≤ kM) (hn : n ≤ nM)
    (ps : List Nat) (hps : ps.map (fun i => gs[i]?) = gsC.map some) (hnd : va_nd ps = true) (hlen : gsC.length ≤ g0.length) (hst : st = As.reverse ++ rest) (hr8 : (rest.map fun v => v.category).sum ≤ 8) (dg : decode cc pc = .ok (.invokestatic idx, 3))
    (kk : G F k n (gput gs ps g0) (pc + 3) lv (r0.toList ++ rest)) : G F k n gs pc lv st :=
  g_callSN hF hC hcal hna hl0 hdd hXX hk hn ps hps hnd hst hr8 dg (fun r gs' h => by obtain ⟨rfl, rfl⟩ := h; exact ⟨hlen, kk⟩)
theorem g_callVq (hF : Ok F cc own dd kM nM) {X' : Ro} {d na : Nat} {y : MethodName} {bytes : ByteArray} {maxL : Nat} {ret : Option FieldType} {b : Nat} {As rest : List Value} {gsC : List va_W} {r0 : Option Value} (hC : Cd F.1 X' d y bytes maxL ret (.ref b :: As) gsC r0 gsC) (hcal : CalV y bytes maxL ret na) (hna : As.length = na) {idx : Nat} (hl0 : Cond.methodLink own idx y ∈ bw) (hdd : d < dd) (hXX : X' = none ∨ X' = F.2.2.2.2.2.2.2.2.2.2.2.2.1) (hk : k ≤ kM) (hn : n ≤ nM)
    (kg : Nat) {ci N : Nat} {T : u_T} {fs : List Value} {t : va_W} (hg : gs[kg]? = some ((b, .inr (ci, fs)) :: t)) (hc : vwCl[ci]? = some (y.cls, T, N)) (ps : List Nat) (hps : ps.map (fun i => gs[i]?) = gsC.map some) (hnd : va_nd ps = true) (hst : st = As.reverse ++ .ref b :: rest) (hr8 : (rest.map fun v => v.category).sum ≤ 8) (dg : decode cc pc = .ok (.invokevirtual idx, 3))
    (kk : G F k n gs (pc + 3) lv (r0.toList ++ rest)) : G F k n gs pc lv st :=
  g_callVd hF hC hcal hna hl0 hdd hXX hk hn kg hg hc ps hps hnd (Nat.le_refl _) hst hr8 dg (by rw [gput_same ps gs gsC hps]; exact kk)
theorem g_callSq (hF : Ok F cc own dd kM nM) {X' : Ro} {d na : Nat} {y : MethodName} {bytes : ByteArray} {maxL : Nat} {ret : Option FieldType} {As rest : List Value} {gsC : List va_W} {r0 : Option Value} (hC : Cd F.1 X' d y bytes maxL ret As gsC r0 gsC) (hcal : CalS y bytes maxL ret na) (hna : As.length = na) {idx : Nat} (hl0 : Cond.methodLink own idx y ∈ bw) (hdd : d < dd) (hXX : X' = none ∨ X' = F.2.2.2.2.2.2.2.2.2.2.2.2.1) (hk : k ≤ kM) (hn : n ≤ nM)
    (ps : List Nat) (hps : ps.map (fun i => gs[i]?) = gsC.map some) (hnd : va_nd ps = true) (hst : st = As.reverse ++ rest) (hr8 : (rest.map fun v => v.category).sum ≤ 8) (dg : decode cc pc = .ok (.invokestatic idx, 3))
    (kk : G F k n gs (pc + 3) lv (r0.toList ++ rest)) : G F k n gs pc lv st :=
  g_callSd hF hC hcal hna hl0 hdd hXX hk hn ps hps hnd (Nat.le_refl _) hst hr8 dg (by rw [gput_same ps gs gsC hps]; exact kk)
theorem g_callSNq (hF : Ok F cc own dd kM nM) {X' : Ro} {d na : Nat} {y : MethodName} {bytes : ByteArray} {maxL : Nat} {ret : Option FieldType} {As rest : List Value} {gsC : List va_W} {r0 : Option Value} (hC : Cd F.1 X' d y bytes maxL ret As gsC r0 gsC) (hcal : CalS y bytes maxL ret na) (hna : As.length = na) {idx : Nat} {host : String} (hl0 : Cond.methodLinkNest own idx y host ∈ bw) (hdd : d < dd) (hXX : X' = none ∨ X' = F.2.2.2.2.2.2.2.2.2.2.2.2.1) (hk : k ≤ kM) (hn : n ≤ nM)
    (ps : List Nat) (hps : ps.map (fun i => gs[i]?) = gsC.map some) (hnd : va_nd ps = true) (hst : st = As.reverse ++ rest) (hr8 : (rest.map fun v => v.category).sum ≤ 8) (dg : decode cc pc = .ok (.invokestatic idx, 3))
    (kk : G F k n gs (pc + 3) lv (r0.toList ++ rest)) : G F k n gs pc lv st :=
  g_callSNd hF hC hcal hna hl0 hdd hXX hk hn ps hps hnd (Nat.le_refl _) hst hr8 dg (by rw [gput_same ps gs gsC hps]; exact kk)
theorem g_max (hF : Ok F cc own dd kM nM) {idx : Nat} {x y : Int32} (hm1 : Cond.methodLink own idx Lib.Math.max.name ∈ bw) (hm2 : Cond.static Lib.Math.max.name ∈ bw) (hm3 : Cond.initialized "java/lang/Math" ∈ bw) (hm4 : Cond.code Lib.Math.max.name Lib.Math.max.code 2 (some .int) ∈ bw) (hdd : 1 ≤ dd) (hk : k ≤ kM) (hn : n ≤ nM) (hr8 : (st.map fun v => v.category).sum ≤ 8) (d : decode cc pc = .ok (.invokestatic idx, 3)) (kk : G F k n gs (pc + 3) lv (.int (if x < y then y else x) :: st)) : G F k n gs pc lv (.int y :: .int x :: st) := by
  obtain ⟨⟨l, D, cy'⟩, p, e, R, s, m, args, below, meth, c, A, nL, X, Q⟩ := F
  obtain ⟨hx, hb, hml, hown, hts, hK, hA, hd1, hd2, hk1, hk2, hX⟩ := hF
  intro H locs ls hP hD hS hl
  exact va_mmax hx hb (by rw [hml]; exact hl.1.1.symm) hown (hts _ hm1) (hts _ hm2) (hts _ hm3) (hts _ hm4) (Nat.le_trans hdd hd1) (by omega) (Nat.le_trans hk hk1) (Nat.le_trans hn hk2) d (kk H locs ls hP hD hS hl)
theorem g_min (hF : Ok F cc own dd kM nM) {idx : Nat} {x y : Int32} (hm1 : Cond.methodLink own idx Lib.Math.min.name ∈ bw) (hm2 : Cond.static Lib.Math.min.name ∈ bw) (hm3 : Cond.initialized "java/lang/Math" ∈ bw) (hm4 : Cond.code Lib.Math.min.name Lib.Math.min.code 2 (some .int) ∈ bw) (hdd : 1 ≤ dd) (hk : k ≤ kM) (hn : n ≤ nM) (hr8 : (st.map fun v => v.category).sum ≤ 8) (d : decode cc pc = .ok (.invokestatic idx, 3)) (kk : G F k n gs (pc + 3) lv (.int (if y < x then y else x) :: st)) : G F k n gs pc lv (.int y :: .int x :: st) := by
  obtain ⟨⟨l, D, cy'⟩, p, e, R, s, m, args, below, meth, c, A, nL, X, Q⟩ := F
  obtain ⟨hx, hb, hml, hown, hts, hK, hA, hd1, hd2, hk1, hk2, hX⟩ := hF
  intro H locs ls hP hD hS hl
  exact va_mmin hx hb (by rw [hml]; exact hl.1.1.symm) hown (hts _ hm1) (hts _ hm2) (hts _ hm3) (hts _ hm4) (Nat.le_trans hdd hd1) (by omega) (Nat.le_trans hk hk1) (Nat.le_trans hn hk2) d (kk H locs ls hP hD hS hl)
theorem g_copy {cy : Nat → ClassId} (hF : Ok F cc own dd kM nM) (hcy : F.1.2.2 = cy) (kg0 kg1 : Nat) {idx a0 a1 N0 N1 : Nat} {f g : Nat → Int32} {t0 t1 : va_W} {sp dp z : Int32} (sn dn zn : Nat) (hm1 : Cond.methodLink own idx arraycopyName ∈ bw) (hm2 : Cond.native arraycopyName ∈ bw) (hm3 : Cond.static arraycopyName ∈ bw) (hm4 : Cond.initialized "java/lang/System" ∈ bw) (hdd : 1 ≤ dd) (hg0 : gs[kg0]? = some ((a0, .inl (cy 0, N0, .inl f)) :: t0)) (hg1 : gs[kg1]? = some ((a1, .inl (cy 0, N1, .inl g)) :: t1)) (h1 : ¬ sp < 0) (h2 : ¬ dp < 0) (h3 : ¬ z < 0) (e1 : sp.toNatClampNeg = sn) (e2 : dp.toNatClampNeg = dn) (e3 : z.toNatClampNeg = zn) (h4 : sn + zn ≤ N0) (h5 : dn + zn ≤ N1) (hr8 : (st.map fun v => v.category).sum ≤ 8) (d : decode cc pc = .ok (.invokestatic idx, 3)) (kk : G F k n (gs.set kg1 ((a1, .inl (cy 0, N1, .inl (va_cpy f g sn dn zn))) :: t1)) (pc + 3) lv st) : G F k n gs pc lv (.int z :: .int dp :: .ref a1 :: .int sp :: .ref a0 :: st) := by
  obtain ⟨⟨l, D, cy'⟩, p, e, R, s, m, args, below, meth, c, A, nL, X, Q⟩ := F
  obtain ⟨hx, hb, hml, hown, hts, hK, hA, hd1, hd2, hk1, hk2, hX⟩ := hF
  subst hcy
  subst e1
  subst e2
  subst e3
  intro H locs ls hP hD hS hl
  obtain ⟨q0, g1, -⟩ := head_at gs kg0 _ t0 hg0
  obtain ⟨q1, g2, g3⟩ := head_at gs kg1 _ t1 hg1
  exact va_copyi hx hb (by rw [hml]; exact hl.1.1.symm) hown (hts _ hm1) (hts _ hm2) (hts _ hm3) (hts _ hm4) hK hP hD hS q0 q1 0 0 g1 g2 rfl rfl rfl h1 h2 h3 h4 h5 (fun _ _ => rfl) (Nat.le_trans hdd hd1) (by rw [show nativeFrameWords "java/lang/System" "arraycopy" 5 = 7 by decide +kernel]; omega) d (fun H1 locs1 hP1 hD1 hS1 => kk H1 locs1 ls (by rw [← g3]; exact hP1) (by rw [← g3]; exact hD1) hS1 hl)
end GK7
end
section
/-! what the tables say of each method -/
theorem cal_X0_init : CalI yX0_init cX0_init 1 0 := ⟨m_119, rfl, m_7, m_120, ⟨by decide +kernel, by decide +kernel⟩, by decide +kernel, by decide⟩
theorem cal_X0_describeStore : CalV yX0_describeStore cX0_describeStore 4 none 3 := ⟨m_514, m_515, m_7, m_516, ⟨by decide +kernel, by decide +kernel⟩, by decide +kernel, by decide⟩
theorem cal_X0_changed : CalV yX0_changed cX0_changed 2 (some .boolean) 1 := ⟨m_571, m_572, m_7, m_573, ⟨by decide +kernel, by decide +kernel⟩, by decide +kernel, by decide⟩
theorem cal_X0_tellOf : CalV yX0_tellOf cX0_tellOf 2 (some .int) 1 := ⟨m_691, m_692, m_7, m_693, ⟨by decide +kernel, by decide +kernel⟩, by decide +kernel, by decide⟩
theorem cal_X1_init : CalI yX1_init cX1_init 2 0 := ⟨m_112, rfl, m_6, m_113, ⟨by decide +kernel, by decide +kernel⟩, by decide +kernel, by decide⟩
theorem cal_X1_size : CalV yX1_size cX1_size 1 (some .int) 0 := ⟨m_622, m_623, m_6, m_624, ⟨by decide +kernel, by decide +kernel⟩, by decide +kernel, by decide⟩
theorem cal_X1_clear : CalV yX1_clear cX1_clear 1 none 0 := ⟨m_391, m_392, m_6, m_393, ⟨by decide +kernel, by decide +kernel⟩, by decide +kernel, by decide⟩
theorem cal_X1_newest : CalV yX1_newest cX1_newest 1 (some (.object "Lantern$Moment")) 0 := ⟨m_501, m_502, m_6, m_503, ⟨by decide +kernel, by decide +kernel⟩, by decide +kernel, by decide⟩
theorem cal_X1_dropLatest : CalV yX1_dropLatest cX1_dropLatest 1 none 0 := ⟨m_614, m_615, m_6, m_616, ⟨by decide +kernel, by decide +kernel⟩, by decide +kernel, by decide⟩
theorem cal_X1_ago : CalV yX1_ago cX1_ago 2 (some (.object "Lantern$Moment")) 1 := ⟨m_559, m_560, m_6, m_561, ⟨by decide +kernel, by decide +kernel⟩, by decide +kernel, by decide⟩
theorem cal_X1_stepAt : CalV yX1_stepAt cX1_stepAt 3 (some .int) 1 := ⟨m_731, s_21, m_6, m_732, ⟨by decide +kernel, by decide +kernel⟩, by decide +kernel, by decide⟩
theorem cal_X1_cellAgo : CalV yX1_cellAgo cX1_cellAgo 7 (some .int) 3 := ⟨m_682, m_683, m_6, m_684, ⟨by decide +kernel, by decide +kernel⟩, by decide +kernel, by decide⟩
theorem cal_X1_storedAgo : CalV yX1_storedAgo cX1_storedAgo 4 (some .int) 1 := ⟨m_699, m_700, m_6, m_701, ⟨by decide +kernel, by decide +kernel⟩, by decide +kernel, by decide⟩
theorem cal_X1_writeSteps : CalV yX1_writeSteps cX1_writeSteps 3 none 1 := ⟨m_725, m_726, m_6, m_727, ⟨by decide +kernel, by decide +kernel⟩, by decide +kernel, by decide⟩
theorem cal_X1_firstOther : CalV yX1_firstOther cX1_firstOther 4 (some .int) 1 := ⟨m_745, m_746, m_6, m_747, ⟨by decide +kernel, by decide +kernel⟩, by decide +kernel, by decide⟩
theorem cal_X2_init : CalI yX2_init cX2_init 1 0 := ⟨m_181, rfl, m_8, m_182, ⟨by decide +kernel, by decide +kernel⟩, by decide +kernel, by decide⟩
theorem cal_X2_place : CalV yX2_place cX2_place 3 none 2 := ⟨m_436, m_437, m_8, m_438, ⟨by decide +kernel, by decide +kernel⟩, by decide +kernel, by decide⟩
theorem cal_X2_isHit : CalV yX2_isHit cX2_isHit 2 (some .boolean) 1 := ⟨m_583, m_584, m_8, m_585, ⟨by decide +kernel, by decide +kernel⟩, by decide +kernel, by decide⟩
theorem cal_X2_holds : CalV yX2_holds cX2_holds 2 (some .boolean) 1 := ⟨m_589, s_16, m_8, m_590, ⟨by decide +kernel, by decide +kernel⟩, by decide +kernel, by decide⟩
theorem cal_X2_letsPass : CalV yX2_letsPass cX2_letsPass 1 (some .boolean) 0 := ⟨m_592, m_593, m_8, m_594, ⟨by decide +kernel, by decide +kernel⟩, by decide +kernel, by decide⟩
theorem cal_X3_init : CalI yX3_init cX3_init 1 0 := ⟨m_29, rfl, m_2, m_30, ⟨by decide +kernel, by decide +kernel⟩, by decide +kernel, by decide⟩
theorem cal_X3_allows : CalS yX3_allows cX3_allows 2 (some .boolean) 2 := ⟨m_828, m_2, m_829, ⟨by decide +kernel, by decide +kernel⟩, by decide +kernel, by decide⟩
theorem cal_X3_size : CalV yX3_size cX3_size 1 (some .int) 0 := ⟨m_408, m_409, m_2, m_410, ⟨by decide +kernel, by decide +kernel⟩, by decide +kernel, by decide⟩
theorem cal_X3_isFull : CalV yX3_isFull cX3_isFull 1 (some .boolean) 0 := ⟨m_833, m_834, m_2, m_835, ⟨by decide +kernel, by decide +kernel⟩, by decide +kernel, by decide⟩
theorem cal_X3_has : CalV yX3_has cX3_has 2 (some .boolean) 1 := ⟨m_464, m_465, m_2, m_466, ⟨by decide +kernel, by decide +kernel⟩, by decide +kernel, by decide⟩
theorem cal_X3_codeAt : CalV yX3_codeAt cX3_codeAt 2 (some .int) 1 := ⟨m_472, m_473, m_2, m_474, ⟨by decide +kernel, by decide +kernel⟩, by decide +kernel, by decide⟩
theorem cal_X3_numberAt : CalV yX3_numberAt cX3_numberAt 2 (some .int) 1 := ⟨m_509, m_510, m_2, m_511, ⟨by decide +kernel, by decide +kernel⟩, by decide +kernel, by decide⟩
theorem cal_X3_timesAt : CalV yX3_timesAt cX3_timesAt 2 (some .int) 1 := ⟨m_664, m_665, m_2, m_666, ⟨by decide +kernel, by decide +kernel⟩, by decide +kernel, by decide⟩
theorem cal_X3_add : CalV yX3_add cX3_add 3 none 2 := ⟨m_839, m_840, m_2, m_841, ⟨by decide +kernel, by decide +kernel⟩, by decide +kernel, by decide⟩
theorem cal_X3_countTime : CalV yX3_countTime cX3_countTime 2 none 1 := ⟨m_497, m_498, m_2, m_499, ⟨by decide +kernel, by decide +kernel⟩, by decide +kernel, by decide⟩
theorem cal_X3_forgetTimes : CalV yX3_forgetTimes cX3_forgetTimes 2 none 0 := ⟨m_395, m_396, m_2, m_397, ⟨by decide +kernel, by decide +kernel⟩, by decide +kernel, by decide⟩
theorem cal_X4_init : CalI yX4_init cX4_init 2 1 := ⟨m_35, rfl, m_3, m_36, ⟨by decide +kernel, by decide +kernel⟩, by decide +kernel, by decide⟩
theorem cal_X4_size : CalV yX4_size cX4_size 1 (some .int) 0 := ⟨m_368, m_369, m_3, m_370, ⟨by decide +kernel, by decide +kernel⟩, by decide +kernel, by decide⟩
theorem cal_X4_isFull : CalV yX4_isFull cX4_isFull 1 (some .boolean) 0 := ⟨m_292, m_293, m_3, m_294, ⟨by decide +kernel, by decide +kernel⟩, by decide +kernel, by decide⟩
theorem cal_X4_has : CalV yX4_has cX4_has 2 (some .boolean) 1 := ⟨m_468, m_469, m_3, m_470, ⟨by decide +kernel, by decide +kernel⟩, by decide +kernel, by decide⟩
theorem cal_X4_get : CalV yX4_get cX4_get 2 (some .int) 1 := ⟨m_476, m_477, m_3, m_478, ⟨by decide +kernel, by decide +kernel⟩, by decide +kernel, by decide⟩
theorem cal_X4_fromTop : CalV yX4_fromTop cX4_fromTop 2 (some .int) 1 := ⟨m_484, m_485, m_3, m_486, ⟨by decide +kernel, by decide +kernel⟩, by decide +kernel, by decide⟩
theorem cal_X4_put : CalV yX4_put cX4_put 3 none 2 := ⟨m_400, m_401, m_3, m_402, ⟨by decide +kernel, by decide +kernel⟩, by decide +kernel, by decide⟩
theorem cal_X4_putFromTop : CalV yX4_putFromTop cX4_putFromTop 3 none 2 := ⟨m_609, m_610, m_3, m_611, ⟨by decide +kernel, by decide +kernel⟩, by decide +kernel, by decide⟩
theorem cal_X4_push : CalV yX4_push cX4_push 2 none 1 := ⟨m_364, m_365, m_3, m_366, ⟨by decide +kernel, by decide +kernel⟩, by decide +kernel, by decide⟩
theorem cal_X4_pop : CalV yX4_pop cX4_pop 1 (some .int) 0 := ⟨m_523, m_524, m_3, m_525, ⟨by decide +kernel, by decide +kernel⟩, by decide +kernel, by decide⟩
theorem cal_X4_resize : CalV yX4_resize cX4_resize 2 none 1 := ⟨m_384, m_385, m_3, m_386, ⟨by decide +kernel, by decide +kernel⟩, by decide +kernel, by decide⟩
theorem cal_X4_fillWithZeros : CalV yX4_fillWithZeros cX4_fillWithZeros 2 none 0 := ⟨m_70, m_71, m_3, m_72, ⟨by decide +kernel, by decide +kernel⟩, by decide +kernel, by decide⟩
theorem cal_X4_copyFrom : CalV yX4_copyFrom cX4_copyFrom 2 none 1 := ⟨m_717, m_718, m_3, m_719, ⟨by decide +kernel, by decide +kernel⟩, by decide +kernel, by decide⟩
theorem cal_X4_mixedInto : CalV yX4_mixedInto cX4_mixedInto 6 (some .long) 1 := ⟨m_793, m_794, m_3, m_795, ⟨by decide +kernel, by decide +kernel⟩, by decide +kernel, by decide⟩
theorem cal_X4_mixedFromTopInto : CalV yX4_mixedFromTopInto cX4_mixedFromTopInto 6 (some .long) 1 := ⟨m_787, m_788, m_3, m_789, ⟨by decide +kernel, by decide +kernel⟩, by decide +kernel, by decide⟩
theorem cal_X5_init : CalI yX5_init cX5_init 1 0 := ⟨m_64, rfl, m_5, m_65, ⟨by decide +kernel, by decide +kernel⟩, by decide +kernel, by decide⟩
theorem cal_X5_clear : CalV yX5_clear cX5_clear 1 none 0 := ⟨m_380, m_381, m_5, m_382, ⟨by decide +kernel, by decide +kernel⟩, by decide +kernel, by decide⟩
theorem cal_X5_copyFrom : CalV yX5_copyFrom cX5_copyFrom 2 none 1 := ⟨m_756, m_757, m_5, m_758, ⟨by decide +kernel, by decide +kernel⟩, by decide +kernel, by decide⟩
theorem cal_X5_readies : CalV yX5_readies cX5_readies 2 (some .boolean) 1 := ⟨m_456, m_457, m_5, m_458, ⟨by decide +kernel, by decide +kernel⟩, by decide +kernel, by decide⟩
theorem cal_X5_failureOf : CalV yX5_failureOf cX5_failureOf 3 (some .int) 1 := ⟨m_461, s_5, m_5, m_462, ⟨by decide +kernel, by decide +kernel⟩, by decide +kernel, by decide⟩
theorem cal_X5_needOnStack : CalS yX5_needOnStack cX5_needOnStack 1 (some .int) 1 := ⟨m_481, m_5, m_482, ⟨by decide +kernel, by decide +kernel⟩, by decide +kernel, by decide⟩
theorem cal_X5_isTooFullFor : CalV yX5_isTooFullFor cX5_isTooFullFor 2 (some .boolean) 1 := ⟨m_493, s_6, m_5, m_494, ⟨by decide +kernel, by decide +kernel⟩, by decide +kernel, by decide⟩
theorem cal_X5_perform : CalV yX5_perform cX5_perform 6 none 2 := ⟨m_518, m_519, m_5, m_520, ⟨by decide +kernel, by decide +kernel⟩, by decide +kernel, by decide⟩
theorem cal_X5_swap : CalV yX5_swap cX5_swap 3 none 0 := ⟨m_528, s_7, m_5, m_529, ⟨by decide +kernel, by decide +kernel⟩, by decide +kernel, by decide⟩
theorem cal_X5_storeAt : CalV yX5_storeAt cX5_storeAt 2 none 0 := ⟨m_536, s_8, m_5, m_537, ⟨by decide +kernel, by decide +kernel⟩, by decide +kernel, by decide⟩
theorem cal_X5_readFrom : CalV yX5_readFrom cX5_readFrom 2 (some .int) 1 := ⟨m_540, s_9, m_5, m_541, ⟨by decide +kernel, by decide +kernel⟩, by decide +kernel, by decide⟩
theorem cal_X5_reckon : CalV yX5_reckon cX5_reckon 4 none 1 := ⟨m_545, s_10, m_5, m_546, ⟨by decide +kernel, by decide +kernel⟩, by decide +kernel, by decide⟩
theorem cal_X5_reckoned : CalS yX5_reckoned cX5_reckoned 3 (some .int) 3 := ⟨m_548, m_5, m_549, ⟨by decide +kernel, by decide +kernel⟩, by decide +kernel, by decide⟩
theorem cal_X5_describe : CalV yX5_describe cX5_describe 4 none 2 := ⟨m_505, m_506, m_5, m_507, ⟨by decide +kernel, by decide +kernel⟩, by decide +kernel, by decide⟩
theorem cal_X5_goBackTo : CalV yX5_goBackTo cX5_goBackTo 2 none 1 := ⟨m_605, m_606, m_5, m_607, ⟨by decide +kernel, by decide +kernel⟩, by decide +kernel, by decide⟩
theorem cal_X5_mixedInto : CalV yX5_mixedInto cX5_mixedInto 5 (some .long) 1 := ⟨m_783, m_784, m_5, m_785, ⟨by decide +kernel, by decide +kernel⟩, by decide +kernel, by decide⟩
theorem cal_X6_init : CalI yX6_init cX6_init 1 0 := ⟨m_230, rfl, m_10, m_231, ⟨by decide +kernel, by decide +kernel⟩, by decide +kernel, by decide⟩
theorem cal_X7_init : CalI yX7_init cX7_init 1 0 := ⟨m_213, rfl, m_9, m_214, ⟨by decide +kernel, by decide +kernel⟩, by decide +kernel, by decide⟩
theorem cal_X7_isMetBy : CalV yX7_isMetBy cX7_isMetBy 2 (some .boolean) 1 := ⟨m_567, m_568, m_9, m_569, ⟨by decide +kernel, by decide +kernel⟩, by decide +kernel, by decide⟩
theorem cal_X8_init : CalI yX8_init cX8_init 2 0 := ⟨m_21, rfl, m_1, m_22, ⟨by decide +kernel, by decide +kernel⟩, by decide +kernel, by decide⟩
theorem cal_X8_step : CalV yX8_step cX8_step 3 (some .int) 2 := ⟨m_824, m_825, m_1, m_826, ⟨by decide +kernel, by decide +kernel⟩, by decide +kernel, by decide⟩
theorem cal_X8_give : CalV yX8_give cX8_give 2 (some .int) 1 := ⟨m_288, m_289, m_1, m_290, ⟨by decide +kernel, by decide +kernel⟩, by decide +kernel, by decide⟩
theorem cal_X8_restart : CalV yX8_restart cX8_restart 1 (some .int) 0 := ⟨m_372, m_373, m_1, m_374, ⟨by decide +kernel, by decide +kernel⟩, by decide +kernel, by decide⟩
theorem cal_X8_start : CalV yX8_start cX8_start 1 none 0 := ⟨m_377, s_1, m_1, m_378, ⟨by decide +kernel, by decide +kernel⟩, by decide +kernel, by decide⟩
theorem cal_X8_point : CalV yX8_point cX8_point 3 (some .int) 2 := ⟨m_412, m_413, m_1, m_414, ⟨by decide +kernel, by decide +kernel⟩, by decide +kernel, by decide⟩
theorem cal_X8_isCell : CalS yX8_isCell cX8_isCell 1 (some .boolean) 1 := ⟨m_489, m_1, m_490, ⟨by decide +kernel, by decide +kernel⟩, by decide +kernel, by decide⟩
theorem cal_X8_isPass : CalS yX8_isPass cX8_isPass 1 (some .boolean) 1 := ⟨m_416, m_1, m_417, ⟨by decide +kernel, by decide +kernel⟩, by decide +kernel, by decide⟩
theorem cal_X8_pointNumbered : CalV yX8_pointNumbered cX8_pointNumbered 2 (some (.object "Lantern$Point")) 1 := ⟨m_580, s_15, m_1, m_581, ⟨by decide +kernel, by decide +kernel⟩, by decide +kernel, by decide⟩
theorem cal_X8_watchNumbered : CalV yX8_watchNumbered cX8_watchNumbered 2 (some (.object "Lantern$Watch")) 1 := ⟨m_564, s_13, m_1, m_565, ⟨by decide +kernel, by decide +kernel⟩, by decide +kernel, by decide⟩
theorem cal_X8_run : CalV yX8_run cX8_run 2 (some .int) 1 := ⟨m_440, m_441, m_1, m_442, ⟨by decide +kernel, by decide +kernel⟩, by decide +kernel, by decide⟩
theorem cal_X8_back : CalV yX8_back cX8_back 3 (some .int) 1 := ⟨m_596, m_597, m_1, m_598, ⟨by decide +kernel, by decide +kernel⟩, by decide +kernel, by decide⟩
theorem cal_X8_isRunLength : CalS yX8_isRunLength cX8_isRunLength 1 (some .boolean) 1 := ⟨m_444, m_1, m_445, ⟨by decide +kernel, by decide +kernel⟩, by decide +kernel, by decide⟩
theorem cal_X8_stopBy : CalV yX8_stopBy cX8_stopBy 3 none 2 := ⟨m_405, s_2, m_1, m_406, ⟨by decide +kernel, by decide +kernel⟩, by decide +kernel, by decide⟩
theorem cal_X8_runTill : CalV yX8_runTill cX8_runTill 4 (some .int) 2 := ⟨m_449, s_3, m_1, m_450, ⟨by decide +kernel, by decide +kernel⟩, by decide +kernel, by decide⟩
theorem cal_X8_doStep : CalV yX8_doStep cX8_doStep 1 (some .boolean) 0 := ⟨m_453, s_4, m_1, m_454, ⟨by decide +kernel, by decide +kernel⟩, by decide +kernel, by decide⟩
theorem cal_X8_stopsRun : CalV yX8_stopsRun cX8_stopsRun 5 (some .boolean) 1 := ⟨m_552, s_11, m_1, m_553, ⟨by decide +kernel, by decide +kernel⟩, by decide +kernel, by decide⟩
theorem cal_X8_watchMet : CalV yX8_watchMet cX8_watchMet 4 (some .int) 0 := ⟨m_556, s_12, m_1, m_557, ⟨by decide +kernel, by decide +kernel⟩, by decide +kernel, by decide⟩
theorem cal_X8_pointStopping : CalV yX8_pointStopping cX8_pointStopping 4 (some .int) 0 := ⟨m_576, s_14, m_1, m_577, ⟨by decide +kernel, by decide +kernel⟩, by decide +kernel, by decide⟩
theorem cal_X8_goBack : CalV yX8_goBack cX8_goBack 2 (some (.object "Lantern$Moment")) 0 := ⟨m_602, s_17, m_1, m_603, ⟨by decide +kernel, by decide +kernel⟩, by decide +kernel, by decide⟩
theorem cal_X8_told : CalV yX8_told cX8_told 2 (some .int) 1 := ⟨m_618, m_619, m_1, m_620, ⟨by decide +kernel, by decide +kernel⟩, by decide +kernel, by decide⟩
theorem cal_X8_stack : CalV yX8_stack cX8_stack 2 (some .int) 1 := ⟨m_627, m_628, m_1, m_629, ⟨by decide +kernel, by decide +kernel⟩, by decide +kernel, by decide⟩
theorem cal_X8_cell : CalV yX8_cell cX8_cell 2 (some .int) 1 := ⟨m_649, m_650, m_1, m_651, ⟨by decide +kernel, by decide +kernel⟩, by decide +kernel, by decide⟩
theorem cal_X8_frame : CalV yX8_frame cX8_frame 2 (some .int) 1 := ⟨m_849, m_850, m_1, m_851, ⟨by decide +kernel, by decide +kernel⟩, by decide +kernel, by decide⟩
theorem cal_X8_output : CalV yX8_output cX8_output 2 (some .int) 1 := ⟨m_854, m_855, m_1, m_856, ⟨by decide +kernel, by decide +kernel⟩, by decide +kernel, by decide⟩
theorem cal_X8_ofStep : CalV yX8_ofStep cX8_ofStep 3 (some .int) 2 := ⟨m_656, m_657, m_1, m_658, ⟨by decide +kernel, by decide +kernel⟩, by decide +kernel, by decide⟩
theorem cal_X8_ofPoint : CalV yX8_ofPoint cX8_ofPoint 4 (some .int) 2 := ⟨m_669, m_670, m_1, m_671, ⟨by decide +kernel, by decide +kernel⟩, by decide +kernel, by decide⟩
theorem cal_X8_then : CalV yX8_then cX8_then 4 (some .int) 2 := ⟨m_676, m_677, m_1, m_678, ⟨by decide +kernel, by decide +kernel⟩, by decide +kernel, by decide⟩
theorem cal_X8_wroteAgo : CalV yX8_wroteAgo cX8_wroteAgo 2 (some .int) 1 := ⟨m_695, m_696, m_1, m_697, ⟨by decide +kernel, by decide +kernel⟩, by decide +kernel, by decide⟩
theorem cal_X8_ofNow : CalV yX8_ofNow cX8_ofNow 2 (some .int) 1 := ⟨m_688, s_18, m_1, m_689, ⟨by decide +kernel, by decide +kernel⟩, by decide +kernel, by decide⟩
theorem cal_X8_truth : CalS yX8_truth cX8_truth 1 (some .int) 1 := ⟨m_531, m_1, m_532, ⟨by decide +kernel, by decide +kernel⟩, by decide +kernel, by decide⟩
theorem cal_X8_record : CalV yX8_record cX8_record 3 (some .int) 1 := ⟨m_703, m_704, m_1, m_705, ⟨by decide +kernel, by decide +kernel⟩, by decide +kernel, by decide⟩
theorem cal_X8_replay : CalV yX8_replay cX8_replay 4 (some .int) 1 := ⟨m_735, m_736, m_1, m_737, ⟨by decide +kernel, by decide +kernel⟩, by decide +kernel, by decide⟩
theorem cal_X8_parts : CalV yX8_parts cX8_parts 3 (some .int) 1 := ⟨m_740, m_741, m_1, m_742, ⟨by decide +kernel, by decide +kernel⟩, by decide +kernel, by decide⟩
theorem cal_X8_tapeAt : CalV yX8_tapeAt cX8_tapeAt 2 (some (.object "Lantern$Tape")) 1 := ⟨m_708, s_19, m_1, m_709, ⟨by decide +kernel, by decide +kernel⟩, by decide +kernel, by decide⟩
theorem cal_X8_beginsAtStart : CalV yX8_beginsAtStart cX8_beginsAtStart 1 (some .boolean) 0 := ⟨m_713, s_20, m_1, m_714, ⟨by decide +kernel, by decide +kernel⟩, by decide +kernel, by decide⟩
theorem cal_X8_endsIn : CalV yX8_endsIn cX8_endsIn 3 (some .int) 1 := ⟨m_752, m_753, m_1, m_754, ⟨by decide +kernel, by decide +kernel⟩, by decide +kernel, by decide⟩
theorem cal_X8_cellIn : CalV yX8_cellIn cX8_cellIn 3 (some .int) 2 := ⟨m_765, m_766, m_1, m_767, ⟨by decide +kernel, by decide +kernel⟩, by decide +kernel, by decide⟩
theorem cal_X8_heat : CalV yX8_heat cX8_heat 4 (some .double) 0 := ⟨m_769, m_770, m_1, m_771, ⟨by decide +kernel, by decide +kernel⟩, by decide +kernel, by decide⟩
theorem cal_X8_digest : CalV yX8_digest cX8_digest 4 (some .long) 0 := ⟨m_773, m_774, m_1, m_775, ⟨by decide +kernel, by decide +kernel⟩, by decide +kernel, by decide⟩
theorem cal_X8_tryOut : CalV yX8_tryOut cX8_tryOut 4 (some .int) 2 := ⟨m_762, s_22, m_1, m_763, ⟨by decide +kernel, by decide +kernel⟩, by decide +kernel, by decide⟩
theorem cal_X8_mixed : CalS yX8_mixed cX8_mixed 3 (some .long) 2 := ⟨m_779, m_1, m_780, ⟨by decide +kernel, by decide +kernel⟩, by decide +kernel, by decide⟩
theorem cal_X8_mixedProgram : CalV yX8_mixedProgram cX8_mixedProgram 6 (some .long) 1 := ⟨m_798, s_23, m_1, m_799, ⟨by decide +kernel, by decide +kernel⟩, by decide +kernel, by decide⟩
theorem cal_X8_mixedPoints : CalV yX8_mixedPoints cX8_mixedPoints 7 (some .long) 1 := ⟨m_802, s_24, m_1, m_803, ⟨by decide +kernel, by decide +kernel⟩, by decide +kernel, by decide⟩
theorem cal_X8_mixedThen : CalV yX8_mixedThen cX8_mixedThen 7 (some .long) 2 := ⟨m_806, s_25, m_1, m_807, ⟨by decide +kernel, by decide +kernel⟩, by decide +kernel, by decide⟩
theorem cal_L_below : CalS yL_below cL_below 2 (some .int) 2 := ⟨m_811, m_0, m_812, ⟨by decide +kernel, by decide +kernel⟩, by decide +kernel, by decide⟩
theorem cal_L_cell : CalS yL_cell cL_cell 2 (some .int) 2 := ⟨m_815, m_0, m_816, ⟨by decide +kernel, by decide +kernel⟩, by decide +kernel, by decide⟩
theorem cal_L_program : CalS yL_program cL_program 9 (some (.array (.array .int))) 3 := ⟨m_819, m_0, m_820, ⟨by decide +kernel, by decide +kernel⟩, by decide +kernel, by decide⟩
theorem cal_L_state : CalS yL_state cL_state 4 (some .long) 1 := ⟨m_844, m_0, m_845, ⟨by decide +kernel, by decide +kernel⟩, by decide +kernel, by decide⟩
end
section
/-! Row: a row of numbers, up to a bound -/
def rowW (cy : Nat → ClassId) (h a cap : Nat) (f : Nat → Int32) (n : Nat) : va_W := [(h, .inr (4, [.ref a, .int (nI n)])), (a, .inl (cy 0, cap, .inl f))]
def bI (b : Bool) : Int32 := if b then 1 else 0
def rowGet (f : Nat → Int32) (n : Nat) (i : Int32) : Int32 := if i < 0 then 0 else if nI n ≤ i then 0 else f i.toNatClampNeg
def rowPut (f : Nat → Int32) (n : Nat) (i x : Int32) : Nat → Int32 := if i < 0 then f else if nI n ≤ i then f else upd f i.toNatClampNeg x
def rowHas (n : Nat) (i : Int32) : Bool := !decide (i < 0) && !decide (nI n ≤ i)
def clampI (k : Int32) (cap : Nat) : Nat := if k < 0 then 0 else min k.toNatClampNeg cap
def zeroTo (f : Nat → Int32) (i : Nat) : Nat → Int32 := fun j => if j < i then 0 else f j
def mixS (g : Nat → Int32) : Nat → Int64 → Int64
  | 0, d => d
  | k + 1, d => mixS g k d * 31 + (g k).toInt64
theorem up_loop {Q : Nat → Prop} {N : Nat} (hx : Q N) (hs : ∀ i, i < N → Q (i + 1) → Q i) : ∀ i, i ≤ N → Q i := by
  have key : ∀ d i, i + d = N → Q i := by
    intro d
    induction d with
    | zero => intro i hi; rw [show i = N by omega]; exact hx
    | succ d ih => intro i hi; exact hs i (by omega) (ih (i + 1) (by omega))
  intro i hi
  exact key (N - i) i (by omega)
theorem in_of {i : Int32} {n cap : Nat} (h0 : ¬ i < 0) (h1 : ¬ nI n ≤ i) (hn : n ≤ cap) (hc : cap < 2 ^ 31) : vp_in i cap := by
  obtain ⟨j, hj, rfl⟩ := nI_of h0
  refine vp_in_nI ?_ hc
  rcases Nat.lt_or_ge j n with z | z
  · omega
  · exact absurd (nI_le z hj) h1
theorem clampI_eq {k : Int32} {cap : Nat} (hc : cap < 2 ^ 31) : (if (0 : Int32) < (if nI cap < k then nI cap else k) then (if nI cap < k then nI cap else k) else 0) = nI (clampI k cap) := by
  unfold clampI
  by_cases h0 : k < 0
  · rw [if_pos h0]
    have h1 : ¬ nI cap < k := fun z => by
      have a := (Int32.lt_iff_toInt_lt.mp z)
      have b := (Int32.lt_iff_toInt_lt.mp h0)
      rw [nI_toInt hc] at a
      simp at b
      omega
    rw [if_neg h1, if_neg]
    · rfl
    · intro z
      have a := (Int32.lt_iff_toInt_lt.mp z)
      have b := (Int32.lt_iff_toInt_lt.mp h0)
      simp at a b
      omega
  · rw [if_neg h0]
    obtain ⟨j, hj, rfl⟩ := nI_of h0
    rw [nI_clamp hj]
    by_cases h1 : nI cap < nI j
    · have h2 := (nI_ltI hc hj).mp h1
      rw [if_pos h1, Nat.min_eq_right (by omega)]
      by_cases h3 : cap = 0
      · subst h3; rfl
      · rw [if_pos (by rw [← nI_0]; exact (nI_ltI (by decide) hc).mpr (by omega))]
    · have h2 : ¬ cap < j := fun z => h1 ((nI_ltI hc hj).mpr z)
      rw [if_neg h1, Nat.min_eq_left (by omega)]
      by_cases h3 : j = 0
      · subst h3; rfl
      · rw [if_pos (by rw [← nI_0]; exact (nI_ltI (by decide) hj).mpr (by omega))]
set_option maxHeartbeats 4000000 in
set_option maxRecDepth 100000 in
theorem c_Row_size {E : Env3} {h a cap n : Nat} {f : Nat → Int32}  : Cd E none 0 yX4_size cX4_size 1 (some .int) [.ref h] [rowW E.2.2 h a cap f n] (some (.int (nI n))) [rowW E.2.2 h a cap f n] := by
  refine Ct.of [some (.ref h)] (by decide +kernel) rfl (Nat.le_of_ble_eq_true rfl) (fun F hE hF hR hN => ?_)
  subst hE
  refine g_regroup (gs' := [[(h, .inr (4, [.ref a, .int (nI n)]))], [(a, .inl (F.1.2.2 0, cap, .inl f))]]) rfl ?_
  refine g_aload_n hF dX4_size_0 rfl ?_
  refine g_get (j := 1) hF 0 rfl rfl (by decide) rfl m_42 rfl dX4_size_1 ?_
  refine g_regroup (gs' := [rowW F.1.2.2 h a cap f n]) (rfl) ?_
  exact g_iret hF hR dX4_size_4 ⟨rfl, rfl⟩
set_option maxHeartbeats 4000000 in
set_option maxRecDepth 100000 in
theorem c_Row_isFull {E : Env3} {h a cap n : Nat} {f : Nat → Int32} (hn : n ≤ cap) (hc : cap < 2 ^ 31) : Cd E none 0 yX4_isFull cX4_isFull 1 (some .boolean) [.ref h] [rowW E.2.2 h a cap f n] (some (.int (bI (decide (cap ≤ n))))) [rowW E.2.2 h a cap f n] := by
  refine Ct.of [some (.ref h)] (by decide +kernel) rfl (Nat.le_of_ble_eq_true rfl) (fun F hE hF hR hN => ?_)
  subst hE
  refine g_regroup (gs' := [[(h, .inr (4, [.ref a, .int (nI n)]))], [(a, .inl (F.1.2.2 0, cap, .inl f))]]) rfl ?_
  refine g_aload_n hF dX4_isFull_0 rfl ?_
  refine g_get (j := 1) hF 0 rfl rfl (by decide) rfl m_42 rfl dX4_isFull_1 ?_
  refine g_aload_n hF dX4_isFull_4 rfl ?_
  refine g_get (j := 0) hF 0 rfl rfl (by decide) rfl m_41 rfl dX4_isFull_5 ?_
  refine g_alen hF rfl 1 0 rfl rfl rfl dX4_isFull_8 ?_
  refine g_icmp_lt (tgt := 16) hF dX4_isFull_9 (by decide) (fun c_9 => ?_) (fun c_9 => ?_)
  · refine g_iconst (v := (0)) hF dX4_isFull_16 rfl ?_
    refine g_regroup (gs' := [rowW F.1.2.2 h a cap f n]) (rfl) ?_
    exact g_zret hF hR dX4_isFull_17 rfl ⟨(by have z := nI_leI (a := cap) (b := n) hc (by omega); have z2 := nI_ltI (a := n) (b := cap) (by omega) hc; first | (have q := z2.mp c_9; simp [bI, show ¬ cap ≤ n by omega]) | (have q : ¬ n < cap := fun y => c_9 (z2.mpr y); simp [bI, show cap ≤ n by omega])), rfl⟩
  · refine g_iconst (v := (1)) hF dX4_isFull_12 rfl ?_
    refine g_goto (tgt := 17) hF dX4_isFull_13 (by decide) ?_
    refine g_regroup (gs' := [rowW F.1.2.2 h a cap f n]) (rfl) ?_
    exact g_zret hF hR dX4_isFull_17 rfl ⟨(by have z := nI_leI (a := cap) (b := n) hc (by omega); have z2 := nI_ltI (a := n) (b := cap) (by omega) hc; first | (have q := z2.mp c_9; simp [bI, show ¬ cap ≤ n by omega]) | (have q : ¬ n < cap := fun y => c_9 (z2.mpr y); simp [bI, show cap ≤ n by omega])), rfl⟩
set_option maxHeartbeats 4000000 in
set_option maxRecDepth 100000 in
theorem c_Row_has {E : Env3} {h a cap n : Nat} {f : Nat → Int32} {i : Int32} : Cd E none 0 yX4_has cX4_has 2 (some .boolean) [.ref h, .int i] [rowW E.2.2 h a cap f n] (some (.int (bI (rowHas n i)))) [rowW E.2.2 h a cap f n] := by
  refine Ct.of [some (.ref h), some (.int i)] (by decide +kernel) rfl (Nat.le_of_ble_eq_true rfl) (fun F hE hF hR hN => ?_)
  subst hE
  refine g_regroup (gs' := [[(h, .inr (4, [.ref a, .int (nI n)]))], [(a, .inl (F.1.2.2 0, cap, .inl f))]]) rfl ?_
  refine g_iload_n hF dX4_has_0 rfl ?_
  refine g_if_lt (tgt := 16) hF dX4_has_1 (by decide) (fun c_1 => ?_) (fun c_1 => ?_)
  · refine g_iconst (v := (0)) hF dX4_has_16 rfl ?_
    refine g_regroup (gs' := [rowW F.1.2.2 h a cap f n]) (rfl) ?_
    exact g_zret hF hR dX4_has_17 rfl ⟨(by simp [bI, rowHas, c_1]), rfl⟩
  · refine g_iload_n hF dX4_has_4 rfl ?_
    refine g_aload_n hF dX4_has_5 rfl ?_
    refine g_get (j := 1) hF 0 rfl rfl (by decide) rfl m_42 rfl dX4_has_6 ?_
    refine g_icmp_ge (tgt := 16) hF dX4_has_9 (by decide) (fun c_9 => ?_) (fun c_9 => ?_)
    · refine g_iconst (v := (0)) hF dX4_has_16 rfl ?_
      refine g_regroup (gs' := [rowW F.1.2.2 h a cap f n]) (rfl) ?_
      exact g_zret hF hR dX4_has_17 rfl ⟨(by simp [bI, rowHas, c_1, c_9]), rfl⟩
    · refine g_iconst (v := (1)) hF dX4_has_12 rfl ?_
      refine g_goto (tgt := 17) hF dX4_has_13 (by decide) ?_
      refine g_regroup (gs' := [rowW F.1.2.2 h a cap f n]) (rfl) ?_
      exact g_zret hF hR dX4_has_17 rfl ⟨(by simp [bI, rowHas, c_1, c_9]), rfl⟩
set_option maxHeartbeats 4000000 in
set_option maxRecDepth 100000 in
theorem c_Row_get {E : Env3} {h a cap n : Nat} {f : Nat → Int32} {i : Int32} (hn : n ≤ cap) (hc : cap < 2 ^ 31) : Cd E none 0 yX4_get cX4_get 2 (some .int) [.ref h, .int i] [rowW E.2.2 h a cap f n] (some (.int (rowGet f n i))) [rowW E.2.2 h a cap f n] := by
  refine Ct.of [some (.ref h), some (.int i)] (by decide +kernel) rfl (Nat.le_of_ble_eq_true rfl) (fun F hE hF hR hN => ?_)
  subst hE
  refine g_regroup (gs' := [[(h, .inr (4, [.ref a, .int (nI n)]))], [(a, .inl (F.1.2.2 0, cap, .inl f))]]) rfl ?_
  refine g_iload_n hF dX4_get_0 rfl ?_
  refine g_if_lt (tgt := 21) hF dX4_get_1 (by decide) (fun c_1 => ?_) (fun c_1 => ?_)
  · refine g_iconst (v := (0)) hF dX4_get_21 rfl ?_
    refine g_regroup (gs' := [rowW F.1.2.2 h a cap f n]) (rfl) ?_
    exact g_iret hF hR dX4_get_22 ⟨(by simp [rowGet, c_1]), rfl⟩
  · refine g_iload_n hF dX4_get_4 rfl ?_
    refine g_aload_n hF dX4_get_5 rfl ?_
    refine g_get (j := 1) hF 0 rfl rfl (by decide) rfl m_42 rfl dX4_get_6 ?_
    refine g_icmp_ge (tgt := 21) hF dX4_get_9 (by decide) (fun c_9 => ?_) (fun c_9 => ?_)
    · refine g_iconst (v := (0)) hF dX4_get_21 rfl ?_
      refine g_regroup (gs' := [rowW F.1.2.2 h a cap f n]) (rfl) ?_
      exact g_iret hF hR dX4_get_22 ⟨(by simp [rowGet, c_1, c_9]), rfl⟩
    · refine g_aload_n hF dX4_get_12 rfl ?_
      refine g_get (j := 0) hF 0 rfl rfl (by decide) rfl m_41 rfl dX4_get_13 ?_
      refine g_iload_n hF dX4_get_16 rfl ?_
      refine g_iald hF rfl 1 rfl (in_of c_1 c_9 hn hc) rfl dX4_get_17 ?_
      refine g_goto (tgt := 22) hF dX4_get_18 (by decide) ?_
      refine g_regroup (gs' := [rowW F.1.2.2 h a cap f n]) (rfl) ?_
      exact g_iret hF hR dX4_get_22 ⟨(by simp [rowGet, c_1, c_9]), rfl⟩
set_option maxHeartbeats 4000000 in
set_option maxRecDepth 100000 in
theorem c_Row_put {E : Env3} {h a cap n : Nat} {f : Nat → Int32} {i x : Int32} (hn : n ≤ cap) (hc : cap < 2 ^ 31) : Cd E none 0 yX4_put cX4_put 3 none [.ref h, .int i, .int x] [rowW E.2.2 h a cap f n] none [rowW E.2.2 h a cap (rowPut f n i x) n] := by
  refine Ct.of [some (.ref h), some (.int i), some (.int x)] (by decide +kernel) rfl (Nat.le_of_ble_eq_true rfl) (fun F hE hF hR hN => ?_)
  subst hE
  refine g_regroup (gs' := [[(h, .inr (4, [.ref a, .int (nI n)]))], [(a, .inl (F.1.2.2 0, cap, .inl f))]]) rfl ?_
  refine g_iload_n hF dX4_put_0 rfl ?_
  refine g_if_lt (tgt := 19) hF dX4_put_1 (by decide) (fun c_1 => ?_) (fun c_1 => ?_)
  · refine g_regroup (gs' := [rowW F.1.2.2 h a cap (rowPut f n i x) n]) (by simp [rowW, rowPut, c_1]) ?_
    exact g_vret hF hR dX4_put_19 ⟨rfl, rfl⟩
  · refine g_iload_n hF dX4_put_4 rfl ?_
    refine g_aload_n hF dX4_put_5 rfl ?_
    refine g_get (j := 1) hF 0 rfl rfl (by decide) rfl m_42 rfl dX4_put_6 ?_
    refine g_icmp_ge (tgt := 19) hF dX4_put_9 (by decide) (fun c_9 => ?_) (fun c_9 => ?_)
    · refine g_regroup (gs' := [rowW F.1.2.2 h a cap (rowPut f n i x) n]) (by simp [rowW, rowPut, c_1, c_9]) ?_
      exact g_vret hF hR dX4_put_19 ⟨rfl, rfl⟩
    · refine g_aload_n hF dX4_put_12 rfl ?_
      refine g_get (j := 0) hF 0 rfl rfl (by decide) rfl m_41 rfl dX4_put_13 ?_
      refine g_iload_n hF dX4_put_16 rfl ?_
      refine g_iload_n hF dX4_put_17 rfl ?_
      refine g_iast hF rfl 1 i.toNatClampNeg rfl (in_of c_1 c_9 hn hc) rfl dX4_put_18 ?_
      refine g_regroup (gs' := [rowW F.1.2.2 h a cap (rowPut f n i x) n]) (by simp [rowW, rowPut, c_1, c_9]) ?_
      exact g_vret hF hR dX4_put_19 ⟨rfl, rfl⟩
set_option maxHeartbeats 4000000 in
set_option maxRecDepth 100000 in
theorem c_Row_push {E : Env3} {h a cap n : Nat} {f : Nat → Int32} {x : Int32} (hn : n ≤ cap) (hc : cap < 2 ^ 31) : Cd E none 0 yX4_push cX4_push 2 none [.ref h, .int x] [rowW E.2.2 h a cap f n] none [rowW E.2.2 h a cap (if n < cap then upd f n x else f) (if n < cap then n + 1 else n)] := by
  refine Ct.of [some (.ref h), some (.int x)] (by decide +kernel) rfl (Nat.le_of_ble_eq_true rfl) (fun F hE hF hR hN => ?_)
  subst hE
  refine g_regroup (gs' := [[(h, .inr (4, [.ref a, .int (nI n)]))], [(a, .inl (F.1.2.2 0, cap, .inl f))]]) rfl ?_
  refine g_aload_n hF dX4_push_0 rfl ?_
  refine g_get (j := 1) hF 0 rfl rfl (by decide) rfl m_42 rfl dX4_push_1 ?_
  refine g_aload_n hF dX4_push_4 rfl ?_
  refine g_get (j := 0) hF 0 rfl rfl (by decide) rfl m_41 rfl dX4_push_5 ?_
  refine g_alen hF rfl 1 0 rfl rfl rfl dX4_push_8 ?_
  refine g_icmp_ge (tgt := 32) hF dX4_push_9 (by decide) (fun c_9 => ?_) (fun c_9 => ?_)
  · refine g_regroup (gs' := [rowW F.1.2.2 h a cap (if n < cap then upd f n x else f) (if n < cap then n + 1 else n)]) (by have z : ¬ n < cap := fun y => nI_ge y hc c_9; simp [rowW, z, nI_succ]) ?_
    exact g_vret hF hR dX4_push_32 ⟨rfl, rfl⟩
  · refine g_aload_n hF dX4_push_12 rfl ?_
    refine g_get (j := 0) hF 0 rfl rfl (by decide) rfl m_41 rfl dX4_push_13 ?_
    refine g_aload_n hF dX4_push_16 rfl ?_
    refine g_get (j := 1) hF 0 rfl rfl (by decide) rfl m_42 rfl dX4_push_17 ?_
    refine g_iload_n hF dX4_push_20 rfl ?_
    refine g_iast hF rfl 1 n rfl (vp_in_nI (Nat.not_le.mp (fun y => c_9 (nI_le y (by omega)))) hc) (nI_clamp (by omega)) dX4_push_21 ?_
    refine g_aload_n hF dX4_push_22 rfl ?_
    refine g_dup hF dX4_push_23 rfl ?_
    refine g_get (j := 1) hF 0 rfl rfl (by decide) rfl m_42 rfl dX4_push_24 ?_
    refine g_iconst (v := (1)) hF dX4_push_27 rfl ?_
    refine g_iadd hF dX4_push_28 ?_
    refine g_put (j := 1) hF 0 rfl rfl (by decide) rfl m_42 rfl (tyX4_ok 1 (by decide)) rfl rfl (Nat.le_of_ble_eq_true rfl) dX4_push_29 ?_
    try dsimp only [gput, gputA, List.set, stGs, List.cons_append, List.nil_append]
    refine g_regroup (gs' := [rowW F.1.2.2 h a cap (if n < cap then upd f n x else f) (if n < cap then n + 1 else n)]) (by have z : n < cap := Nat.not_le.mp (fun y => c_9 (nI_le y (by omega))); simp [rowW, z, nI_succ]) ?_
    exact g_vret hF hR dX4_push_32 ⟨rfl, rfl⟩
set_option maxHeartbeats 4000000 in
set_option maxRecDepth 100000 in
theorem c_Row_pop {E : Env3} {h a cap n : Nat} {f : Nat → Int32} (hn : n ≤ cap) (hc : cap < 2 ^ 31) : Cd E none 0 yX4_pop cX4_pop 1 (some .int) [.ref h] [rowW E.2.2 h a cap f n] (some (.int (if n = 0 then 0 else f (n - 1)))) [rowW E.2.2 h a cap f (n - 1)] := by
  refine Ct.of [some (.ref h)] (by decide +kernel) rfl (Nat.le_of_ble_eq_true rfl) (fun F hE hF hR hN => ?_)
  subst hE
  refine g_regroup (gs' := [[(h, .inr (4, [.ref a, .int (nI n)]))], [(a, .inl (F.1.2.2 0, cap, .inl f))]]) rfl ?_
  refine g_aload_n hF dX4_pop_0 rfl ?_
  refine g_get (j := 1) hF 0 rfl rfl (by decide) rfl m_42 rfl dX4_pop_1 ?_
  refine g_if_gt (tgt := 9) hF dX4_pop_4 (by decide) (fun c_4 => ?_) (fun c_4 => ?_)
  · have z : ¬ n = 0 := fun y => absurd c_4 (by subst y; decide)
    have e : nI n - 1 = nI (n - 1) := by
      obtain ⟨q, rfl⟩ : ∃ q, n = q + 1 := ⟨n - 1, by omega⟩
      exact nI_pred q
    refine g_aload_n hF dX4_pop_9 rfl ?_
    refine g_dup hF dX4_pop_10 rfl ?_
    refine g_get (j := 1) hF 0 rfl rfl (by decide) rfl m_42 rfl dX4_pop_11 ?_
    refine g_iconst (v := (1)) hF dX4_pop_14 rfl ?_
    refine g_isub hF dX4_pop_15 ?_
    refine g_put (j := 1) hF 0 rfl rfl (by decide) rfl m_42 rfl (tyX4_ok 1 (by decide)) rfl rfl (Nat.le_of_ble_eq_true rfl) dX4_pop_16 ?_
    try dsimp only [gput, gputA, List.set, stGs, List.cons_append, List.nil_append]
    refine g_aload_n hF dX4_pop_19 rfl ?_
    refine g_get (j := 0) hF 0 rfl rfl (by decide) rfl m_41 rfl dX4_pop_20 ?_
    refine g_aload_n hF dX4_pop_23 rfl ?_
    refine g_get (j := 1) hF 0 rfl rfl (by decide) rfl m_42 rfl dX4_pop_24 ?_
    refine g_iald hF rfl 1 rfl (by rw [e]; exact vp_in_nI (by omega) hc) (v := f (n - 1)) (by rw [e, nI_clamp (by omega)]) dX4_pop_27 ?_
    refine g_regroup (gs' := [rowW F.1.2.2 h a cap f (n - 1)]) (by simp [rowW, e]) ?_
    exact g_iret hF hR dX4_pop_28 ⟨(by simp [z]), rfl⟩
  · have z : n = 0 := by
      rcases Nat.eq_zero_or_pos n with y | y
      · exact y
      · exact absurd (by rw [← nI_0]; exact (nI_ltI (by decide) (by omega)).mpr y) c_4
    refine g_iconst (v := (0)) hF dX4_pop_7 rfl ?_
    refine g_regroup (gs' := [rowW F.1.2.2 h a cap f (n - 1)]) (by simp [rowW, z]) ?_
    exact g_iret hF hR dX4_pop_8 ⟨(by simp [z]), rfl⟩
set_option maxHeartbeats 4000000 in
set_option maxRecDepth 100000 in
theorem c_Row_resize {E : Env3} {h a cap n : Nat} {f : Nat → Int32} {k : Int32} (hc : cap < 2 ^ 31) : Cd E none 1 yX4_resize cX4_resize 2 none [.ref h, .int k] [rowW E.2.2 h a cap f n] none [rowW E.2.2 h a cap f (clampI k cap)] := by
  refine Ct.of [some (.ref h), some (.int k)] (by decide +kernel) rfl (Nat.le_of_ble_eq_true rfl) (fun F hE hF hR hN => ?_)
  subst hE
  refine g_regroup (gs' := [[(h, .inr (4, [.ref a, .int (nI n)]))], [(a, .inl (F.1.2.2 0, cap, .inl f))]]) rfl ?_
  refine g_aload_n hF dX4_resize_0 rfl ?_
  refine g_iconst (v := (0)) hF dX4_resize_1 rfl ?_
  refine g_iload_n hF dX4_resize_2 rfl ?_
  refine g_aload_n hF dX4_resize_3 rfl ?_
  refine g_get (j := 0) hF 0 rfl rfl (by decide) rfl m_41 rfl dX4_resize_4 ?_
  refine g_alen hF rfl 1 0 rfl rfl rfl dX4_resize_7 ?_
  refine g_min hF m_387 m_388 m_4 m_389 (by decide) (Nat.zero_le _) (Nat.zero_le _) (Nat.le_of_ble_eq_true rfl) dX4_resize_8 ?_
  refine g_max hF m_38 m_39 m_4 m_40 (by decide) (Nat.zero_le _) (Nat.zero_le _) (Nat.le_of_ble_eq_true rfl) dX4_resize_11 ?_
  refine g_put (j := 1) hF 0 rfl rfl (by decide) rfl m_42 rfl (tyX4_ok 1 (by decide)) rfl rfl (Nat.le_of_ble_eq_true rfl) dX4_resize_14 ?_
  try dsimp only [gput, gputA, List.set, stGs, List.cons_append, List.nil_append]
  refine g_regroup (gs' := [rowW F.1.2.2 h a cap f (clampI k cap)]) (by simp only [rowW]; rw [← clampI_eq hc]; rfl) ?_
  exact g_vret hF hR dX4_resize_17 ⟨rfl, rfl⟩
end
section
set_option maxHeartbeats 4000000 in
set_option maxRecDepth 100000 in
theorem c_Row_fromTop {E : Env3} {h a cap n : Nat} {f : Nat → Int32} {i : Int32} (hn : n ≤ cap) (hc : cap < 2 ^ 31) : Cd E none 1 yX4_fromTop cX4_fromTop 2 (some .int) [.ref h, .int i] [rowW E.2.2 h a cap f n] (some (.int (rowGet f n (nI n - 1 - i)))) [rowW E.2.2 h a cap f n] := by
  refine Ct.of [some (.ref h), some (.int i)] (by decide +kernel) rfl (Nat.le_of_ble_eq_true rfl) (fun F hE hF hR hN => ?_)
  subst hE
  refine g_aload_n hF dX4_fromTop_0 rfl ?_
  refine g_aload_n hF dX4_fromTop_1 rfl ?_
  refine g_get (j := 1) hF 0 rfl rfl (by decide) rfl m_42 rfl dX4_fromTop_2 ?_
  refine g_iconst (v := (1)) hF dX4_fromTop_5 rfl ?_
  refine g_isub hF dX4_fromTop_6 ?_
  refine g_iload_n hF dX4_fromTop_7 rfl ?_
  refine g_isub hF dX4_fromTop_8 ?_
  refine g_callVq hF (c_Row_get (by first | omega | exact clampI_le | (split <;> omega)) (by omega)) cal_X4_get rfl m_487 (by decide) (Or.inl rfl) (Nat.zero_le _) (Nat.zero_le _) 0 rfl rfl [0] rfl rfl rfl (Nat.le_of_ble_eq_true rfl) dX4_fromTop_9 ?_
  exact g_iret hF hR dX4_fromTop_12 ⟨rfl, rfl⟩
set_option maxHeartbeats 4000000 in
set_option maxRecDepth 100000 in
theorem c_Row_putFromTop {E : Env3} {h a cap n : Nat} {f : Nat → Int32} {i x : Int32} (hn : n ≤ cap) (hc : cap < 2 ^ 31) : Cd E none 1 yX4_putFromTop cX4_putFromTop 3 none [.ref h, .int i, .int x] [rowW E.2.2 h a cap f n] none [rowW E.2.2 h a cap (rowPut f n (nI n - 1 - i) x) n] := by
  refine Ct.of [some (.ref h), some (.int i), some (.int x)] (by decide +kernel) rfl (Nat.le_of_ble_eq_true rfl) (fun F hE hF hR hN => ?_)
  subst hE
  refine g_aload_n hF dX4_putFromTop_0 rfl ?_
  refine g_aload_n hF dX4_putFromTop_1 rfl ?_
  refine g_get (j := 1) hF 0 rfl rfl (by decide) rfl m_42 rfl dX4_putFromTop_2 ?_
  refine g_iconst (v := (1)) hF dX4_putFromTop_5 rfl ?_
  refine g_isub hF dX4_putFromTop_6 ?_
  refine g_iload_n hF dX4_putFromTop_7 rfl ?_
  refine g_isub hF dX4_putFromTop_8 ?_
  refine g_iload_n hF dX4_putFromTop_9 rfl ?_
  refine g_callVd hF (c_Row_put (by first | omega | exact clampI_le | (split <;> omega)) (by omega)) cal_X4_put rfl m_612 (by decide) (Or.inl rfl) (Nat.zero_le _) (Nat.zero_le _) 0 rfl rfl [0] rfl rfl (Nat.le_of_ble_eq_true rfl) rfl (Nat.le_of_ble_eq_true rfl) dX4_putFromTop_10 ?_
  try dsimp only [gput, gputA, List.set, stGs, List.cons_append, List.nil_append]
  exact g_vret hF hR dX4_putFromTop_13 ⟨rfl, rfl⟩
theorem c_mixed {E : Env3} {dd : Int64} {x : Int32} : Cd E none 0 yX8_mixed cX8_mixed 3 (some .long) [.long dd, .int x] [] (some (.long (dd * 31 + x.toInt64))) [] := by
  refine Ct.of [some (.long dd), none, some (.int x)] (by decide +kernel) rfl (Nat.le_of_ble_eq_true rfl) (fun F hE hF hR hN => ?_)
  subst hE
  refine g_lload_n hF dX8_mixed_0 rfl ?_
  refine g_ldc2 hF m_781 dX8_mixed_1 ?_
  refine g_lmul hF dX8_mixed_4 ?_
  refine g_iload_n hF dX8_mixed_5 rfl ?_
  refine g_i2l hF dX8_mixed_6 ?_
  refine g_ladd hF dX8_mixed_7 ?_
  exact g_lret hF hR dX8_mixed_8 ⟨rfl, rfl⟩
theorem g_iast2 {F : Fix} {cc : ByteArray} {own : String} {dd kM nM k n pc : Nat} {gs : List va_W} {lv : List (Option Value)} {st : List Value} {cy : Nat → ClassId} (hF : Ok F cc own dd kM nM) (hcy : F.1.2.2 = cy) (kg : Nat) {a N : Nat} {f g : Nat → Int32} {t : va_W} {i x : Int32} (j : Nat) (hg : gs[kg]? = some ((a, .inl (cy 0, N, .inl f)) :: t)) (hin : vp_in i N) (hj : i.toNatClampNeg = j) (hf : upd f j x = g) (d : decode cc pc = .ok (.iastore, 1)) (kk : G F k n (gs.set kg ((a, .inl (cy 0, N, .inl g)) :: t)) (pc + 1) lv st) : G F k n gs pc lv (.int x :: .int i :: .ref a :: st) := by
  subst hf
  exact g_iast hF hcy kg j hg hin hj d kk
theorem zeroTo_succ (f : Nat → Int32) (i : Nat) : upd (zeroTo f i) i 0 = zeroTo f (i + 1) := by
  funext j
  unfold upd zeroTo
  by_cases h : j = i
  · simp [h]
  · by_cases h2 : j < i
    · simp [h, h2, show j < i + 1 by omega]
    · simp [h, h2, show ¬ j < i + 1 by omega]
theorem clampI_le {k : Int32} {cap : Nat} : clampI k cap ≤ cap := by
  unfold clampI
  by_cases h : k < 0
  · simp [h]
  · simp only [h, if_false]; omega
theorem clampI_nI {n cap : Nat} (h : n < 2 ^ 31) : clampI (nI n) cap = min n cap := by
  unfold clampI
  rw [if_neg (nI_pos h), nI_clamp h]
theorem zeroTo_0 (f : Nat → Int32) : zeroTo f 0 = f := by funext j; simp [zeroTo]
set_option maxHeartbeats 4000000 in
set_option maxRecDepth 100000 in
theorem c_Row_fillWithZeros {E : Env3} {h a cap n : Nat} {f : Nat → Int32} (hc : cap < 2 ^ 31) : Cd E none 0 yX4_fillWithZeros cX4_fillWithZeros 2 none [.ref h] [rowW E.2.2 h a cap f n] none [rowW E.2.2 h a cap (zeroTo f cap) cap] := by
  refine Ct.of [some (.ref h), none] (by decide +kernel) rfl (Nat.le_of_ble_eq_true rfl) (fun F hE hF hR hN => ?_)
  subst hE
  refine g_regroup (gs' := [[(h, .inr (4, [.ref a, .int (nI n)]))], [(a, .inl (F.1.2.2 0, cap, .inl (zeroTo f 0)))]]) (by rw [zeroTo_0]; rfl) ?_
  have loop : ∀ i, i ≤ cap → G F 0 0 [[(h, .inr (4, [.ref a, .int (nI cap)]))], [(a, .inl (F.1.2.2 0, cap, .inl (zeroTo f i)))]] 11 [some (.ref h), some (.int (nI i))] [] := by
    refine up_loop (Q := fun i => G F 0 0 [[(h, .inr (4, [.ref a, .int (nI cap)]))], [(a, .inl (F.1.2.2 0, cap, .inl (zeroTo f i)))]] 11 [some (.ref h), some (.int (nI i))] []) ?_ (fun i hi ih => ?_)
    · refine g_iload_n hF dX4_fillWithZeros_11 rfl ?_
      refine g_aload_n hF dX4_fillWithZeros_12 rfl ?_
      refine g_get (j := 0) hF 0 rfl rfl (by decide) rfl m_41 rfl dX4_fillWithZeros_13 ?_
      refine g_alen hF rfl 1 0 rfl rfl rfl dX4_fillWithZeros_16 ?_
      refine g_icmp_ge (tgt := 33) hF dX4_fillWithZeros_17 (by decide) (fun c_17 => ?_) (fun c_17 => absurd (nI_le (Nat.le_refl cap) hc) c_17)
      refine g_regroup (gs' := [rowW F.1.2.2 h a cap (zeroTo f cap) cap]) (rfl) ?_
      exact g_vret hF hR dX4_fillWithZeros_33 ⟨rfl, rfl⟩
    · refine g_iload_n hF dX4_fillWithZeros_11 rfl ?_
      refine g_aload_n hF dX4_fillWithZeros_12 rfl ?_
      refine g_get (j := 0) hF 0 rfl rfl (by decide) rfl m_41 rfl dX4_fillWithZeros_13 ?_
      refine g_alen hF rfl 1 0 rfl rfl rfl dX4_fillWithZeros_16 ?_
      refine g_icmp_ge (tgt := 33) hF dX4_fillWithZeros_17 (by decide) (fun c_17 => absurd c_17 (nI_ge hi hc)) (fun c_17 => ?_)
      refine g_aload_n hF dX4_fillWithZeros_20 rfl ?_
      refine g_get (j := 0) hF 0 rfl rfl (by decide) rfl m_41 rfl dX4_fillWithZeros_21 ?_
      refine g_iload_n hF dX4_fillWithZeros_24 rfl ?_
      refine g_iconst (v := (0)) hF dX4_fillWithZeros_25 rfl ?_
      refine g_iast2 hF rfl 1 (g := zeroTo f (i + 1)) i rfl (vp_in_nI hi hc) (nI_clamp (by omega)) (zeroTo_succ f i) dX4_fillWithZeros_26 ?_
      refine g_iinc (v := nI (i + 1)) hF dX4_fillWithZeros_27 rfl (nI_1 i) rfl ?_
      refine g_goto (tgt := 11) hF dX4_fillWithZeros_30 (by decide) ?_
      exact ih
  refine g_aload_n hF dX4_fillWithZeros_0 rfl ?_
  refine g_aload_n hF dX4_fillWithZeros_1 rfl ?_
  refine g_get (j := 0) hF 0 rfl rfl (by decide) rfl m_41 rfl dX4_fillWithZeros_2 ?_
  refine g_alen hF rfl 1 0 rfl rfl rfl dX4_fillWithZeros_5 ?_
  refine g_put (j := 1) hF 0 rfl rfl (by decide) rfl m_42 rfl (tyX4_ok 1 (by decide)) rfl rfl (Nat.le_of_ble_eq_true rfl) dX4_fillWithZeros_6 ?_
  try dsimp only [gput, gputA, List.set, stGs, List.cons_append, List.nil_append]
  refine g_iconst (v := (0)) hF dX4_fillWithZeros_9 rfl ?_
  refine g_istore_n hF dX4_fillWithZeros_10 (Nat.le_of_ble_eq_true rfl) rfl ?_
  exact loop 0 (Nat.zero_le _)
set_option maxHeartbeats 4000000 in
set_option maxRecDepth 100000 in
theorem c_Row_copyFrom {E : Env3} {h a cap n : Nat} {f : Nat → Int32} {h2 a2 cap2 n2 : Nat} {f2 : Nat → Int32} (hn : n ≤ cap) (hc : cap < 2 ^ 31) (hn2 : n2 ≤ cap2) (hc2 : cap2 < 2 ^ 31) : Cd E none 2 yX4_copyFrom cX4_copyFrom 2 none [.ref h, .ref h2] [rowW E.2.2 h a cap f n, rowW E.2.2 h2 a2 cap2 f2 n2] none [rowW E.2.2 h a cap (va_cpy f2 f 0 0 (min n2 cap)) (min n2 cap), rowW E.2.2 h2 a2 cap2 f2 n2] := by
  refine Ct.of [some (.ref h), some (.ref h2)] (by decide +kernel) rfl (Nat.le_of_ble_eq_true rfl) (fun F hE hF hR hN => ?_)
  subst hE
  refine g_aload_n hF dX4_copyFrom_0 rfl ?_
  refine g_aload_n hF dX4_copyFrom_1 rfl ?_
  refine g_get (j := 1) hF 1 rfl rfl (by decide) rfl m_42 rfl dX4_copyFrom_2 ?_
  refine g_callVd hF (c_Row_resize (by omega)) cal_X4_resize rfl m_720 (by decide) (Or.inl rfl) (Nat.zero_le _) (Nat.zero_le _) 0 rfl rfl [0] rfl rfl (Nat.le_of_ble_eq_true rfl) rfl (Nat.le_of_ble_eq_true rfl) dX4_copyFrom_5 ?_
  try dsimp only [gput, gputA, List.set, stGs, List.cons_append, List.nil_append]
  rw [clampI_nI (show n2 < 2 ^ 31 by omega)]
  refine g_regroup (gs' := [[(h, .inr (4, [.ref a, .int (nI (min n2 cap))]))], [(a, .inl (F.1.2.2 0, cap, .inl f))], [(h2, .inr (4, [.ref a2, .int (nI n2)]))], [(a2, .inl (F.1.2.2 0, cap2, .inl f2))]]) rfl ?_
  refine g_aload_n hF dX4_copyFrom_8 rfl ?_
  refine g_get (j := 0) hF 2 rfl rfl (by decide) rfl m_41 rfl dX4_copyFrom_9 ?_
  refine g_iconst (v := (0)) hF dX4_copyFrom_12 rfl ?_
  refine g_aload_n hF dX4_copyFrom_13 rfl ?_
  refine g_get (j := 0) hF 0 rfl rfl (by decide) rfl m_41 rfl dX4_copyFrom_14 ?_
  refine g_iconst (v := (0)) hF dX4_copyFrom_17 rfl ?_
  refine g_aload_n hF dX4_copyFrom_18 rfl ?_
  refine g_get (j := 1) hF 0 rfl rfl (by decide) rfl m_42 rfl dX4_copyFrom_19 ?_
  refine g_copy hF rfl 3 1 0 0 (min n2 cap) m_721 m_723 m_722 m_16 (by decide) rfl rfl (by decide) (by decide) (nI_pos (by omega)) (by decide) (by decide) (nI_clamp (by omega)) (by omega) (by omega) (Nat.le_of_ble_eq_true rfl) dX4_copyFrom_22 ?_
  refine g_regroup (gs' := [rowW F.1.2.2 h a cap (va_cpy f2 f 0 0 (min n2 cap)) (min n2 cap), rowW F.1.2.2 h2 a2 cap2 f2 n2]) (rfl) ?_
  exact g_vret hF hR dX4_copyFrom_25 ⟨rfl, rfl⟩
set_option maxHeartbeats 4000000 in
set_option maxRecDepth 100000 in
theorem c_Row_mixedInto {E : Env3} {h a cap n : Nat} {f : Nat → Int32} {d0 : Int64} (hn : n ≤ cap) (hc : cap < 2 ^ 31) : Cd E none 1 yX4_mixedInto cX4_mixedInto 6 (some .long) [.ref h, .long d0] [rowW E.2.2 h a cap f n] (some (.long (mixS f n d0))) [rowW E.2.2 h a cap f n] := by
  refine Ct.of [some (.ref h), some (.long d0), none, none, none, none] (by decide +kernel) rfl (Nat.le_of_ble_eq_true rfl) (fun F hE hF hR hN => ?_)
  subst hE
  refine g_regroup (gs' := [[(h, .inr (4, [.ref a, .int (nI n)]))], [(a, .inl (F.1.2.2 0, cap, .inl f))]]) rfl ?_
  have loop : ∀ i, i ≤ n → G F 0 0 [[(h, .inr (4, [.ref a, .int (nI n)]))], [(a, .inl (F.1.2.2 0, cap, .inl (f)))]] 5 [some (.ref h), some (.long d0), none, some (.long (mixS f i d0)), none, some (.int (nI i))] [] := by
    refine up_loop (Q := fun i => G F 0 0 [[(h, .inr (4, [.ref a, .int (nI n)]))], [(a, .inl (F.1.2.2 0, cap, .inl (f)))]] 5 [some (.ref h), some (.long d0), none, some (.long (mixS f i d0)), none, some (.int (nI i))] []) ?_ (fun i hi ih => ?_)
    · refine g_iload hF dX4_mixedInto_5 rfl ?_
      refine g_aload_n hF dX4_mixedInto_7 rfl ?_
      refine g_get (j := 1) hF 0 rfl rfl (by decide) rfl m_42 rfl dX4_mixedInto_8 ?_
      refine g_icmp_ge (tgt := 32) hF dX4_mixedInto_11 (by decide) (fun c_11 => ?_) (fun c_11 => absurd (nI_le (Nat.le_refl n) (by omega)) c_11)
      refine g_lload_n hF dX4_mixedInto_32 rfl ?_
      refine g_regroup (gs' := [rowW F.1.2.2 h a cap f n]) (rfl) ?_
      exact g_lret hF hR dX4_mixedInto_33 ⟨rfl, rfl⟩
    · refine g_iload hF dX4_mixedInto_5 rfl ?_
      refine g_aload_n hF dX4_mixedInto_7 rfl ?_
      refine g_get (j := 1) hF 0 rfl rfl (by decide) rfl m_42 rfl dX4_mixedInto_8 ?_
      refine g_icmp_ge (tgt := 32) hF dX4_mixedInto_11 (by decide) (fun c_11 => absurd c_11 (nI_ge hi (by omega))) (fun c_11 => ?_)
      refine g_lload_n hF dX4_mixedInto_14 rfl ?_
      refine g_aload_n hF dX4_mixedInto_15 rfl ?_
      refine g_get (j := 0) hF 0 rfl rfl (by decide) rfl m_41 rfl dX4_mixedInto_16 ?_
      refine g_iload hF dX4_mixedInto_19 rfl ?_
      refine g_iald hF rfl 1 rfl (vp_in_nI (by omega) hc) (v := f i) (by rw [nI_clamp (by omega)]) dX4_mixedInto_21 ?_
      refine g_callSNq hF (c_mixed) cal_X8_mixed rfl m_791 (by decide) (Or.inl rfl) (Nat.zero_le _) (Nat.zero_le _) [] rfl rfl rfl (Nat.le_of_ble_eq_true rfl) dX4_mixedInto_22 ?_
      refine g_lstore_n hF dX4_mixedInto_25 (Nat.le_of_ble_eq_true rfl) rfl ?_
      refine g_iinc (v := nI (i + 1)) hF dX4_mixedInto_26 rfl (nI_1 i) rfl ?_
      refine g_goto (tgt := 5) hF dX4_mixedInto_29 (by decide) ?_
      exact ih
  refine g_lload_n hF dX4_mixedInto_0 rfl ?_
  refine g_lstore_n hF dX4_mixedInto_1 (Nat.le_of_ble_eq_true rfl) rfl ?_
  refine g_iconst (v := (0)) hF dX4_mixedInto_2 rfl ?_
  refine g_istore hF dX4_mixedInto_3 (Nat.le_of_ble_eq_true rfl) rfl ?_
  exact loop 0 (Nat.zero_le _)
set_option maxHeartbeats 4000000 in
set_option maxRecDepth 100000 in
theorem c_Row_mixedFromTopInto {E : Env3} {h a cap n : Nat} {f : Nat → Int32} {d0 : Int64} (hn : n ≤ cap) (hc : cap < 2 ^ 31) : Cd E none 2 yX4_mixedFromTopInto cX4_mixedFromTopInto 6 (some .long) [.ref h, .long d0] [rowW E.2.2 h a cap f n] (some (.long (mixS (fun k => rowGet f n (nI n - 1 - nI k)) n d0))) [rowW E.2.2 h a cap f n] := by
  refine Ct.of [some (.ref h), some (.long d0), none, none, none, none] (by decide +kernel) rfl (Nat.le_of_ble_eq_true rfl) (fun F hE hF hR hN => ?_)
  subst hE
  have loop : ∀ i, i ≤ n → G F 0 0 [rowW F.1.2.2 h a cap f n] 5 [some (.ref h), some (.long d0), none, some (.long (mixS (fun k => rowGet f n (nI n - 1 - nI k)) i d0)), none, some (.int (nI i))] [] := by
    refine up_loop (Q := fun i => G F 0 0 [rowW F.1.2.2 h a cap f n] 5 [some (.ref h), some (.long d0), none, some (.long (mixS (fun k => rowGet f n (nI n - 1 - nI k)) i d0)), none, some (.int (nI i))] []) ?_ (fun i hi ih => ?_)
    · refine g_iload hF dX4_mixedFromTopInto_5 rfl ?_
      refine g_aload_n hF dX4_mixedFromTopInto_7 rfl ?_
      refine g_get (j := 1) hF 0 rfl rfl (by decide) rfl m_42 rfl dX4_mixedFromTopInto_8 ?_
      refine g_icmp_ge (tgt := 31) hF dX4_mixedFromTopInto_11 (by decide) (fun c_11 => ?_) (fun c_11 => absurd (nI_le (Nat.le_refl n) (by omega)) c_11)
      refine g_lload_n hF dX4_mixedFromTopInto_31 rfl ?_
      exact g_lret hF hR dX4_mixedFromTopInto_32 ⟨rfl, rfl⟩
    · refine g_iload hF dX4_mixedFromTopInto_5 rfl ?_
      refine g_aload_n hF dX4_mixedFromTopInto_7 rfl ?_
      refine g_get (j := 1) hF 0 rfl rfl (by decide) rfl m_42 rfl dX4_mixedFromTopInto_8 ?_
      refine g_icmp_ge (tgt := 31) hF dX4_mixedFromTopInto_11 (by decide) (fun c_11 => absurd c_11 (nI_ge hi (by omega))) (fun c_11 => ?_)
      refine g_lload_n hF dX4_mixedFromTopInto_14 rfl ?_
      refine g_aload_n hF dX4_mixedFromTopInto_15 rfl ?_
      refine g_iload hF dX4_mixedFromTopInto_16 rfl ?_
      refine g_callVq hF (c_Row_fromTop (by first | omega | exact clampI_le | (split <;> omega)) (by omega)) cal_X4_fromTop rfl m_790 (by decide) (Or.inl rfl) (Nat.zero_le _) (Nat.zero_le _) 0 rfl rfl [0] rfl rfl rfl (Nat.le_of_ble_eq_true rfl) dX4_mixedFromTopInto_18 ?_
      refine g_callSNq hF (c_mixed) cal_X8_mixed rfl m_791 (by decide) (Or.inl rfl) (Nat.zero_le _) (Nat.zero_le _) [] rfl rfl rfl (Nat.le_of_ble_eq_true rfl) dX4_mixedFromTopInto_21 ?_
      refine g_lstore_n hF dX4_mixedFromTopInto_24 (Nat.le_of_ble_eq_true rfl) rfl ?_
      refine g_iinc (v := nI (i + 1)) hF dX4_mixedFromTopInto_25 rfl (nI_1 i) rfl ?_
      refine g_goto (tgt := 5) hF dX4_mixedFromTopInto_28 (by decide) ?_
      exact ih
  refine g_lload_n hF dX4_mixedFromTopInto_0 rfl ?_
  refine g_lstore_n hF dX4_mixedFromTopInto_1 (Nat.le_of_ble_eq_true rfl) rfl ?_
  refine g_iconst (v := (0)) hF dX4_mixedFromTopInto_2 rfl ?_
  refine g_istore hF dX4_mixedFromTopInto_3 (Nat.le_of_ble_eq_true rfl) rfl ?_
  exact loop 0 (Nat.zero_le _)
set_option maxHeartbeats 4000000 in
set_option maxRecDepth 100000 in
theorem c_Row_init {E : Env3} {h cap : Nat} (hc : cap < 2 ^ 27) : Ct E none 1 1 cap yX4_init cX4_init 2 none [.ref h, .int (nI cap)] [[(h, .inr (4, [.null, .int 0]))]] (fun r g => ∃ a : Nat, r = none ∧ g = [rowW E.2.2 h a cap (fun _ => 0) 0]) := by
  refine Ct.of [some (.ref h), some (.int (nI cap))] (by decide +kernel) rfl (Nat.le_of_ble_eq_true rfl) (fun F hE hF hR hN => ?_)
  subst hE
  refine g_aload_n hF dX4_init_0 rfl ?_
  refine g_objInit hF m_37 m_24 m_25 (by decide) (Nat.le_of_ble_eq_true rfl) dX4_init_1 ?_
  refine g_aload_n hF dX4_init_4 rfl ?_
  refine g_iload_n hF dX4_init_5 rfl ?_
  refine g_iconst (v := 0) hF dX4_init_6 rfl ?_
  refine g_max hF m_38 m_39 m_4 m_40 (by decide) (Nat.zero_le _) (Nat.zero_le _) (Nat.le_of_ble_eq_true rfl) dX4_init_7 ?_
  rw [if_neg (nI_pos (show cap < 2 ^ 31 by omega))]
  refine g_newi hF rfl m_48 (nI_pos (by omega)) (nI_clamp (by omega)) (by omega) (Nat.le_refl _) (by omega) dX4_init_10 (fun q => ?_)
  refine g_putF (j := 0) hF hN 0 rfl rfl (by decide) rfl m_41 rfl (tyX4_ok 0 (by decide)) rfl rfl (Nat.le_of_ble_eq_true rfl) dX4_init_12 ?_
  refine g_regroup (gs' := [rowW F.1.2.2 h q cap (fun _ => 0) 0]) rfl ?_
  refine g_widen (k' := 1) (n' := cap) (by omega) (by omega) ?_
  exact g_vret hF hR dX4_init_15 ⟨q, rfl, rfl⟩
end
section
/-! small static methods, Program -/
theorem nar_bI (b : Bool) : narrow .boolean (.int (bI b)) = .int (bI b) := by cases b <;> rfl
theorem bI_0 {b : Bool} : bI b = 0 ↔ b = false := by cases b <;> simp [bI]
theorem bI_n {b : Bool} : ¬ bI b = 0 ↔ b = true := by cases b <;> simp [bI]
def isCellB (i : Int32) : Bool := !decide (i < 0) && !decide (12 ≤ i)
def isPassB (i : Int32) : Bool := !decide (i < 0) && !decide (99 < i)
def isLenB (i : Int32) : Bool := !decide (i < 1) && !decide (500 < i)
def progAllows (c n : Int32) : Bool := if c = 12 ∨ c = 13 then isCellB n else if c = 16 ∨ c = 17 ∨ c = 18 then !decide (n < 0) && !decide (80 < n) else !decide (c < 0) && !decide (22 < c)
def progO (p rc rn rt : Nat) : va_W := [(p, .inr (3, [.ref rc, .ref rn, .ref rt]))]
set_option maxHeartbeats 4000000 in
set_option maxRecDepth 100000 in
theorem c_isCell {E : Env3} {i : Int32} : Cd E none 0 yX8_isCell cX8_isCell 1 (some .boolean) [.int i] [] (some (.int (bI (isCellB i)))) [] := by
  refine Ct.of [some (.int i)] (by decide +kernel) rfl (Nat.le_of_ble_eq_true rfl) (fun F hE hF hR hN => ?_)
  subst hE
  refine g_iload_n hF dX8_isCell_0 rfl ?_
  refine g_if_lt (tgt := 14) hF dX8_isCell_1 (by decide) (fun c_1 => ?_) (fun c_1 => ?_)
  · refine g_iconst (v := (0)) hF dX8_isCell_14 rfl ?_
    exact g_zret hF hR dX8_isCell_15 rfl ⟨(by simp [bI, isCellB, c_1]), rfl⟩
  · refine g_iload_n hF dX8_isCell_4 rfl ?_
    refine g_bipush (v := (12)) hF dX8_isCell_5 rfl ?_
    refine g_icmp_ge (tgt := 14) hF dX8_isCell_7 (by decide) (fun c_7 => ?_) (fun c_7 => ?_)
    · refine g_iconst (v := (0)) hF dX8_isCell_14 rfl ?_
      exact g_zret hF hR dX8_isCell_15 rfl ⟨(by simp [bI, isCellB, c_1, c_7]), rfl⟩
    · refine g_iconst (v := (1)) hF dX8_isCell_10 rfl ?_
      refine g_goto (tgt := 15) hF dX8_isCell_11 (by decide) ?_
      exact g_zret hF hR dX8_isCell_15 rfl ⟨(by simp [bI, isCellB, c_1, c_7]), rfl⟩
set_option maxHeartbeats 4000000 in
set_option maxRecDepth 100000 in
theorem c_isPass {E : Env3} {i : Int32} : Cd E none 0 yX8_isPass cX8_isPass 1 (some .boolean) [.int i] [] (some (.int (bI (isPassB i)))) [] := by
  refine Ct.of [some (.int i)] (by decide +kernel) rfl (Nat.le_of_ble_eq_true rfl) (fun F hE hF hR hN => ?_)
  subst hE
  refine g_iload_n hF dX8_isPass_0 rfl ?_
  refine g_if_lt (tgt := 14) hF dX8_isPass_1 (by decide) (fun c_1 => ?_) (fun c_1 => ?_)
  · refine g_iconst (v := (0)) hF dX8_isPass_14 rfl ?_
    exact g_zret hF hR dX8_isPass_15 rfl ⟨(by simp [bI, isPassB, c_1]), rfl⟩
  · refine g_iload_n hF dX8_isPass_4 rfl ?_
    refine g_bipush (v := (99)) hF dX8_isPass_5 rfl ?_
    refine g_icmp_gt (tgt := 14) hF dX8_isPass_7 (by decide) (fun c_7 => ?_) (fun c_7 => ?_)
    · refine g_iconst (v := (0)) hF dX8_isPass_14 rfl ?_
      exact g_zret hF hR dX8_isPass_15 rfl ⟨(by simp [bI, isPassB, c_1, c_7]), rfl⟩
    · refine g_iconst (v := (1)) hF dX8_isPass_10 rfl ?_
      refine g_goto (tgt := 15) hF dX8_isPass_11 (by decide) ?_
      exact g_zret hF hR dX8_isPass_15 rfl ⟨(by simp [bI, isPassB, c_1, c_7]), rfl⟩
set_option maxHeartbeats 4000000 in
set_option maxRecDepth 100000 in
theorem c_isRunLength {E : Env3} {i : Int32} : Cd E none 0 yX8_isRunLength cX8_isRunLength 1 (some .boolean) [.int i] [] (some (.int (bI (isLenB i)))) [] := by
  refine Ct.of [some (.int i)] (by decide +kernel) rfl (Nat.le_of_ble_eq_true rfl) (fun F hE hF hR hN => ?_)
  subst hE
  refine g_iload_n hF dX8_isRunLength_0 rfl ?_
  refine g_iconst (v := (1)) hF dX8_isRunLength_1 rfl ?_
  refine g_icmp_lt (tgt := 16) hF dX8_isRunLength_2 (by decide) (fun c_2 => ?_) (fun c_2 => ?_)
  · refine g_iconst (v := (0)) hF dX8_isRunLength_16 rfl ?_
    exact g_zret hF hR dX8_isRunLength_17 rfl ⟨(by simp [bI, isLenB, c_2]), rfl⟩
  · refine g_iload_n hF dX8_isRunLength_5 rfl ?_
    refine g_sipush (v := (500)) hF dX8_isRunLength_6 rfl ?_
    refine g_icmp_gt (tgt := 16) hF dX8_isRunLength_9 (by decide) (fun c_9 => ?_) (fun c_9 => ?_)
    · refine g_iconst (v := (0)) hF dX8_isRunLength_16 rfl ?_
      exact g_zret hF hR dX8_isRunLength_17 rfl ⟨(by simp [bI, isLenB, c_2, c_9]), rfl⟩
    · refine g_iconst (v := (1)) hF dX8_isRunLength_12 rfl ?_
      refine g_goto (tgt := 17) hF dX8_isRunLength_13 (by decide) ?_
      exact g_zret hF hR dX8_isRunLength_17 rfl ⟨(by simp [bI, isLenB, c_2, c_9]), rfl⟩
set_option maxHeartbeats 4000000 in
set_option maxRecDepth 100000 in
theorem c_truth {E : Env3} {b : Bool} : Cd E none 0 yX8_truth cX8_truth 1 (some .int) [.int (bI b)] [] (some (.int (bI b))) [] := by
  refine Ct.of [some (.int (bI b))] (by decide +kernel) rfl (Nat.le_of_ble_eq_true rfl) (fun F hE hF hR hN => ?_)
  subst hE
  refine g_iload_n hF dX8_truth_0 rfl ?_
  refine g_if_eq (tgt := 8) hF dX8_truth_1 (by decide) (fun c_1 => ?_) (fun c_1 => ?_)
  · refine g_iconst (v := (0)) hF dX8_truth_8 rfl ?_
    exact g_iret hF hR dX8_truth_9 ⟨(by rcases b with _ | _ <;> first | rfl | (exact absurd rfl c_1) | (exact absurd c_1 (by decide))), rfl⟩
  · refine g_iconst (v := (1)) hF dX8_truth_4 rfl ?_
    refine g_goto (tgt := 9) hF dX8_truth_5 (by decide) ?_
    exact g_iret hF hR dX8_truth_9 ⟨(by rcases b with _ | _ <;> first | rfl | (exact absurd rfl c_1) | (exact absurd c_1 (by decide))), rfl⟩
set_option maxHeartbeats 4000000 in
set_option maxRecDepth 100000 in
theorem c_allows {E : Env3} {c m : Int32} : Cd E none 1 yX3_allows cX3_allows 2 (some .boolean) [.int c, .int m] [] (some (.int (bI (progAllows c m)))) [] := by
  refine Ct.of [some (.int c), some (.int m)] (by decide +kernel) rfl (Nat.le_of_ble_eq_true rfl) (fun F hE hF hR hN => ?_)
  subst hE
  refine g_iload_n hF dX3_allows_0 rfl ?_
  refine g_bipush (v := (12)) hF dX3_allows_1 rfl ?_
  refine g_icmp_eq (tgt := 12) hF dX3_allows_3 (by decide) (fun c_3 => ?_) (fun c_3 => ?_)
  · refine g_iload_n hF dX3_allows_12 rfl ?_
    refine g_callSNq hF (c_isCell) cal_X8_isCell rfl m_830 (by decide) (Or.inl rfl) (Nat.zero_le _) (Nat.zero_le _) [] rfl rfl rfl (Nat.le_of_ble_eq_true rfl) dX3_allows_13 ?_
    exact g_zret hF hR dX3_allows_16 (nar_bI _) ⟨(by simp [bI, progAllows, c_3]), rfl⟩
  · refine g_iload_n hF dX3_allows_6 rfl ?_
    refine g_bipush (v := (13)) hF dX3_allows_7 rfl ?_
    refine g_icmp_ne (tgt := 17) hF dX3_allows_9 (by decide) (fun c_9 => ?_) (fun c_9 => ?_)
    · refine g_iload_n hF dX3_allows_17 rfl ?_
      refine g_bipush (v := (16)) hF dX3_allows_18 rfl ?_
      refine g_icmp_eq (tgt := 35) hF dX3_allows_20 (by decide) (fun c_20 => ?_) (fun c_20 => ?_)
      · refine g_iload_n hF dX3_allows_35 rfl ?_
        refine g_if_lt (tgt := 49) hF dX3_allows_36 (by decide) (fun c_36 => ?_) (fun c_36 => ?_)
        · refine g_iconst (v := (0)) hF dX3_allows_49 rfl ?_
          exact g_zret hF hR dX3_allows_50 rfl ⟨(by simp [bI, progAllows, c_3, c_9, c_20, c_36]), rfl⟩
        · refine g_iload_n hF dX3_allows_39 rfl ?_
          refine g_bipush (v := (80)) hF dX3_allows_40 rfl ?_
          refine g_icmp_gt (tgt := 49) hF dX3_allows_42 (by decide) (fun c_42 => ?_) (fun c_42 => ?_)
          · refine g_iconst (v := (0)) hF dX3_allows_49 rfl ?_
            exact g_zret hF hR dX3_allows_50 rfl ⟨(by simp [bI, progAllows, c_3, c_9, c_20, c_36, c_42]), rfl⟩
          · refine g_iconst (v := (1)) hF dX3_allows_45 rfl ?_
            refine g_goto (tgt := 50) hF dX3_allows_46 (by decide) ?_
            exact g_zret hF hR dX3_allows_50 rfl ⟨(by simp [bI, progAllows, c_3, c_9, c_20, c_36, c_42]), rfl⟩
      · refine g_iload_n hF dX3_allows_23 rfl ?_
        refine g_bipush (v := (17)) hF dX3_allows_24 rfl ?_
        refine g_icmp_eq (tgt := 35) hF dX3_allows_26 (by decide) (fun c_26 => ?_) (fun c_26 => ?_)
        · refine g_iload_n hF dX3_allows_35 rfl ?_
          refine g_if_lt (tgt := 49) hF dX3_allows_36 (by decide) (fun c_36 => ?_) (fun c_36 => ?_)
          · refine g_iconst (v := (0)) hF dX3_allows_49 rfl ?_
            exact g_zret hF hR dX3_allows_50 rfl ⟨(by simp [bI, progAllows, c_3, c_9, c_20, c_26, c_36]), rfl⟩
          · refine g_iload_n hF dX3_allows_39 rfl ?_
            refine g_bipush (v := (80)) hF dX3_allows_40 rfl ?_
            refine g_icmp_gt (tgt := 49) hF dX3_allows_42 (by decide) (fun c_42 => ?_) (fun c_42 => ?_)
            · refine g_iconst (v := (0)) hF dX3_allows_49 rfl ?_
              exact g_zret hF hR dX3_allows_50 rfl ⟨(by simp [bI, progAllows, c_3, c_9, c_20, c_26, c_36, c_42]), rfl⟩
            · refine g_iconst (v := (1)) hF dX3_allows_45 rfl ?_
              refine g_goto (tgt := 50) hF dX3_allows_46 (by decide) ?_
              exact g_zret hF hR dX3_allows_50 rfl ⟨(by simp [bI, progAllows, c_3, c_9, c_20, c_26, c_36, c_42]), rfl⟩
        · refine g_iload_n hF dX3_allows_29 rfl ?_
          refine g_bipush (v := (18)) hF dX3_allows_30 rfl ?_
          refine g_icmp_ne (tgt := 51) hF dX3_allows_32 (by decide) (fun c_32 => ?_) (fun c_32 => ?_)
          · refine g_iload_n hF dX3_allows_51 rfl ?_
            refine g_if_lt (tgt := 65) hF dX3_allows_52 (by decide) (fun c_52 => ?_) (fun c_52 => ?_)
            · refine g_iconst (v := (0)) hF dX3_allows_65 rfl ?_
              exact g_zret hF hR dX3_allows_66 rfl ⟨(by simp [bI, progAllows, c_3, c_9, c_20, c_26, c_32, c_52]), rfl⟩
            · refine g_iload_n hF dX3_allows_55 rfl ?_
              refine g_bipush (v := (22)) hF dX3_allows_56 rfl ?_
              refine g_icmp_gt (tgt := 65) hF dX3_allows_58 (by decide) (fun c_58 => ?_) (fun c_58 => ?_)
              · refine g_iconst (v := (0)) hF dX3_allows_65 rfl ?_
                exact g_zret hF hR dX3_allows_66 rfl ⟨(by simp [bI, progAllows, c_3, c_9, c_20, c_26, c_32, c_52, c_58]), rfl⟩
              · refine g_iconst (v := (1)) hF dX3_allows_61 rfl ?_
                refine g_goto (tgt := 66) hF dX3_allows_62 (by decide) ?_
                exact g_zret hF hR dX3_allows_66 rfl ⟨(by simp [bI, progAllows, c_3, c_9, c_20, c_26, c_32, c_52, c_58]), rfl⟩
          · refine g_iload_n hF dX3_allows_35 rfl ?_
            refine g_if_lt (tgt := 49) hF dX3_allows_36 (by decide) (fun c_36 => ?_) (fun c_36 => ?_)
            · refine g_iconst (v := (0)) hF dX3_allows_49 rfl ?_
              exact g_zret hF hR dX3_allows_50 rfl ⟨(by simp [bI, progAllows, c_3, c_9, c_20, c_26, c_32, c_36]), rfl⟩
            · refine g_iload_n hF dX3_allows_39 rfl ?_
              refine g_bipush (v := (80)) hF dX3_allows_40 rfl ?_
              refine g_icmp_gt (tgt := 49) hF dX3_allows_42 (by decide) (fun c_42 => ?_) (fun c_42 => ?_)
              · refine g_iconst (v := (0)) hF dX3_allows_49 rfl ?_
                exact g_zret hF hR dX3_allows_50 rfl ⟨(by simp [bI, progAllows, c_3, c_9, c_20, c_26, c_32, c_36, c_42]), rfl⟩
              · refine g_iconst (v := (1)) hF dX3_allows_45 rfl ?_
                refine g_goto (tgt := 50) hF dX3_allows_46 (by decide) ?_
                exact g_zret hF hR dX3_allows_50 rfl ⟨(by simp [bI, progAllows, c_3, c_9, c_20, c_26, c_32, c_36, c_42]), rfl⟩
    · refine g_iload_n hF dX3_allows_12 rfl ?_
      refine g_callSNq hF (c_isCell) cal_X8_isCell rfl m_830 (by decide) (Or.inl rfl) (Nat.zero_le _) (Nat.zero_le _) [] rfl rfl rfl (Nat.le_of_ble_eq_true rfl) dX3_allows_13 ?_
      exact g_zret hF hR dX3_allows_16 (nar_bI _) ⟨(by simp [bI, progAllows, c_3, c_9]), rfl⟩
set_option maxHeartbeats 4000000 in
set_option maxRecDepth 100000 in
theorem c_Prog_size {E : Env3} {p rc rn rt : Nat} {ac nc : Nat} {fc : Nat → Int32}  : Cd E none 1 yX3_size cX3_size 1 (some .int) [.ref p] [progO p rc rn rt, rowW E.2.2 rc ac 80 fc nc] (some (.int (nI nc))) [progO p rc rn rt, rowW E.2.2 rc ac 80 fc nc] := by
  refine Ct.of [some (.ref p)] (by decide +kernel) rfl (Nat.le_of_ble_eq_true rfl) (fun F hE hF hR hN => ?_)
  subst hE
  refine g_aload_n hF dX3_size_0 rfl ?_
  refine g_get (j := 0) hF 0 rfl rfl (by decide) rfl m_49 rfl dX3_size_1 ?_
  refine g_callVq hF (c_Row_size) cal_X4_size rfl m_398 (by decide) (Or.inl rfl) (Nat.zero_le _) (Nat.zero_le _) 1 rfl rfl [1] rfl rfl rfl (Nat.le_of_ble_eq_true rfl) dX3_size_4 ?_
  exact g_iret hF hR dX3_size_7 ⟨rfl, rfl⟩
set_option maxHeartbeats 4000000 in
set_option maxRecDepth 100000 in
theorem c_Prog_isFull {E : Env3} {p rc rn rt : Nat} {ac nc : Nat} {fc : Nat → Int32} (hnc : nc ≤ 80)  : Cd E none 1 yX3_isFull cX3_isFull 1 (some .boolean) [.ref p] [progO p rc rn rt, rowW E.2.2 rc ac 80 fc nc] (some (.int (bI (decide (80 ≤ nc))))) [progO p rc rn rt, rowW E.2.2 rc ac 80 fc nc] := by
  refine Ct.of [some (.ref p)] (by decide +kernel) rfl (Nat.le_of_ble_eq_true rfl) (fun F hE hF hR hN => ?_)
  subst hE
  refine g_aload_n hF dX3_isFull_0 rfl ?_
  refine g_get (j := 0) hF 0 rfl rfl (by decide) rfl m_49 rfl dX3_isFull_1 ?_
  refine g_callVq hF (c_Row_isFull (by first | omega | exact clampI_le | (split <;> omega)) (by omega)) cal_X4_isFull rfl m_836 (by decide) (Or.inl rfl) (Nat.zero_le _) (Nat.zero_le _) 1 rfl rfl [1] rfl rfl rfl (Nat.le_of_ble_eq_true rfl) dX3_isFull_4 ?_
  exact g_zret hF hR dX3_isFull_7 (nar_bI _) ⟨rfl, rfl⟩
set_option maxHeartbeats 4000000 in
set_option maxRecDepth 100000 in
theorem c_Prog_has {E : Env3} {p rc rn rt : Nat} {ac nc : Nat} {fc : Nat → Int32} {i : Int32} : Cd E none 1 yX3_has cX3_has 2 (some .boolean) [.ref p, .int i] [progO p rc rn rt, rowW E.2.2 rc ac 80 fc nc] (some (.int (bI (rowHas nc i)))) [progO p rc rn rt, rowW E.2.2 rc ac 80 fc nc] := by
  refine Ct.of [some (.ref p), some (.int i)] (by decide +kernel) rfl (Nat.le_of_ble_eq_true rfl) (fun F hE hF hR hN => ?_)
  subst hE
  refine g_aload_n hF dX3_has_0 rfl ?_
  refine g_get (j := 0) hF 0 rfl rfl (by decide) rfl m_49 rfl dX3_has_1 ?_
  refine g_iload_n hF dX3_has_4 rfl ?_
  refine g_callVq hF (c_Row_has) cal_X4_has rfl m_467 (by decide) (Or.inl rfl) (Nat.zero_le _) (Nat.zero_le _) 1 rfl rfl [1] rfl rfl rfl (Nat.le_of_ble_eq_true rfl) dX3_has_5 ?_
  exact g_zret hF hR dX3_has_8 (nar_bI _) ⟨rfl, rfl⟩
set_option maxHeartbeats 4000000 in
set_option maxRecDepth 100000 in
theorem c_Prog_codeAt {E : Env3} {p rc rn rt : Nat} {ac nc : Nat} {fc : Nat → Int32} {i : Int32} (hnc : nc ≤ 80)  : Cd E none 1 yX3_codeAt cX3_codeAt 2 (some .int) [.ref p, .int i] [progO p rc rn rt, rowW E.2.2 rc ac 80 fc nc] (some (.int (rowGet fc nc i))) [progO p rc rn rt, rowW E.2.2 rc ac 80 fc nc] := by
  refine Ct.of [some (.ref p), some (.int i)] (by decide +kernel) rfl (Nat.le_of_ble_eq_true rfl) (fun F hE hF hR hN => ?_)
  subst hE
  refine g_aload_n hF dX3_codeAt_0 rfl ?_
  refine g_get (j := 0) hF 0 rfl rfl (by decide) rfl m_49 rfl dX3_codeAt_1 ?_
  refine g_iload_n hF dX3_codeAt_4 rfl ?_
  refine g_callVq hF (c_Row_get (by first | omega | exact clampI_le | (split <;> omega)) (by omega)) cal_X4_get rfl m_475 (by decide) (Or.inl rfl) (Nat.zero_le _) (Nat.zero_le _) 1 rfl rfl [1] rfl rfl rfl (Nat.le_of_ble_eq_true rfl) dX3_codeAt_5 ?_
  exact g_iret hF hR dX3_codeAt_8 ⟨rfl, rfl⟩
set_option maxHeartbeats 4000000 in
set_option maxRecDepth 100000 in
theorem c_Prog_numberAt {E : Env3} {p rc rn rt : Nat} {an nn : Nat} {fn : Nat → Int32} {i : Int32} (hnn : nn ≤ 80)  : Cd E none 1 yX3_numberAt cX3_numberAt 2 (some .int) [.ref p, .int i] [progO p rc rn rt, rowW E.2.2 rn an 80 fn nn] (some (.int (rowGet fn nn i))) [progO p rc rn rt, rowW E.2.2 rn an 80 fn nn] := by
  refine Ct.of [some (.ref p), some (.int i)] (by decide +kernel) rfl (Nat.le_of_ble_eq_true rfl) (fun F hE hF hR hN => ?_)
  subst hE
  refine g_aload_n hF dX3_numberAt_0 rfl ?_
  refine g_get (j := 1) hF 0 rfl rfl (by decide) rfl m_50 rfl dX3_numberAt_1 ?_
  refine g_iload_n hF dX3_numberAt_4 rfl ?_
  refine g_callVq hF (c_Row_get (by first | omega | exact clampI_le | (split <;> omega)) (by omega)) cal_X4_get rfl m_475 (by decide) (Or.inl rfl) (Nat.zero_le _) (Nat.zero_le _) 1 rfl rfl [1] rfl rfl rfl (Nat.le_of_ble_eq_true rfl) dX3_numberAt_5 ?_
  exact g_iret hF hR dX3_numberAt_8 ⟨rfl, rfl⟩
set_option maxHeartbeats 4000000 in
set_option maxRecDepth 100000 in
theorem c_Prog_timesAt {E : Env3} {p rc rn rt : Nat} {at0 nt : Nat} {ft : Nat → Int32} {i : Int32} (hnt : nt ≤ 80)  : Cd E none 1 yX3_timesAt cX3_timesAt 2 (some .int) [.ref p, .int i] [progO p rc rn rt, rowW E.2.2 rt at0 80 ft nt] (some (.int (rowGet ft nt i))) [progO p rc rn rt, rowW E.2.2 rt at0 80 ft nt] := by
  refine Ct.of [some (.ref p), some (.int i)] (by decide +kernel) rfl (Nat.le_of_ble_eq_true rfl) (fun F hE hF hR hN => ?_)
  subst hE
  refine g_aload_n hF dX3_timesAt_0 rfl ?_
  refine g_get (j := 2) hF 0 rfl rfl (by decide) rfl m_51 rfl dX3_timesAt_1 ?_
  refine g_iload_n hF dX3_timesAt_4 rfl ?_
  refine g_callVq hF (c_Row_get (by first | omega | exact clampI_le | (split <;> omega)) (by omega)) cal_X4_get rfl m_475 (by decide) (Or.inl rfl) (Nat.zero_le _) (Nat.zero_le _) 1 rfl rfl [1] rfl rfl rfl (Nat.le_of_ble_eq_true rfl) dX3_timesAt_5 ?_
  exact g_iret hF hR dX3_timesAt_8 ⟨rfl, rfl⟩
set_option maxHeartbeats 4000000 in
set_option maxRecDepth 100000 in
theorem c_Prog_add {E : Env3} {p rc rn rt : Nat} {ac nc : Nat} {fc : Nat → Int32} {an nn : Nat} {fn : Nat → Int32} {at0 nt : Nat} {ft : Nat → Int32} {c m : Int32} (hnc : nc ≤ 80) (hnn : nn ≤ 80) (hnt : nt ≤ 80)  : Cd E none 1 yX3_add cX3_add 3 none [.ref p, .int c, .int m] [progO p rc rn rt, rowW E.2.2 rc ac 80 fc nc, rowW E.2.2 rn an 80 fn nn, rowW E.2.2 rt at0 80 ft nt] none [progO p rc rn rt, rowW E.2.2 rc ac 80 (if nc < 80 then upd fc nc c else fc) (if nc < 80 then nc + 1 else nc), rowW E.2.2 rn an 80 (if nn < 80 then upd fn nn m else fn) (if nn < 80 then nn + 1 else nn), rowW E.2.2 rt at0 80 (if nt < 80 then upd ft nt 0 else ft) (if nt < 80 then nt + 1 else nt)] := by
  refine Ct.of [some (.ref p), some (.int c), some (.int m)] (by decide +kernel) rfl (Nat.le_of_ble_eq_true rfl) (fun F hE hF hR hN => ?_)
  subst hE
  refine g_aload_n hF dX3_add_0 rfl ?_
  refine g_get (j := 0) hF 0 rfl rfl (by decide) rfl m_49 rfl dX3_add_1 ?_
  refine g_iload_n hF dX3_add_4 rfl ?_
  refine g_callVd hF (c_Row_push (by first | omega | exact clampI_le | (split <;> omega)) (by omega)) cal_X4_push rfl m_842 (by decide) (Or.inl rfl) (Nat.zero_le _) (Nat.zero_le _) 1 rfl rfl [1] rfl rfl (Nat.le_of_ble_eq_true rfl) rfl (Nat.le_of_ble_eq_true rfl) dX3_add_5 ?_
  try dsimp only [gput, gputA, List.set, stGs, List.cons_append, List.nil_append]
  refine g_aload_n hF dX3_add_8 rfl ?_
  refine g_get (j := 1) hF 0 rfl rfl (by decide) rfl m_50 rfl dX3_add_9 ?_
  refine g_iload_n hF dX3_add_12 rfl ?_
  refine g_callVd hF (c_Row_push (by first | omega | exact clampI_le | (split <;> omega)) (by omega)) cal_X4_push rfl m_842 (by decide) (Or.inl rfl) (Nat.zero_le _) (Nat.zero_le _) 2 rfl rfl [2] rfl rfl (Nat.le_of_ble_eq_true rfl) rfl (Nat.le_of_ble_eq_true rfl) dX3_add_13 ?_
  try dsimp only [gput, gputA, List.set, stGs, List.cons_append, List.nil_append]
  refine g_aload_n hF dX3_add_16 rfl ?_
  refine g_get (j := 2) hF 0 rfl rfl (by decide) rfl m_51 rfl dX3_add_17 ?_
  refine g_iconst (v := (0)) hF dX3_add_20 rfl ?_
  refine g_callVd hF (c_Row_push (by first | omega | exact clampI_le | (split <;> omega)) (by omega)) cal_X4_push rfl m_842 (by decide) (Or.inl rfl) (Nat.zero_le _) (Nat.zero_le _) 3 rfl rfl [3] rfl rfl (Nat.le_of_ble_eq_true rfl) rfl (Nat.le_of_ble_eq_true rfl) dX3_add_21 ?_
  try dsimp only [gput, gputA, List.set, stGs, List.cons_append, List.nil_append]
  exact g_vret hF hR dX3_add_24 ⟨rfl, rfl⟩
set_option maxHeartbeats 4000000 in
set_option maxRecDepth 100000 in
theorem c_Prog_countTime {E : Env3} {p rc rn rt : Nat} {at0 nt : Nat} {ft : Nat → Int32} {i : Int32} (hnt : nt ≤ 80)  : Cd E none 1 yX3_countTime cX3_countTime 2 none [.ref p, .int i] [progO p rc rn rt, rowW E.2.2 rt at0 80 ft nt] none [progO p rc rn rt, rowW E.2.2 rt at0 80 (rowPut ft nt i (rowGet ft nt i + 1)) nt] := by
  refine Ct.of [some (.ref p), some (.int i)] (by decide +kernel) rfl (Nat.le_of_ble_eq_true rfl) (fun F hE hF hR hN => ?_)
  subst hE
  refine g_aload_n hF dX3_countTime_0 rfl ?_
  refine g_get (j := 2) hF 0 rfl rfl (by decide) rfl m_51 rfl dX3_countTime_1 ?_
  refine g_iload_n hF dX3_countTime_4 rfl ?_
  refine g_aload_n hF dX3_countTime_5 rfl ?_
  refine g_get (j := 2) hF 0 rfl rfl (by decide) rfl m_51 rfl dX3_countTime_6 ?_
  refine g_iload_n hF dX3_countTime_9 rfl ?_
  refine g_callVq hF (c_Row_get (by first | omega | exact clampI_le | (split <;> omega)) (by omega)) cal_X4_get rfl m_475 (by decide) (Or.inl rfl) (Nat.zero_le _) (Nat.zero_le _) 1 rfl rfl [1] rfl rfl rfl (Nat.le_of_ble_eq_true rfl) dX3_countTime_10 ?_
  refine g_iconst (v := (1)) hF dX3_countTime_13 rfl ?_
  refine g_iadd hF dX3_countTime_14 ?_
  refine g_callVd hF (c_Row_put (by first | omega | exact clampI_le | (split <;> omega)) (by omega)) cal_X4_put rfl m_399 (by decide) (Or.inl rfl) (Nat.zero_le _) (Nat.zero_le _) 1 rfl rfl [1] rfl rfl (Nat.le_of_ble_eq_true rfl) rfl (Nat.le_of_ble_eq_true rfl) dX3_countTime_15 ?_
  try dsimp only [gput, gputA, List.set, stGs, List.cons_append, List.nil_append]
  exact g_vret hF hR dX3_countTime_18 ⟨rfl, rfl⟩
theorem rowPut_nI {f : Nat → Int32} {n i : Nat} {x : Int32} (hi : i < n) (hn : n < 2 ^ 31) : rowPut f n (nI i) x = upd f i x := by
  unfold rowPut
  rw [if_neg (nI_pos (by omega)), if_neg (nI_ge hi (by omega)), nI_clamp (by omega)]
set_option maxHeartbeats 4000000 in
set_option maxRecDepth 100000 in
theorem c_Prog_forgetTimes {E : Env3} {p rc rn rt : Nat} {at0 nt : Nat} {ft : Nat → Int32} (hnt : nt ≤ 80)  : Cd E none 1 yX3_forgetTimes cX3_forgetTimes 2 none [.ref p] [progO p rc rn rt, rowW E.2.2 rt at0 80 ft nt] none [progO p rc rn rt, rowW E.2.2 rt at0 80 (zeroTo ft nt) nt] := by
  refine Ct.of [some (.ref p), none] (by decide +kernel) rfl (Nat.le_of_ble_eq_true rfl) (fun F hE hF hR hN => ?_)
  subst hE
  refine g_regroup (gs' := [progO p rc rn rt, rowW F.1.2.2 rt at0 80 (zeroTo ft 0) nt]) (by rw [zeroTo_0]) ?_
  have loop : ∀ i, i ≤ nt → G F 0 0 [progO p rc rn rt, rowW F.1.2.2 rt at0 80 (zeroTo ft i) nt] 2 [some (.ref p), some (.int (nI i))] [] := by
    refine up_loop (Q := fun i => G F 0 0 [progO p rc rn rt, rowW F.1.2.2 rt at0 80 (zeroTo ft i) nt] 2 [some (.ref p), some (.int (nI i))] []) ?_ (fun i hi ih => ?_)
    · refine g_iload_n hF dX3_forgetTimes_2 rfl ?_
      refine g_aload_n hF dX3_forgetTimes_3 rfl ?_
      refine g_get (j := 2) hF 0 rfl rfl (by decide) rfl m_51 rfl dX3_forgetTimes_4 ?_
      refine g_callVq hF (c_Row_size) cal_X4_size rfl m_398 (by decide) (Or.inl rfl) (Nat.zero_le _) (Nat.zero_le _) 1 rfl rfl [1] rfl rfl rfl (Nat.le_of_ble_eq_true rfl) dX3_forgetTimes_7 ?_
      refine g_icmp_ge (tgt := 28) hF dX3_forgetTimes_10 (by decide) (fun c_10 => ?_) (fun c_10 => absurd (nI_le (Nat.le_refl nt) (by omega)) c_10)
      exact g_vret hF hR dX3_forgetTimes_28 ⟨rfl, rfl⟩
    · refine g_iload_n hF dX3_forgetTimes_2 rfl ?_
      refine g_aload_n hF dX3_forgetTimes_3 rfl ?_
      refine g_get (j := 2) hF 0 rfl rfl (by decide) rfl m_51 rfl dX3_forgetTimes_4 ?_
      refine g_callVq hF (c_Row_size) cal_X4_size rfl m_398 (by decide) (Or.inl rfl) (Nat.zero_le _) (Nat.zero_le _) 1 rfl rfl [1] rfl rfl rfl (Nat.le_of_ble_eq_true rfl) dX3_forgetTimes_7 ?_
      refine g_icmp_ge (tgt := 28) hF dX3_forgetTimes_10 (by decide) (fun c_10 => absurd c_10 (nI_ge hi (by omega))) (fun c_10 => ?_)
      refine g_aload_n hF dX3_forgetTimes_13 rfl ?_
      refine g_get (j := 2) hF 0 rfl rfl (by decide) rfl m_51 rfl dX3_forgetTimes_14 ?_
      refine g_iload_n hF dX3_forgetTimes_17 rfl ?_
      refine g_iconst (v := (0)) hF dX3_forgetTimes_18 rfl ?_
      refine g_callVd hF (c_Row_put (by first | omega | exact clampI_le | (split <;> omega)) (by omega)) cal_X4_put rfl m_399 (by decide) (Or.inl rfl) (Nat.zero_le _) (Nat.zero_le _) 1 rfl rfl [1] rfl rfl (Nat.le_of_ble_eq_true rfl) rfl (Nat.le_of_ble_eq_true rfl) dX3_forgetTimes_19 ?_
      try dsimp only [gput, gputA, List.set, stGs, List.cons_append, List.nil_append]
      rw [rowPut_nI hi (by omega), zeroTo_succ]
      refine g_iinc (v := nI (i + 1)) hF dX3_forgetTimes_22 rfl (nI_1 i) rfl ?_
      refine g_goto (tgt := 2) hF dX3_forgetTimes_25 (by decide) ?_
      exact ih
  refine g_iconst (v := (0)) hF dX3_forgetTimes_0 rfl ?_
  refine g_istore_n hF dX3_forgetTimes_1 (Nat.le_of_ble_eq_true rfl) rfl ?_
  exact loop 0 (Nat.zero_le _)
set_option maxHeartbeats 4000000 in
set_option maxRecDepth 100000 in
theorem c_Prog_init {E : Env3} {p : Nat} : Ct E none 2 6 246 yX3_init cX3_init 1 none [.ref p] [[(p, .inr (3, [.null, .null, .null]))]] (fun r g => ∃ rc ac rn an rt at0 : Nat, r = none ∧ g = [progO p rc rn rt, rowW E.2.2 rc ac 80 (fun _ => 0) 0, rowW E.2.2 rn an 80 (fun _ => 0) 0, rowW E.2.2 rt at0 80 (fun _ => 0) 0]) := by
  refine Ct.of [some (.ref p)] (by decide +kernel) rfl (Nat.le_of_ble_eq_true rfl) (fun F hE hF hR hN => ?_)
  subst hE
  refine g_aload_n hF dX3_init_0 rfl ?_
  refine g_objInit hF m_31 m_24 m_25 (by decide) (Nat.le_of_ble_eq_true rfl) dX3_init_1 ?_
  refine g_aload_n hF dX3_init_4 rfl ?_
  refine g_new (ci := 4) (fs := [.null, .int 0]) hF rfl tyX4 tyX4_ok m_32 m_33 m_3 (fun j hj => by rcases (show j = 0 ∨ j = 1 by omega) with rfl | rfl <;> rfl) (Nat.le_of_ble_eq_true rfl) (Nat.le_of_ble_eq_true rfl) dX3_init_5 (fun q1 => ?_)
  refine g_dup hF dX3_init_8 rfl ?_
  refine g_bipush (v := (80)) hF dX3_init_9 rfl ?_
  refine g_callI hF (c_Row_init (cap := 80) (by decide)) cal_X4_init rfl m_34 (by decide) (Or.inl rfl) (Nat.le_of_ble_eq_true rfl) (Nat.le_of_ble_eq_true rfl) [1] rfl rfl rfl (Nat.le_of_ble_eq_true rfl) dX3_init_11 (fun r gs1 hpo => ?_)
  obtain ⟨a1, rfl, rfl⟩ := hpo
  refine ⟨Nat.le_refl _, ?_⟩
  refine g_putF (j := 0) hF hN 0 rfl rfl (by decide) rfl m_49 rfl (tyX3_ok 0 (by decide)) rfl rfl (Nat.le_of_ble_eq_true rfl) dX3_init_14 ?_
  try dsimp only [gput, gputA, List.set, stGs, List.cons_append, List.nil_append]
  refine g_aload_n hF dX3_init_17 rfl ?_
  refine g_new (ci := 4) (fs := [.null, .int 0]) hF rfl tyX4 tyX4_ok m_32 m_33 m_3 (fun j hj => by rcases (show j = 0 ∨ j = 1 by omega) with rfl | rfl <;> rfl) (Nat.le_of_ble_eq_true rfl) (Nat.le_of_ble_eq_true rfl) dX3_init_18 (fun q2 => ?_)
  refine g_dup hF dX3_init_21 rfl ?_
  refine g_bipush (v := (80)) hF dX3_init_22 rfl ?_
  refine g_callI hF (c_Row_init (cap := 80) (by decide)) cal_X4_init rfl m_34 (by decide) (Or.inl rfl) (Nat.le_of_ble_eq_true rfl) (Nat.le_of_ble_eq_true rfl) [2] rfl rfl rfl (Nat.le_of_ble_eq_true rfl) dX3_init_24 (fun r gs1 hpo => ?_)
  obtain ⟨a2, rfl, rfl⟩ := hpo
  refine ⟨Nat.le_refl _, ?_⟩
  refine g_putF (j := 1) hF hN 0 rfl rfl (by decide) rfl m_50 rfl (tyX3_ok 1 (by decide)) rfl rfl (Nat.le_of_ble_eq_true rfl) dX3_init_27 ?_
  try dsimp only [gput, gputA, List.set, stGs, List.cons_append, List.nil_append]
  refine g_aload_n hF dX3_init_30 rfl ?_
  refine g_new (ci := 4) (fs := [.null, .int 0]) hF rfl tyX4 tyX4_ok m_32 m_33 m_3 (fun j hj => by rcases (show j = 0 ∨ j = 1 by omega) with rfl | rfl <;> rfl) (Nat.le_of_ble_eq_true rfl) (Nat.le_of_ble_eq_true rfl) dX3_init_31 (fun q3 => ?_)
  refine g_dup hF dX3_init_34 rfl ?_
  refine g_bipush (v := (80)) hF dX3_init_35 rfl ?_
  refine g_callI hF (c_Row_init (cap := 80) (by decide)) cal_X4_init rfl m_34 (by decide) (Or.inl rfl) (Nat.le_of_ble_eq_true rfl) (Nat.le_of_ble_eq_true rfl) [3] rfl rfl rfl (Nat.le_of_ble_eq_true rfl) dX3_init_37 (fun r gs1 hpo => ?_)
  obtain ⟨a3, rfl, rfl⟩ := hpo
  refine ⟨Nat.le_refl _, ?_⟩
  refine g_putF (j := 2) hF hN 0 rfl rfl (by decide) rfl m_51 rfl (tyX3_ok 2 (by decide)) rfl rfl (Nat.le_of_ble_eq_true rfl) dX3_init_40 ?_
  try dsimp only [gput, gputA, List.set, stGs, List.cons_append, List.nil_append]
  exact g_vret hF hR dX3_init_43 ⟨q1, a1, q2, a2, q3, a3, rfl, rfl⟩
end
section
/-! Moment, State: their pictures, and what each method does to them -/
abbrev RV : Type := (Nat → Int32) × Nat
abbrev SV : Type := RV × RV × RV × RV × Int32 × Int32 × Int32 × Int32
abbrev AV : Type := Nat × (Nat × Nat) × (Nat × Nat) × (Nat × Nat) × (Nat × Nat)
def stO (h r1 r2 r3 r4 : Nat) (at' status rd ck : Int32) : va_W := [(h, .inr (5, [.ref r1, .ref r2, .ref r3, .ref r4, .int at', .int status, .int rd, .int ck]))]
def stGs (cy : Nat → ClassId) (A : AV) (v : SV) : List va_W := [stO A.1 A.2.1.1 A.2.2.1.1 A.2.2.2.1.1 A.2.2.2.2.1 v.2.2.2.2.1 v.2.2.2.2.2.1 v.2.2.2.2.2.2.1 v.2.2.2.2.2.2.2, rowW cy A.2.1.1 A.2.1.2 24 v.1.1 v.1.2, rowW cy A.2.2.1.1 A.2.2.1.2 12 v.2.1.1 v.2.1.2, rowW cy A.2.2.2.1.1 A.2.2.2.1.2 8 v.2.2.1.1 v.2.2.1.2, rowW cy A.2.2.2.2.1 A.2.2.2.2.2 30 v.2.2.2.1.1 v.2.2.2.1.2]
def okS (v : SV) : Prop := v.1.2 ≤ 24 ∧ v.2.1.2 ≤ 12 ∧ v.2.2.1.2 ≤ 8 ∧ v.2.2.2.1.2 ≤ 30
def pushR (cap : Nat) (r : RV) (x : Int32) : RV := (if r.2 < cap then upd r.1 r.2 x else r.1, if r.2 < cap then r.2 + 1 else r.2)
def popR (r : RV) : RV := (r.1, r.2 - 1)
def popV (r : RV) : Int32 := if r.2 = 0 then 0 else r.1 (r.2 - 1)
def getR (r : RV) (i : Int32) : Int32 := rowGet r.1 r.2 i
def topR (r : RV) (i : Int32) : Int32 := rowGet r.1 r.2 (nI r.2 - 1 - i)
def putR (r : RV) (i x : Int32) : RV := (rowPut r.1 r.2 i x, r.2)
def putTopR (r : RV) (i x : Int32) : RV := (rowPut r.1 r.2 (nI r.2 - 1 - i) x, r.2)
def resR (cap : Nat) (r : RV) (k : Int32) : RV := (r.1, clampI k cap)
def cpyR (cap : Nat) (r r2 : RV) : RV := (va_cpy r2.1 r.1 0 0 (min r2.2 cap), min r2.2 cap)
def zeroR (cap : Nat) (r : RV) : RV := (zeroTo r.1 cap, cap)
def needI (c : Int32) : Int32 := if c = 0 ∨ c = 12 ∨ c = 16 ∨ c = 18 ∨ c = 19 ∨ c = 20 ∨ c = 22 then 0 else if c = 1 ∨ c = 2 ∨ c = 11 ∨ c = 13 ∨ c = 14 ∨ c = 17 ∨ c = 21 then 1 else 2
def fullB (c : Int32) (n1 n3 n4 : Nat) : Bool := if c = 0 ∨ c = 2 ∨ c = 4 ∨ c = 12 ∨ c = 20 then decide (24 ≤ n1) else if c = 18 then decide (8 ≤ n3) else if c = 21 then decide (30 ≤ n4) else false
def failF (pc : RV) (v : SV) : Int32 := if rowHas pc.2 v.2.2.2.2.1 = false then 6 else if nI v.1.2 < needI (getR pc v.2.2.2.2.1) ∨ getR pc v.2.2.2.2.1 = 19 ∧ nI v.2.2.1.2 = 0 then 2 else if getR pc v.2.2.2.2.1 = 8 ∧ topR v.1 0 = 0 then 4 else if (getR pc v.2.2.2.2.1 = 14 ∨ getR pc v.2.2.2.2.1 = 15) ∧ isCellB (topR v.1 0) = false then 5 else if fullB (getR pc v.2.2.2.2.1) v.1.2 v.2.2.1.2 v.2.2.2.1.2 = true then 3 else 0
def reckF (c a b : Int32) : Int32 := if c = 5 then a + b else if c = 6 then a - b else if c = 7 then a * b else if c = 8 then (if b = 0 then 0 else a / b) else if c = 9 then bI (decide (a < b)) else if c = 10 then bI (decide (a = b)) else 0
def withAt (v : SV) (s c f o : RV) (a rd : Int32) : SV := (s, c, f, o, a, v.2.2.2.2.2.1, rd, v.2.2.2.2.2.2.2 + 1)
def swapR (s : RV) : RV := pushR 24 (pushR 24 (popR (popR s)) (popV s)) (popV (popR s))
def perfF (c m : Int32) (inp : RV) (v : SV) : SV :=
  if c = 0 then withAt v (pushR 24 v.1 m) v.2.1 v.2.2.1 v.2.2.2.1 (v.2.2.2.2.1 + 1) v.2.2.2.2.2.2.1
  else if c = 1 then withAt v (popR v.1) v.2.1 v.2.2.1 v.2.2.2.1 (v.2.2.2.2.1 + 1) v.2.2.2.2.2.2.1
  else if c = 2 then withAt v (pushR 24 v.1 (topR v.1 0)) v.2.1 v.2.2.1 v.2.2.2.1 (v.2.2.2.2.1 + 1) v.2.2.2.2.2.2.1
  else if c = 3 then withAt v (swapR v.1) v.2.1 v.2.2.1 v.2.2.2.1 (v.2.2.2.2.1 + 1) v.2.2.2.2.2.2.1
  else if c = 4 then withAt v (pushR 24 v.1 (topR v.1 1)) v.2.1 v.2.2.1 v.2.2.2.1 (v.2.2.2.2.1 + 1) v.2.2.2.2.2.2.1
  else if c = 11 then withAt v (pushR 24 (popR v.1) (bI (decide (popV v.1 = 0)))) v.2.1 v.2.2.1 v.2.2.2.1 (v.2.2.2.2.1 + 1) v.2.2.2.2.2.2.1
  else if c = 12 then withAt v (pushR 24 v.1 (getR v.2.1 m)) v.2.1 v.2.2.1 v.2.2.2.1 (v.2.2.2.2.1 + 1) v.2.2.2.2.2.2.1
  else if c = 13 then withAt v (popR v.1) (putR v.2.1 m (popV v.1)) v.2.2.1 v.2.2.2.1 (v.2.2.2.2.1 + 1) v.2.2.2.2.2.2.1
  else if c = 14 then withAt v (pushR 24 (popR v.1) (getR v.2.1 (popV v.1))) v.2.1 v.2.2.1 v.2.2.2.1 (v.2.2.2.2.1 + 1) v.2.2.2.2.2.2.1
  else if c = 15 then withAt v (popR (popR v.1)) (putR v.2.1 (popV v.1) (popV (popR v.1))) v.2.2.1 v.2.2.2.1 (v.2.2.2.2.1 + 1) v.2.2.2.2.2.2.1
  else if c = 16 then withAt v v.1 v.2.1 v.2.2.1 v.2.2.2.1 m v.2.2.2.2.2.2.1
  else if c = 17 then withAt v (popR v.1) v.2.1 v.2.2.1 v.2.2.2.1 (if popV v.1 = 0 then m else v.2.2.2.2.1 + 1) v.2.2.2.2.2.2.1
  else if c = 18 then withAt v v.1 v.2.1 (pushR 8 v.2.2.1 (v.2.2.2.2.1 + 1)) v.2.2.2.1 m v.2.2.2.2.2.2.1
  else if c = 19 then withAt v v.1 v.2.1 (popR v.2.2.1) v.2.2.2.1 (popV v.2.2.1) v.2.2.2.2.2.2.1
  else if c = 20 then withAt v (pushR 24 v.1 (if rowHas inp.2 v.2.2.2.2.2.2.1 = false then 0 else getR inp (v.2.2.2.2.2.2.1 + 1 - 1))) v.2.1 v.2.2.1 v.2.2.2.1 (v.2.2.2.2.1 + 1) (if rowHas inp.2 v.2.2.2.2.2.2.1 = false then v.2.2.2.2.2.2.1 else v.2.2.2.2.2.2.1 + 1)
  else if c = 21 then withAt v (popR v.1) v.2.1 v.2.2.1 (pushR 30 v.2.2.2.1 (popV v.1)) (v.2.2.2.2.1 + 1) v.2.2.2.2.2.2.1
  else if c = 22 then (v.1, v.2.1, v.2.2.1, v.2.2.2.1, v.2.2.2.2.1, 1, v.2.2.2.2.2.2.1, v.2.2.2.2.2.2.2 + 1)
  else withAt v (pushR 24 (popR (popR v.1)) (reckF c (popV (popR v.1)) (popV v.1))) v.2.1 v.2.2.1 v.2.2.2.1 (v.2.2.2.2.1 + 1) v.2.2.2.2.2.2.1
def momO (q : Nat) (μ : Nat → Int32) : va_W := [(q, .inr (0, [.int (μ 0), .int (μ 1), .int (μ 2), .int (μ 3), .int (μ 4), .int (μ 5), .int (μ 6), .int (μ 7), .int (μ 8), .int (μ 9), .int (μ 10)]))]
def storeM (μ : Nat → Int32) (c b a : Int32) : Nat → Int32 := fun k => match k with | 8 => c | 9 => b | 10 => a | k => μ k
def baseM (μ : Nat → Int32) (v : SV) : Nat → Int32 := fun k => match k with | 0 => v.2.2.2.2.1 | 1 => nI v.1.2 | 2 => topR v.1 0 | 3 => topR v.1 1 | 4 => nI v.2.2.1.2 | 5 => topR v.2.2.1 0 | 6 => v.2.2.2.2.2.2.1 | 7 => nI v.2.2.2.1.2 | 8 => -1 | k => μ k
def descM (c m : Int32) (μ : Nat → Int32) (v : SV) : Nat → Int32 := if c = 13 then storeM (baseM μ v) m (getR v.2.1 m) (topR v.1 0) else if c = 15 then storeM (baseM μ v) (topR v.1 0) (getR v.2.1 (topR v.1 0)) (topR v.1 1) else baseM μ v
def backF (μ : Nat → Int32) (v : SV) : SV := (putTopR (putTopR (resR 24 v.1 (μ 1)) 0 (μ 2)) 1 (μ 3), putR v.2.1 (μ 8) (μ 9), putTopR (resR 8 v.2.2.1 (μ 4)) 0 (μ 5), resR 30 v.2.2.2.1 (μ 7), μ 0, 0, μ 6, v.2.2.2.2.2.2.2 - 1)
def clearF (v : SV) : SV := (resR 24 v.1 0, zeroR 12 v.2.1, resR 8 v.2.2.1 0, resR 30 v.2.2.2.1 0, 0, 0, 0, 0)
def copyF (t v : SV) : SV := (cpyR 24 t.1 v.1, cpyR 12 t.2.1 v.2.1, cpyR 8 t.2.2.1 v.2.2.1, cpyR 30 t.2.2.2.1 v.2.2.2.1, v.2.2.2.2.1, v.2.2.2.2.2.1, v.2.2.2.2.2.2.1, v.2.2.2.2.2.2.2)
def readyF (pc : RV) (v : SV) : SV := if v.2.2.2.2.2.1 = 0 then (v.1, v.2.1, v.2.2.1, v.2.2.2.1, v.2.2.2.2.1, failF pc v, v.2.2.2.2.2.2.1, v.2.2.2.2.2.2.2) else v
def mixSt (v : SV) (d : Int64) : Int64 := mixS v.2.2.2.1.1 v.2.2.2.1.2 (mixS (fun k => topR v.2.2.1 (nI k)) v.2.2.1.2 (mixS v.2.1.1 v.2.1.2 (mixS (fun k => topR v.1 (nI k)) v.1.2 d)))
set_option maxHeartbeats 4000000 in
set_option maxRecDepth 100000 in
theorem c_St_needOnStack {E : Env3} {c : Int32} : Cd E none 0 yX5_needOnStack cX5_needOnStack 1 (some .int) [.int c] [] (some (.int (needI c))) [] := by
  refine Ct.of [some (.int c)] (by decide +kernel) rfl (Nat.le_of_ble_eq_true rfl) (fun F hE hF hR hN => ?_)
  subst hE
  refine g_iload_n hF dX5_needOnStack_0 rfl ?_
  by_cases t1_0 : c = 0
  · refine g_tableIn (off := 107) (tgt := 108) hF dX5_needOnStack_1 (by rw [t1_0]; decide) (by rw [t1_0]; decide) (by rw [t1_0]; rfl) (by decide) ?_
    refine g_iconst (v := (0)) hF dX5_needOnStack_108 rfl ?_
    exact g_iret hF hR dX5_needOnStack_109 ⟨(by simp [needI, t1_0]), rfl⟩
  by_cases t1_1 : c = 1
  · refine g_tableIn (off := 109) (tgt := 110) hF dX5_needOnStack_1 (by rw [t1_1]; decide) (by rw [t1_1]; decide) (by rw [t1_1]; rfl) (by decide) ?_
    refine g_iconst (v := (1)) hF dX5_needOnStack_110 rfl ?_
    exact g_iret hF hR dX5_needOnStack_111 ⟨(by simp [needI, t1_0, t1_1]), rfl⟩
  by_cases t1_2 : c = 2
  · refine g_tableIn (off := 109) (tgt := 110) hF dX5_needOnStack_1 (by rw [t1_2]; decide) (by rw [t1_2]; decide) (by rw [t1_2]; rfl) (by decide) ?_
    refine g_iconst (v := (1)) hF dX5_needOnStack_110 rfl ?_
    exact g_iret hF hR dX5_needOnStack_111 ⟨(by simp [needI, t1_0, t1_1, t1_2]), rfl⟩
  by_cases t1_3 : c = 3
  · refine g_tableIn (off := 111) (tgt := 112) hF dX5_needOnStack_1 (by rw [t1_3]; decide) (by rw [t1_3]; decide) (by rw [t1_3]; rfl) (by decide) ?_
    refine g_iconst (v := (2)) hF dX5_needOnStack_112 rfl ?_
    exact g_iret hF hR dX5_needOnStack_113 ⟨(by simp [needI, t1_0, t1_1, t1_2, t1_3]), rfl⟩
  by_cases t1_4 : c = 4
  · refine g_tableIn (off := 111) (tgt := 112) hF dX5_needOnStack_1 (by rw [t1_4]; decide) (by rw [t1_4]; decide) (by rw [t1_4]; rfl) (by decide) ?_
    refine g_iconst (v := (2)) hF dX5_needOnStack_112 rfl ?_
    exact g_iret hF hR dX5_needOnStack_113 ⟨(by simp [needI, t1_0, t1_1, t1_2, t1_3, t1_4]), rfl⟩
  by_cases t1_5 : c = 5
  · refine g_tableIn (off := 111) (tgt := 112) hF dX5_needOnStack_1 (by rw [t1_5]; decide) (by rw [t1_5]; decide) (by rw [t1_5]; rfl) (by decide) ?_
    refine g_iconst (v := (2)) hF dX5_needOnStack_112 rfl ?_
    exact g_iret hF hR dX5_needOnStack_113 ⟨(by simp [needI, t1_0, t1_1, t1_2, t1_3, t1_4, t1_5]), rfl⟩
  by_cases t1_6 : c = 6
  · refine g_tableIn (off := 111) (tgt := 112) hF dX5_needOnStack_1 (by rw [t1_6]; decide) (by rw [t1_6]; decide) (by rw [t1_6]; rfl) (by decide) ?_
    refine g_iconst (v := (2)) hF dX5_needOnStack_112 rfl ?_
    exact g_iret hF hR dX5_needOnStack_113 ⟨(by simp [needI, t1_0, t1_1, t1_2, t1_3, t1_4, t1_5, t1_6]), rfl⟩
  by_cases t1_7 : c = 7
  · refine g_tableIn (off := 111) (tgt := 112) hF dX5_needOnStack_1 (by rw [t1_7]; decide) (by rw [t1_7]; decide) (by rw [t1_7]; rfl) (by decide) ?_
    refine g_iconst (v := (2)) hF dX5_needOnStack_112 rfl ?_
    exact g_iret hF hR dX5_needOnStack_113 ⟨(by simp [needI, t1_0, t1_1, t1_2, t1_3, t1_4, t1_5, t1_6, t1_7]), rfl⟩
  by_cases t1_8 : c = 8
  · refine g_tableIn (off := 111) (tgt := 112) hF dX5_needOnStack_1 (by rw [t1_8]; decide) (by rw [t1_8]; decide) (by rw [t1_8]; rfl) (by decide) ?_
    refine g_iconst (v := (2)) hF dX5_needOnStack_112 rfl ?_
    exact g_iret hF hR dX5_needOnStack_113 ⟨(by simp [needI, t1_0, t1_1, t1_2, t1_3, t1_4, t1_5, t1_6, t1_7, t1_8]), rfl⟩
  by_cases t1_9 : c = 9
  · refine g_tableIn (off := 111) (tgt := 112) hF dX5_needOnStack_1 (by rw [t1_9]; decide) (by rw [t1_9]; decide) (by rw [t1_9]; rfl) (by decide) ?_
    refine g_iconst (v := (2)) hF dX5_needOnStack_112 rfl ?_
    exact g_iret hF hR dX5_needOnStack_113 ⟨(by simp [needI, t1_0, t1_1, t1_2, t1_3, t1_4, t1_5, t1_6, t1_7, t1_8, t1_9]), rfl⟩
  by_cases t1_10 : c = 10
  · refine g_tableIn (off := 111) (tgt := 112) hF dX5_needOnStack_1 (by rw [t1_10]; decide) (by rw [t1_10]; decide) (by rw [t1_10]; rfl) (by decide) ?_
    refine g_iconst (v := (2)) hF dX5_needOnStack_112 rfl ?_
    exact g_iret hF hR dX5_needOnStack_113 ⟨(by simp [needI, t1_0, t1_1, t1_2, t1_3, t1_4, t1_5, t1_6, t1_7, t1_8, t1_9, t1_10]), rfl⟩
  by_cases t1_11 : c = 11
  · refine g_tableIn (off := 109) (tgt := 110) hF dX5_needOnStack_1 (by rw [t1_11]; decide) (by rw [t1_11]; decide) (by rw [t1_11]; rfl) (by decide) ?_
    refine g_iconst (v := (1)) hF dX5_needOnStack_110 rfl ?_
    exact g_iret hF hR dX5_needOnStack_111 ⟨(by simp [needI, t1_0, t1_1, t1_2, t1_3, t1_4, t1_5, t1_6, t1_7, t1_8, t1_9, t1_10, t1_11]), rfl⟩
  by_cases t1_12 : c = 12
  · refine g_tableIn (off := 107) (tgt := 108) hF dX5_needOnStack_1 (by rw [t1_12]; decide) (by rw [t1_12]; decide) (by rw [t1_12]; rfl) (by decide) ?_
    refine g_iconst (v := (0)) hF dX5_needOnStack_108 rfl ?_
    exact g_iret hF hR dX5_needOnStack_109 ⟨(by simp [needI, t1_0, t1_1, t1_2, t1_3, t1_4, t1_5, t1_6, t1_7, t1_8, t1_9, t1_10, t1_11, t1_12]), rfl⟩
  by_cases t1_13 : c = 13
  · refine g_tableIn (off := 109) (tgt := 110) hF dX5_needOnStack_1 (by rw [t1_13]; decide) (by rw [t1_13]; decide) (by rw [t1_13]; rfl) (by decide) ?_
    refine g_iconst (v := (1)) hF dX5_needOnStack_110 rfl ?_
    exact g_iret hF hR dX5_needOnStack_111 ⟨(by simp [needI, t1_0, t1_1, t1_2, t1_3, t1_4, t1_5, t1_6, t1_7, t1_8, t1_9, t1_10, t1_11, t1_12, t1_13]), rfl⟩
  by_cases t1_14 : c = 14
  · refine g_tableIn (off := 109) (tgt := 110) hF dX5_needOnStack_1 (by rw [t1_14]; decide) (by rw [t1_14]; decide) (by rw [t1_14]; rfl) (by decide) ?_
    refine g_iconst (v := (1)) hF dX5_needOnStack_110 rfl ?_
    exact g_iret hF hR dX5_needOnStack_111 ⟨(by simp [needI, t1_0, t1_1, t1_2, t1_3, t1_4, t1_5, t1_6, t1_7, t1_8, t1_9, t1_10, t1_11, t1_12, t1_13, t1_14]), rfl⟩
  by_cases t1_15 : c = 15
  · refine g_tableIn (off := 111) (tgt := 112) hF dX5_needOnStack_1 (by rw [t1_15]; decide) (by rw [t1_15]; decide) (by rw [t1_15]; rfl) (by decide) ?_
    refine g_iconst (v := (2)) hF dX5_needOnStack_112 rfl ?_
    exact g_iret hF hR dX5_needOnStack_113 ⟨(by simp [needI, t1_0, t1_1, t1_2, t1_3, t1_4, t1_5, t1_6, t1_7, t1_8, t1_9, t1_10, t1_11, t1_12, t1_13, t1_14, t1_15]), rfl⟩
  by_cases t1_16 : c = 16
  · refine g_tableIn (off := 107) (tgt := 108) hF dX5_needOnStack_1 (by rw [t1_16]; decide) (by rw [t1_16]; decide) (by rw [t1_16]; rfl) (by decide) ?_
    refine g_iconst (v := (0)) hF dX5_needOnStack_108 rfl ?_
    exact g_iret hF hR dX5_needOnStack_109 ⟨(by simp [needI, t1_0, t1_1, t1_2, t1_3, t1_4, t1_5, t1_6, t1_7, t1_8, t1_9, t1_10, t1_11, t1_12, t1_13, t1_14, t1_15, t1_16]), rfl⟩
  by_cases t1_17 : c = 17
  · refine g_tableIn (off := 109) (tgt := 110) hF dX5_needOnStack_1 (by rw [t1_17]; decide) (by rw [t1_17]; decide) (by rw [t1_17]; rfl) (by decide) ?_
    refine g_iconst (v := (1)) hF dX5_needOnStack_110 rfl ?_
    exact g_iret hF hR dX5_needOnStack_111 ⟨(by simp [needI, t1_0, t1_1, t1_2, t1_3, t1_4, t1_5, t1_6, t1_7, t1_8, t1_9, t1_10, t1_11, t1_12, t1_13, t1_14, t1_15, t1_16, t1_17]), rfl⟩
  by_cases t1_18 : c = 18
  · refine g_tableIn (off := 107) (tgt := 108) hF dX5_needOnStack_1 (by rw [t1_18]; decide) (by rw [t1_18]; decide) (by rw [t1_18]; rfl) (by decide) ?_
    refine g_iconst (v := (0)) hF dX5_needOnStack_108 rfl ?_
    exact g_iret hF hR dX5_needOnStack_109 ⟨(by simp [needI, t1_0, t1_1, t1_2, t1_3, t1_4, t1_5, t1_6, t1_7, t1_8, t1_9, t1_10, t1_11, t1_12, t1_13, t1_14, t1_15, t1_16, t1_17, t1_18]), rfl⟩
  by_cases t1_19 : c = 19
  · refine g_tableIn (off := 107) (tgt := 108) hF dX5_needOnStack_1 (by rw [t1_19]; decide) (by rw [t1_19]; decide) (by rw [t1_19]; rfl) (by decide) ?_
    refine g_iconst (v := (0)) hF dX5_needOnStack_108 rfl ?_
    exact g_iret hF hR dX5_needOnStack_109 ⟨(by simp [needI, t1_0, t1_1, t1_2, t1_3, t1_4, t1_5, t1_6, t1_7, t1_8, t1_9, t1_10, t1_11, t1_12, t1_13, t1_14, t1_15, t1_16, t1_17, t1_18, t1_19]), rfl⟩
  by_cases t1_20 : c = 20
  · refine g_tableIn (off := 107) (tgt := 108) hF dX5_needOnStack_1 (by rw [t1_20]; decide) (by rw [t1_20]; decide) (by rw [t1_20]; rfl) (by decide) ?_
    refine g_iconst (v := (0)) hF dX5_needOnStack_108 rfl ?_
    exact g_iret hF hR dX5_needOnStack_109 ⟨(by simp [needI, t1_0, t1_1, t1_2, t1_3, t1_4, t1_5, t1_6, t1_7, t1_8, t1_9, t1_10, t1_11, t1_12, t1_13, t1_14, t1_15, t1_16, t1_17, t1_18, t1_19, t1_20]), rfl⟩
  by_cases t1_21 : c = 21
  · refine g_tableIn (off := 109) (tgt := 110) hF dX5_needOnStack_1 (by rw [t1_21]; decide) (by rw [t1_21]; decide) (by rw [t1_21]; rfl) (by decide) ?_
    refine g_iconst (v := (1)) hF dX5_needOnStack_110 rfl ?_
    exact g_iret hF hR dX5_needOnStack_111 ⟨(by simp [needI, t1_0, t1_1, t1_2, t1_3, t1_4, t1_5, t1_6, t1_7, t1_8, t1_9, t1_10, t1_11, t1_12, t1_13, t1_14, t1_15, t1_16, t1_17, t1_18, t1_19, t1_20, t1_21]), rfl⟩
  by_cases t1_22 : c = 22
  · refine g_tableIn (off := 107) (tgt := 108) hF dX5_needOnStack_1 (by rw [t1_22]; decide) (by rw [t1_22]; decide) (by rw [t1_22]; rfl) (by decide) ?_
    refine g_iconst (v := (0)) hF dX5_needOnStack_108 rfl ?_
    exact g_iret hF hR dX5_needOnStack_109 ⟨(by simp [needI, t1_0, t1_1, t1_2, t1_3, t1_4, t1_5, t1_6, t1_7, t1_8, t1_9, t1_10, t1_11, t1_12, t1_13, t1_14, t1_15, t1_16, t1_17, t1_18, t1_19, t1_20, t1_21, t1_22]), rfl⟩
  refine g_tableOut (tgt := 112) hF dX5_needOnStack_1 (by have z0 := lv_neT t1_0 (a := 0) rfl; have z1 := lv_neT t1_1 (a := 1) rfl; have z2 := lv_neT t1_2 (a := 2) rfl; have z3 := lv_neT t1_3 (a := 3) rfl; have z4 := lv_neT t1_4 (a := 4) rfl; have z5 := lv_neT t1_5 (a := 5) rfl; have z6 := lv_neT t1_6 (a := 6) rfl; have z7 := lv_neT t1_7 (a := 7) rfl; have z8 := lv_neT t1_8 (a := 8) rfl; have z9 := lv_neT t1_9 (a := 9) rfl; have z10 := lv_neT t1_10 (a := 10) rfl; have z11 := lv_neT t1_11 (a := 11) rfl; have z12 := lv_neT t1_12 (a := 12) rfl; have z13 := lv_neT t1_13 (a := 13) rfl; have z14 := lv_neT t1_14 (a := 14) rfl; have z15 := lv_neT t1_15 (a := 15) rfl; have z16 := lv_neT t1_16 (a := 16) rfl; have z17 := lv_neT t1_17 (a := 17) rfl; have z18 := lv_neT t1_18 (a := 18) rfl; have z19 := lv_neT t1_19 (a := 19) rfl; have z20 := lv_neT t1_20 (a := 20) rfl; have z21 := lv_neT t1_21 (a := 21) rfl; have z22 := lv_neT t1_22 (a := 22) rfl; omega) (by decide) ?_
  refine g_iconst (v := (2)) hF dX5_needOnStack_112 rfl ?_
  exact g_iret hF hR dX5_needOnStack_113 ⟨(by simp [needI, t1_0, t1_1, t1_2, t1_3, t1_4, t1_5, t1_6, t1_7, t1_8, t1_9, t1_10, t1_11, t1_12, t1_13, t1_14, t1_15, t1_16, t1_17, t1_18, t1_19, t1_20, t1_21, t1_22]), rfl⟩
set_option maxHeartbeats 4000000 in
set_option maxRecDepth 100000 in
theorem c_St_reckoned {E : Env3} {c x y : Int32} : Cd E none 1 yX5_reckoned cX5_reckoned 3 (some .int) [.int c, .int x, .int y] [] (some (.int (reckF c x y))) [] := by
  refine Ct.of [some (.int c), some (.int x), some (.int y)] (by decide +kernel) rfl (Nat.le_of_ble_eq_true rfl) (fun F hE hF hR hN => ?_)
  subst hE
  refine g_iload_n hF dX5_reckoned_0 rfl ?_
  by_cases t1_5 : c = 5
  · refine g_tableIn (off := 39) (tgt := 40) hF dX5_reckoned_1 (by rw [t1_5]; decide) (by rw [t1_5]; decide) (by rw [t1_5]; rfl) (by decide) ?_
    refine g_iload_n hF dX5_reckoned_40 rfl ?_
    refine g_iload_n hF dX5_reckoned_41 rfl ?_
    refine g_iadd hF dX5_reckoned_42 ?_
    exact g_iret hF hR dX5_reckoned_43 ⟨(by simp [reckF, bI, t1_5]), rfl⟩
  by_cases t1_6 : c = 6
  · refine g_tableIn (off := 43) (tgt := 44) hF dX5_reckoned_1 (by rw [t1_6]; decide) (by rw [t1_6]; decide) (by rw [t1_6]; rfl) (by decide) ?_
    refine g_iload_n hF dX5_reckoned_44 rfl ?_
    refine g_iload_n hF dX5_reckoned_45 rfl ?_
    refine g_isub hF dX5_reckoned_46 ?_
    exact g_iret hF hR dX5_reckoned_47 ⟨(by simp [reckF, bI, t1_5, t1_6]), rfl⟩
  by_cases t1_7 : c = 7
  · refine g_tableIn (off := 47) (tgt := 48) hF dX5_reckoned_1 (by rw [t1_7]; decide) (by rw [t1_7]; decide) (by rw [t1_7]; rfl) (by decide) ?_
    refine g_iload_n hF dX5_reckoned_48 rfl ?_
    refine g_iload_n hF dX5_reckoned_49 rfl ?_
    refine g_imul hF dX5_reckoned_50 ?_
    exact g_iret hF hR dX5_reckoned_51 ⟨(by simp [reckF, bI, t1_5, t1_6, t1_7]), rfl⟩
  by_cases t1_8 : c = 8
  · refine g_tableIn (off := 51) (tgt := 52) hF dX5_reckoned_1 (by rw [t1_8]; decide) (by rw [t1_8]; decide) (by rw [t1_8]; rfl) (by decide) ?_
    refine g_iload_n hF dX5_reckoned_52 rfl ?_
    refine g_if_ne (tgt := 60) hF dX5_reckoned_53 (by decide) (fun c_53 => ?_) (fun c_53 => ?_)
    · refine g_iload_n hF dX5_reckoned_60 rfl ?_
      refine g_iload_n hF dX5_reckoned_61 rfl ?_
      refine g_idiv hF dX5_reckoned_62 c_53 ?_
      exact g_iret hF hR dX5_reckoned_63 ⟨(by simp [reckF, bI, t1_5, t1_6, t1_7, t1_8, c_53]), rfl⟩
    · refine g_iconst (v := (0)) hF dX5_reckoned_56 rfl ?_
      refine g_goto (tgt := 63) hF dX5_reckoned_57 (by decide) ?_
      exact g_iret hF hR dX5_reckoned_63 ⟨(by simp [reckF, bI, t1_5, t1_6, t1_7, t1_8, c_53]), rfl⟩
  by_cases t1_9 : c = 9
  · refine g_tableIn (off := 63) (tgt := 64) hF dX5_reckoned_1 (by rw [t1_9]; decide) (by rw [t1_9]; decide) (by rw [t1_9]; rfl) (by decide) ?_
    refine g_iload_n hF dX5_reckoned_64 rfl ?_
    refine g_iload_n hF dX5_reckoned_65 rfl ?_
    refine g_icmp_ge (tgt := 73) hF dX5_reckoned_66 (by decide) (fun c_66 => ?_) (fun c_66 => ?_)
    · refine g_iconst (v := (0)) hF dX5_reckoned_73 rfl ?_
      refine g_callSNq hF (c_truth (b := false)) cal_X8_truth rfl m_530 (by decide) (Or.inl rfl) (Nat.zero_le _) (Nat.zero_le _) [] rfl rfl rfl (Nat.le_of_ble_eq_true rfl) dX5_reckoned_74 ?_
      exact g_iret hF hR dX5_reckoned_77 ⟨(by simp [reckF, bI, t1_5, t1_6, t1_7, t1_8, t1_9, c_66]), rfl⟩
    · refine g_iconst (v := (1)) hF dX5_reckoned_69 rfl ?_
      refine g_goto (tgt := 74) hF dX5_reckoned_70 (by decide) ?_
      refine g_callSNq hF (c_truth (b := true)) cal_X8_truth rfl m_530 (by decide) (Or.inl rfl) (Nat.zero_le _) (Nat.zero_le _) [] rfl rfl rfl (Nat.le_of_ble_eq_true rfl) dX5_reckoned_74 ?_
      exact g_iret hF hR dX5_reckoned_77 ⟨(by simp [reckF, bI, t1_5, t1_6, t1_7, t1_8, t1_9, c_66]), rfl⟩
  by_cases t1_10 : c = 10
  · refine g_tableIn (off := 77) (tgt := 78) hF dX5_reckoned_1 (by rw [t1_10]; decide) (by rw [t1_10]; decide) (by rw [t1_10]; rfl) (by decide) ?_
    refine g_iload_n hF dX5_reckoned_78 rfl ?_
    refine g_iload_n hF dX5_reckoned_79 rfl ?_
    refine g_icmp_ne (tgt := 87) hF dX5_reckoned_80 (by decide) (fun c_80 => ?_) (fun c_80 => ?_)
    · refine g_iconst (v := (0)) hF dX5_reckoned_87 rfl ?_
      refine g_callSNq hF (c_truth (b := false)) cal_X8_truth rfl m_530 (by decide) (Or.inl rfl) (Nat.zero_le _) (Nat.zero_le _) [] rfl rfl rfl (Nat.le_of_ble_eq_true rfl) dX5_reckoned_88 ?_
      exact g_iret hF hR dX5_reckoned_91 ⟨(by simp [reckF, bI, t1_5, t1_6, t1_7, t1_8, t1_9, t1_10, c_80]), rfl⟩
    · refine g_iconst (v := (1)) hF dX5_reckoned_83 rfl ?_
      refine g_goto (tgt := 88) hF dX5_reckoned_84 (by decide) ?_
      refine g_callSNq hF (c_truth (b := true)) cal_X8_truth rfl m_530 (by decide) (Or.inl rfl) (Nat.zero_le _) (Nat.zero_le _) [] rfl rfl rfl (Nat.le_of_ble_eq_true rfl) dX5_reckoned_88 ?_
      exact g_iret hF hR dX5_reckoned_91 ⟨(by simp [reckF, bI, t1_5, t1_6, t1_7, t1_8, t1_9, t1_10, c_80]), rfl⟩
  refine g_tableOut (tgt := 92) hF dX5_reckoned_1 (by have z0 := lv_neT t1_5 (a := 5) rfl; have z1 := lv_neT t1_6 (a := 6) rfl; have z2 := lv_neT t1_7 (a := 7) rfl; have z3 := lv_neT t1_8 (a := 8) rfl; have z4 := lv_neT t1_9 (a := 9) rfl; have z5 := lv_neT t1_10 (a := 10) rfl; omega) (by decide) ?_
  refine g_iconst (v := (0)) hF dX5_reckoned_92 rfl ?_
  exact g_iret hF hR dX5_reckoned_93 ⟨(by simp [reckF, bI, t1_5, t1_6, t1_7, t1_8, t1_9, t1_10]), rfl⟩
set_option maxHeartbeats 4000000 in
set_option maxRecDepth 100000 in
theorem c_St_isTooFullFor {E : Env3} {h r1 r2 r3 r4 : Nat} {at' status rd ck : Int32} {a1 n1 : Nat} {f1 : Nat → Int32} {a3 n3 : Nat} {f3 : Nat → Int32} {a4 n4 : Nat} {f4 : Nat → Int32} {c : Int32} (h1 : n1 ≤ 24) (h3 : n3 ≤ 8) (h4 : n4 ≤ 30)  : Cd E none 1 yX5_isTooFullFor cX5_isTooFullFor 2 (some .boolean) [.ref h, .int c] [stO h r1 r2 r3 r4 at' status rd ck, rowW E.2.2 r1 a1 24 f1 n1, rowW E.2.2 r3 a3 8 f3 n3, rowW E.2.2 r4 a4 30 f4 n4] (some (.int (bI (fullB c n1 n3 n4)))) [stO h r1 r2 r3 r4 at' status rd ck, rowW E.2.2 r1 a1 24 f1 n1, rowW E.2.2 r3 a3 8 f3 n3, rowW E.2.2 r4 a4 30 f4 n4] := by
  refine Ct.of [some (.ref h), some (.int c)] (by decide +kernel) rfl (Nat.le_of_ble_eq_true rfl) (fun F hE hF hR hN => ?_)
  subst hE
  refine g_iload_n hF dX5_isTooFullFor_0 rfl ?_
  by_cases t1_0 : c = 0
  · refine g_tableIn (off := 103) (tgt := 104) hF dX5_isTooFullFor_1 (by rw [t1_0]; decide) (by rw [t1_0]; decide) (by rw [t1_0]; rfl) (by decide) ?_
    refine g_aload_n hF dX5_isTooFullFor_104 rfl ?_
    refine g_get (j := 0) hF 0 rfl rfl (by decide) rfl m_73 rfl dX5_isTooFullFor_105 ?_
    refine g_callVq hF (c_Row_isFull (by first | omega | exact clampI_le | (split <;> omega)) (by omega)) cal_X4_isFull rfl m_495 (by decide) (Or.inl rfl) (Nat.zero_le _) (Nat.zero_le _) 1 rfl rfl [1] rfl rfl rfl (Nat.le_of_ble_eq_true rfl) dX5_isTooFullFor_108 ?_
    exact g_zret hF hR dX5_isTooFullFor_111 (nar_bI _) ⟨(by simp [fullB, t1_0]), rfl⟩
  by_cases t1_1 : c = 1
  · refine g_tableIn (off := 127) (tgt := 128) hF dX5_isTooFullFor_1 (by rw [t1_1]; decide) (by rw [t1_1]; decide) (by rw [t1_1]; rfl) (by decide) ?_
    refine g_iconst (v := (0)) hF dX5_isTooFullFor_128 rfl ?_
    exact g_zret hF hR dX5_isTooFullFor_129 rfl ⟨(by simp [fullB, bI, t1_0, t1_1]), rfl⟩
  by_cases t1_2 : c = 2
  · refine g_tableIn (off := 103) (tgt := 104) hF dX5_isTooFullFor_1 (by rw [t1_2]; decide) (by rw [t1_2]; decide) (by rw [t1_2]; rfl) (by decide) ?_
    refine g_aload_n hF dX5_isTooFullFor_104 rfl ?_
    refine g_get (j := 0) hF 0 rfl rfl (by decide) rfl m_73 rfl dX5_isTooFullFor_105 ?_
    refine g_callVq hF (c_Row_isFull (by first | omega | exact clampI_le | (split <;> omega)) (by omega)) cal_X4_isFull rfl m_495 (by decide) (Or.inl rfl) (Nat.zero_le _) (Nat.zero_le _) 1 rfl rfl [1] rfl rfl rfl (Nat.le_of_ble_eq_true rfl) dX5_isTooFullFor_108 ?_
    exact g_zret hF hR dX5_isTooFullFor_111 (nar_bI _) ⟨(by simp [fullB, t1_0, t1_1, t1_2]), rfl⟩
  by_cases t1_3 : c = 3
  · refine g_tableIn (off := 127) (tgt := 128) hF dX5_isTooFullFor_1 (by rw [t1_3]; decide) (by rw [t1_3]; decide) (by rw [t1_3]; rfl) (by decide) ?_
    refine g_iconst (v := (0)) hF dX5_isTooFullFor_128 rfl ?_
    exact g_zret hF hR dX5_isTooFullFor_129 rfl ⟨(by simp [fullB, bI, t1_0, t1_1, t1_2, t1_3]), rfl⟩
  by_cases t1_4 : c = 4
  · refine g_tableIn (off := 103) (tgt := 104) hF dX5_isTooFullFor_1 (by rw [t1_4]; decide) (by rw [t1_4]; decide) (by rw [t1_4]; rfl) (by decide) ?_
    refine g_aload_n hF dX5_isTooFullFor_104 rfl ?_
    refine g_get (j := 0) hF 0 rfl rfl (by decide) rfl m_73 rfl dX5_isTooFullFor_105 ?_
    refine g_callVq hF (c_Row_isFull (by first | omega | exact clampI_le | (split <;> omega)) (by omega)) cal_X4_isFull rfl m_495 (by decide) (Or.inl rfl) (Nat.zero_le _) (Nat.zero_le _) 1 rfl rfl [1] rfl rfl rfl (Nat.le_of_ble_eq_true rfl) dX5_isTooFullFor_108 ?_
    exact g_zret hF hR dX5_isTooFullFor_111 (nar_bI _) ⟨(by simp [fullB, t1_0, t1_1, t1_2, t1_3, t1_4]), rfl⟩
  by_cases t1_5 : c = 5
  · refine g_tableIn (off := 127) (tgt := 128) hF dX5_isTooFullFor_1 (by rw [t1_5]; decide) (by rw [t1_5]; decide) (by rw [t1_5]; rfl) (by decide) ?_
    refine g_iconst (v := (0)) hF dX5_isTooFullFor_128 rfl ?_
    exact g_zret hF hR dX5_isTooFullFor_129 rfl ⟨(by simp [fullB, bI, t1_0, t1_1, t1_2, t1_3, t1_4, t1_5]), rfl⟩
  by_cases t1_6 : c = 6
  · refine g_tableIn (off := 127) (tgt := 128) hF dX5_isTooFullFor_1 (by rw [t1_6]; decide) (by rw [t1_6]; decide) (by rw [t1_6]; rfl) (by decide) ?_
    refine g_iconst (v := (0)) hF dX5_isTooFullFor_128 rfl ?_
    exact g_zret hF hR dX5_isTooFullFor_129 rfl ⟨(by simp [fullB, bI, t1_0, t1_1, t1_2, t1_3, t1_4, t1_5, t1_6]), rfl⟩
  by_cases t1_7 : c = 7
  · refine g_tableIn (off := 127) (tgt := 128) hF dX5_isTooFullFor_1 (by rw [t1_7]; decide) (by rw [t1_7]; decide) (by rw [t1_7]; rfl) (by decide) ?_
    refine g_iconst (v := (0)) hF dX5_isTooFullFor_128 rfl ?_
    exact g_zret hF hR dX5_isTooFullFor_129 rfl ⟨(by simp [fullB, bI, t1_0, t1_1, t1_2, t1_3, t1_4, t1_5, t1_6, t1_7]), rfl⟩
  by_cases t1_8 : c = 8
  · refine g_tableIn (off := 127) (tgt := 128) hF dX5_isTooFullFor_1 (by rw [t1_8]; decide) (by rw [t1_8]; decide) (by rw [t1_8]; rfl) (by decide) ?_
    refine g_iconst (v := (0)) hF dX5_isTooFullFor_128 rfl ?_
    exact g_zret hF hR dX5_isTooFullFor_129 rfl ⟨(by simp [fullB, bI, t1_0, t1_1, t1_2, t1_3, t1_4, t1_5, t1_6, t1_7, t1_8]), rfl⟩
  by_cases t1_9 : c = 9
  · refine g_tableIn (off := 127) (tgt := 128) hF dX5_isTooFullFor_1 (by rw [t1_9]; decide) (by rw [t1_9]; decide) (by rw [t1_9]; rfl) (by decide) ?_
    refine g_iconst (v := (0)) hF dX5_isTooFullFor_128 rfl ?_
    exact g_zret hF hR dX5_isTooFullFor_129 rfl ⟨(by simp [fullB, bI, t1_0, t1_1, t1_2, t1_3, t1_4, t1_5, t1_6, t1_7, t1_8, t1_9]), rfl⟩
  by_cases t1_10 : c = 10
  · refine g_tableIn (off := 127) (tgt := 128) hF dX5_isTooFullFor_1 (by rw [t1_10]; decide) (by rw [t1_10]; decide) (by rw [t1_10]; rfl) (by decide) ?_
    refine g_iconst (v := (0)) hF dX5_isTooFullFor_128 rfl ?_
    exact g_zret hF hR dX5_isTooFullFor_129 rfl ⟨(by simp [fullB, bI, t1_0, t1_1, t1_2, t1_3, t1_4, t1_5, t1_6, t1_7, t1_8, t1_9, t1_10]), rfl⟩
  by_cases t1_11 : c = 11
  · refine g_tableIn (off := 127) (tgt := 128) hF dX5_isTooFullFor_1 (by rw [t1_11]; decide) (by rw [t1_11]; decide) (by rw [t1_11]; rfl) (by decide) ?_
    refine g_iconst (v := (0)) hF dX5_isTooFullFor_128 rfl ?_
    exact g_zret hF hR dX5_isTooFullFor_129 rfl ⟨(by simp [fullB, bI, t1_0, t1_1, t1_2, t1_3, t1_4, t1_5, t1_6, t1_7, t1_8, t1_9, t1_10, t1_11]), rfl⟩
  by_cases t1_12 : c = 12
  · refine g_tableIn (off := 103) (tgt := 104) hF dX5_isTooFullFor_1 (by rw [t1_12]; decide) (by rw [t1_12]; decide) (by rw [t1_12]; rfl) (by decide) ?_
    refine g_aload_n hF dX5_isTooFullFor_104 rfl ?_
    refine g_get (j := 0) hF 0 rfl rfl (by decide) rfl m_73 rfl dX5_isTooFullFor_105 ?_
    refine g_callVq hF (c_Row_isFull (by first | omega | exact clampI_le | (split <;> omega)) (by omega)) cal_X4_isFull rfl m_495 (by decide) (Or.inl rfl) (Nat.zero_le _) (Nat.zero_le _) 1 rfl rfl [1] rfl rfl rfl (Nat.le_of_ble_eq_true rfl) dX5_isTooFullFor_108 ?_
    exact g_zret hF hR dX5_isTooFullFor_111 (nar_bI _) ⟨(by simp [fullB, t1_0, t1_1, t1_2, t1_3, t1_4, t1_5, t1_6, t1_7, t1_8, t1_9, t1_10, t1_11, t1_12]), rfl⟩
  by_cases t1_13 : c = 13
  · refine g_tableIn (off := 127) (tgt := 128) hF dX5_isTooFullFor_1 (by rw [t1_13]; decide) (by rw [t1_13]; decide) (by rw [t1_13]; rfl) (by decide) ?_
    refine g_iconst (v := (0)) hF dX5_isTooFullFor_128 rfl ?_
    exact g_zret hF hR dX5_isTooFullFor_129 rfl ⟨(by simp [fullB, bI, t1_0, t1_1, t1_2, t1_3, t1_4, t1_5, t1_6, t1_7, t1_8, t1_9, t1_10, t1_11, t1_12, t1_13]), rfl⟩
  by_cases t1_14 : c = 14
  · refine g_tableIn (off := 127) (tgt := 128) hF dX5_isTooFullFor_1 (by rw [t1_14]; decide) (by rw [t1_14]; decide) (by rw [t1_14]; rfl) (by decide) ?_
    refine g_iconst (v := (0)) hF dX5_isTooFullFor_128 rfl ?_
    exact g_zret hF hR dX5_isTooFullFor_129 rfl ⟨(by simp [fullB, bI, t1_0, t1_1, t1_2, t1_3, t1_4, t1_5, t1_6, t1_7, t1_8, t1_9, t1_10, t1_11, t1_12, t1_13, t1_14]), rfl⟩
  by_cases t1_15 : c = 15
  · refine g_tableIn (off := 127) (tgt := 128) hF dX5_isTooFullFor_1 (by rw [t1_15]; decide) (by rw [t1_15]; decide) (by rw [t1_15]; rfl) (by decide) ?_
    refine g_iconst (v := (0)) hF dX5_isTooFullFor_128 rfl ?_
    exact g_zret hF hR dX5_isTooFullFor_129 rfl ⟨(by simp [fullB, bI, t1_0, t1_1, t1_2, t1_3, t1_4, t1_5, t1_6, t1_7, t1_8, t1_9, t1_10, t1_11, t1_12, t1_13, t1_14, t1_15]), rfl⟩
  by_cases t1_16 : c = 16
  · refine g_tableIn (off := 127) (tgt := 128) hF dX5_isTooFullFor_1 (by rw [t1_16]; decide) (by rw [t1_16]; decide) (by rw [t1_16]; rfl) (by decide) ?_
    refine g_iconst (v := (0)) hF dX5_isTooFullFor_128 rfl ?_
    exact g_zret hF hR dX5_isTooFullFor_129 rfl ⟨(by simp [fullB, bI, t1_0, t1_1, t1_2, t1_3, t1_4, t1_5, t1_6, t1_7, t1_8, t1_9, t1_10, t1_11, t1_12, t1_13, t1_14, t1_15, t1_16]), rfl⟩
  by_cases t1_17 : c = 17
  · refine g_tableIn (off := 127) (tgt := 128) hF dX5_isTooFullFor_1 (by rw [t1_17]; decide) (by rw [t1_17]; decide) (by rw [t1_17]; rfl) (by decide) ?_
    refine g_iconst (v := (0)) hF dX5_isTooFullFor_128 rfl ?_
    exact g_zret hF hR dX5_isTooFullFor_129 rfl ⟨(by simp [fullB, bI, t1_0, t1_1, t1_2, t1_3, t1_4, t1_5, t1_6, t1_7, t1_8, t1_9, t1_10, t1_11, t1_12, t1_13, t1_14, t1_15, t1_16, t1_17]), rfl⟩
  by_cases t1_18 : c = 18
  · refine g_tableIn (off := 111) (tgt := 112) hF dX5_isTooFullFor_1 (by rw [t1_18]; decide) (by rw [t1_18]; decide) (by rw [t1_18]; rfl) (by decide) ?_
    refine g_aload_n hF dX5_isTooFullFor_112 rfl ?_
    refine g_get (j := 2) hF 0 rfl rfl (by decide) rfl m_78 rfl dX5_isTooFullFor_113 ?_
    refine g_callVq hF (c_Row_isFull (by first | omega | exact clampI_le | (split <;> omega)) (by omega)) cal_X4_isFull rfl m_495 (by decide) (Or.inl rfl) (Nat.zero_le _) (Nat.zero_le _) 2 rfl rfl [2] rfl rfl rfl (Nat.le_of_ble_eq_true rfl) dX5_isTooFullFor_116 ?_
    exact g_zret hF hR dX5_isTooFullFor_119 (nar_bI _) ⟨(by simp [fullB, t1_0, t1_1, t1_2, t1_3, t1_4, t1_5, t1_6, t1_7, t1_8, t1_9, t1_10, t1_11, t1_12, t1_13, t1_14, t1_15, t1_16, t1_17, t1_18]), rfl⟩
  by_cases t1_19 : c = 19
  · refine g_tableIn (off := 127) (tgt := 128) hF dX5_isTooFullFor_1 (by rw [t1_19]; decide) (by rw [t1_19]; decide) (by rw [t1_19]; rfl) (by decide) ?_
    refine g_iconst (v := (0)) hF dX5_isTooFullFor_128 rfl ?_
    exact g_zret hF hR dX5_isTooFullFor_129 rfl ⟨(by simp [fullB, bI, t1_0, t1_1, t1_2, t1_3, t1_4, t1_5, t1_6, t1_7, t1_8, t1_9, t1_10, t1_11, t1_12, t1_13, t1_14, t1_15, t1_16, t1_17, t1_18, t1_19]), rfl⟩
  by_cases t1_20 : c = 20
  · refine g_tableIn (off := 103) (tgt := 104) hF dX5_isTooFullFor_1 (by rw [t1_20]; decide) (by rw [t1_20]; decide) (by rw [t1_20]; rfl) (by decide) ?_
    refine g_aload_n hF dX5_isTooFullFor_104 rfl ?_
    refine g_get (j := 0) hF 0 rfl rfl (by decide) rfl m_73 rfl dX5_isTooFullFor_105 ?_
    refine g_callVq hF (c_Row_isFull (by first | omega | exact clampI_le | (split <;> omega)) (by omega)) cal_X4_isFull rfl m_495 (by decide) (Or.inl rfl) (Nat.zero_le _) (Nat.zero_le _) 1 rfl rfl [1] rfl rfl rfl (Nat.le_of_ble_eq_true rfl) dX5_isTooFullFor_108 ?_
    exact g_zret hF hR dX5_isTooFullFor_111 (nar_bI _) ⟨(by simp [fullB, t1_0, t1_1, t1_2, t1_3, t1_4, t1_5, t1_6, t1_7, t1_8, t1_9, t1_10, t1_11, t1_12, t1_13, t1_14, t1_15, t1_16, t1_17, t1_18, t1_19, t1_20]), rfl⟩
  by_cases t1_21 : c = 21
  · refine g_tableIn (off := 119) (tgt := 120) hF dX5_isTooFullFor_1 (by rw [t1_21]; decide) (by rw [t1_21]; decide) (by rw [t1_21]; rfl) (by decide) ?_
    refine g_aload_n hF dX5_isTooFullFor_120 rfl ?_
    refine g_get (j := 3) hF 0 rfl rfl (by decide) rfl m_80 rfl dX5_isTooFullFor_121 ?_
    refine g_callVq hF (c_Row_isFull (by first | omega | exact clampI_le | (split <;> omega)) (by omega)) cal_X4_isFull rfl m_495 (by decide) (Or.inl rfl) (Nat.zero_le _) (Nat.zero_le _) 3 rfl rfl [3] rfl rfl rfl (Nat.le_of_ble_eq_true rfl) dX5_isTooFullFor_124 ?_
    exact g_zret hF hR dX5_isTooFullFor_127 (nar_bI _) ⟨(by simp [fullB, t1_0, t1_1, t1_2, t1_3, t1_4, t1_5, t1_6, t1_7, t1_8, t1_9, t1_10, t1_11, t1_12, t1_13, t1_14, t1_15, t1_16, t1_17, t1_18, t1_19, t1_20, t1_21]), rfl⟩
  refine g_tableOut (tgt := 128) hF dX5_isTooFullFor_1 (by have z0 := lv_neT t1_0 (a := 0) rfl; have z1 := lv_neT t1_1 (a := 1) rfl; have z2 := lv_neT t1_2 (a := 2) rfl; have z3 := lv_neT t1_3 (a := 3) rfl; have z4 := lv_neT t1_4 (a := 4) rfl; have z5 := lv_neT t1_5 (a := 5) rfl; have z6 := lv_neT t1_6 (a := 6) rfl; have z7 := lv_neT t1_7 (a := 7) rfl; have z8 := lv_neT t1_8 (a := 8) rfl; have z9 := lv_neT t1_9 (a := 9) rfl; have z10 := lv_neT t1_10 (a := 10) rfl; have z11 := lv_neT t1_11 (a := 11) rfl; have z12 := lv_neT t1_12 (a := 12) rfl; have z13 := lv_neT t1_13 (a := 13) rfl; have z14 := lv_neT t1_14 (a := 14) rfl; have z15 := lv_neT t1_15 (a := 15) rfl; have z16 := lv_neT t1_16 (a := 16) rfl; have z17 := lv_neT t1_17 (a := 17) rfl; have z18 := lv_neT t1_18 (a := 18) rfl; have z19 := lv_neT t1_19 (a := 19) rfl; have z20 := lv_neT t1_20 (a := 20) rfl; have z21 := lv_neT t1_21 (a := 21) rfl; omega) (by decide) ?_
  refine g_iconst (v := (0)) hF dX5_isTooFullFor_128 rfl ?_
  exact g_zret hF hR dX5_isTooFullFor_129 rfl ⟨(by simp [fullB, bI, t1_0, t1_1, t1_2, t1_3, t1_4, t1_5, t1_6, t1_7, t1_8, t1_9, t1_10, t1_11, t1_12, t1_13, t1_14, t1_15, t1_16, t1_17, t1_18, t1_19, t1_20, t1_21]), rfl⟩
set_option maxHeartbeats 4000000 in
set_option maxRecDepth 100000 in
theorem c_St_swap {E : Env3} {h r1 r2 r3 r4 : Nat} {at' status rd ck : Int32} {a1 n1 : Nat} {f1 : Nat → Int32} (h1 : n1 ≤ 24)  : Cd E none 1 yX5_swap cX5_swap 3 none [.ref h] [stO h r1 r2 r3 r4 at' status rd ck, rowW E.2.2 r1 a1 24 f1 n1] none [stO h r1 r2 r3 r4 at' status rd ck, rowW E.2.2 r1 a1 24 (swapR (f1, n1)).1 (swapR (f1, n1)).2] := by
  refine Ct.of [some (.ref h), none, none] (by decide +kernel) rfl (Nat.le_of_ble_eq_true rfl) (fun F hE hF hR hN => ?_)
  subst hE
  refine g_aload_n hF dX5_swap_0 rfl ?_
  refine g_get (j := 0) hF 0 rfl rfl (by decide) rfl m_73 rfl dX5_swap_1 ?_
  refine g_callVd hF (c_Row_pop (by first | omega | exact clampI_le | (split <;> omega)) (by omega)) cal_X4_pop rfl m_522 (by decide) (Or.inl rfl) (Nat.zero_le _) (Nat.zero_le _) 1 rfl rfl [1] rfl rfl (Nat.le_of_ble_eq_true rfl) rfl (Nat.le_of_ble_eq_true rfl) dX5_swap_4 ?_
  try dsimp only [gput, gputA, List.set, stGs, List.cons_append, List.nil_append]
  refine g_istore_n hF dX5_swap_7 (Nat.le_of_ble_eq_true rfl) rfl ?_
  refine g_aload_n hF dX5_swap_8 rfl ?_
  refine g_get (j := 0) hF 0 rfl rfl (by decide) rfl m_73 rfl dX5_swap_9 ?_
  refine g_callVd hF (c_Row_pop (by first | omega | exact clampI_le | (split <;> omega)) (by omega)) cal_X4_pop rfl m_522 (by decide) (Or.inl rfl) (Nat.zero_le _) (Nat.zero_le _) 1 rfl rfl [1] rfl rfl (Nat.le_of_ble_eq_true rfl) rfl (Nat.le_of_ble_eq_true rfl) dX5_swap_12 ?_
  try dsimp only [gput, gputA, List.set, stGs, List.cons_append, List.nil_append]
  refine g_istore_n hF dX5_swap_15 (Nat.le_of_ble_eq_true rfl) rfl ?_
  refine g_aload_n hF dX5_swap_16 rfl ?_
  refine g_get (j := 0) hF 0 rfl rfl (by decide) rfl m_73 rfl dX5_swap_17 ?_
  refine g_iload_n hF dX5_swap_20 rfl ?_
  refine g_callVd hF (c_Row_push (by first | omega | exact clampI_le | (split <;> omega)) (by omega)) cal_X4_push rfl m_521 (by decide) (Or.inl rfl) (Nat.zero_le _) (Nat.zero_le _) 1 rfl rfl [1] rfl rfl (Nat.le_of_ble_eq_true rfl) rfl (Nat.le_of_ble_eq_true rfl) dX5_swap_21 ?_
  try dsimp only [gput, gputA, List.set, stGs, List.cons_append, List.nil_append]
  refine g_aload_n hF dX5_swap_24 rfl ?_
  refine g_get (j := 0) hF 0 rfl rfl (by decide) rfl m_73 rfl dX5_swap_25 ?_
  refine g_iload_n hF dX5_swap_28 rfl ?_
  refine g_callVd hF (c_Row_push (by first | omega | exact clampI_le | (split <;> omega)) (by omega)) cal_X4_push rfl m_521 (by decide) (Or.inl rfl) (Nat.zero_le _) (Nat.zero_le _) 1 rfl rfl [1] rfl rfl (Nat.le_of_ble_eq_true rfl) rfl (Nat.le_of_ble_eq_true rfl) dX5_swap_29 ?_
  try dsimp only [gput, gputA, List.set, stGs, List.cons_append, List.nil_append]
  exact g_vret hF hR dX5_swap_32 ⟨rfl, rfl⟩
set_option maxHeartbeats 4000000 in
set_option maxRecDepth 100000 in
theorem c_St_storeAt {E : Env3} {h r1 r2 r3 r4 : Nat} {at' status rd ck : Int32} {a1 n1 : Nat} {f1 : Nat → Int32} {a2 n2 : Nat} {f2 : Nat → Int32} (h1 : n1 ≤ 24) (h2 : n2 ≤ 12)  : Cd E none 1 yX5_storeAt cX5_storeAt 2 none [.ref h] [stO h r1 r2 r3 r4 at' status rd ck, rowW E.2.2 r1 a1 24 f1 n1, rowW E.2.2 r2 a2 12 f2 n2] none [stO h r1 r2 r3 r4 at' status rd ck, rowW E.2.2 r1 a1 24 (popR (popR (f1, n1))).1 (popR (popR (f1, n1))).2, rowW E.2.2 r2 a2 12 (putR (f2, n2) (popV (f1, n1)) (popV (popR (f1, n1)))).1 (putR (f2, n2) (popV (f1, n1)) (popV (popR (f1, n1)))).2] := by
  refine Ct.of [some (.ref h), none] (by decide +kernel) rfl (Nat.le_of_ble_eq_true rfl) (fun F hE hF hR hN => ?_)
  subst hE
  refine g_aload_n hF dX5_storeAt_0 rfl ?_
  refine g_get (j := 0) hF 0 rfl rfl (by decide) rfl m_73 rfl dX5_storeAt_1 ?_
  refine g_callVd hF (c_Row_pop (by first | omega | exact clampI_le | (split <;> omega)) (by omega)) cal_X4_pop rfl m_522 (by decide) (Or.inl rfl) (Nat.zero_le _) (Nat.zero_le _) 1 rfl rfl [1] rfl rfl (Nat.le_of_ble_eq_true rfl) rfl (Nat.le_of_ble_eq_true rfl) dX5_storeAt_4 ?_
  try dsimp only [gput, gputA, List.set, stGs, List.cons_append, List.nil_append]
  refine g_istore_n hF dX5_storeAt_7 (Nat.le_of_ble_eq_true rfl) rfl ?_
  refine g_aload_n hF dX5_storeAt_8 rfl ?_
  refine g_get (j := 1) hF 0 rfl rfl (by decide) rfl m_75 rfl dX5_storeAt_9 ?_
  refine g_iload_n hF dX5_storeAt_12 rfl ?_
  refine g_aload_n hF dX5_storeAt_13 rfl ?_
  refine g_get (j := 0) hF 0 rfl rfl (by decide) rfl m_73 rfl dX5_storeAt_14 ?_
  refine g_callVd hF (c_Row_pop (by first | omega | exact clampI_le | (split <;> omega)) (by omega)) cal_X4_pop rfl m_522 (by decide) (Or.inl rfl) (Nat.zero_le _) (Nat.zero_le _) 1 rfl rfl [1] rfl rfl (Nat.le_of_ble_eq_true rfl) rfl (Nat.le_of_ble_eq_true rfl) dX5_storeAt_17 ?_
  try dsimp only [gput, gputA, List.set, stGs, List.cons_append, List.nil_append]
  refine g_callVd hF (c_Row_put (by first | omega | exact clampI_le | (split <;> omega)) (by omega)) cal_X4_put rfl m_533 (by decide) (Or.inl rfl) (Nat.zero_le _) (Nat.zero_le _) 2 rfl rfl [2] rfl rfl (Nat.le_of_ble_eq_true rfl) rfl (Nat.le_of_ble_eq_true rfl) dX5_storeAt_20 ?_
  try dsimp only [gput, gputA, List.set, stGs, List.cons_append, List.nil_append]
  exact g_vret hF hR dX5_storeAt_23 ⟨rfl, rfl⟩
set_option maxHeartbeats 4000000 in
set_option maxRecDepth 100000 in
theorem c_St_readFrom {E : Env3} {h r1 r2 r3 r4 : Nat} {at' status rd ck : Int32} {ri ai ni : Nat} {fi : Nat → Int32} (hi : ni ≤ 20)  : Cd E none 1 yX5_readFrom cX5_readFrom 2 (some .int) [.ref h, .ref ri] [stO h r1 r2 r3 r4 at' status rd ck, rowW E.2.2 ri ai 20 fi ni] (some (.int (if rowHas ni rd = false then 0 else getR (fi, ni) (rd + 1 - 1)))) [stO h r1 r2 r3 r4 at' status (if rowHas ni rd = false then rd else rd + 1) ck, rowW E.2.2 ri ai 20 fi ni] := by
  refine Ct.of [some (.ref h), some (.ref ri)] (by decide +kernel) rfl (Nat.le_of_ble_eq_true rfl) (fun F hE hF hR hN => ?_)
  subst hE
  refine g_aload_n hF dX5_readFrom_0 rfl ?_
  refine g_aload_n hF dX5_readFrom_1 rfl ?_
  refine g_get (j := 6) hF 0 rfl rfl (by decide) rfl m_88 rfl dX5_readFrom_2 ?_
  refine g_callVq hF (c_Row_has) cal_X4_has rfl m_542 (by decide) (Or.inl rfl) (Nat.zero_le _) (Nat.zero_le _) 1 rfl rfl [1] rfl rfl rfl (Nat.le_of_ble_eq_true rfl) dX5_readFrom_5 ?_
  refine g_if_ne (tgt := 13) hF dX5_readFrom_8 (by decide) (fun c_8 => ?_) (fun c_8 => ?_)
  · refine g_aload_n hF dX5_readFrom_13 rfl ?_
    refine g_dup hF dX5_readFrom_14 rfl ?_
    refine g_get (j := 6) hF 0 rfl rfl (by decide) rfl m_88 rfl dX5_readFrom_15 ?_
    refine g_iconst (v := (1)) hF dX5_readFrom_18 rfl ?_
    refine g_iadd hF dX5_readFrom_19 ?_
    refine g_put (j := 6) hF 0 rfl rfl (by decide) rfl m_88 rfl (tyX5_ok 6 (by decide)) rfl rfl (Nat.le_of_ble_eq_true rfl) dX5_readFrom_20 ?_
    try dsimp only [gput, gputA, List.set, stGs, List.cons_append, List.nil_append]
    refine g_aload_n hF dX5_readFrom_23 rfl ?_
    refine g_aload_n hF dX5_readFrom_24 rfl ?_
    refine g_get (j := 6) hF 0 rfl rfl (by decide) rfl m_88 rfl dX5_readFrom_25 ?_
    refine g_iconst (v := (1)) hF dX5_readFrom_28 rfl ?_
    refine g_isub hF dX5_readFrom_29 ?_
    refine g_callVq hF (c_Row_get (by first | omega | exact clampI_le | (split <;> omega)) (by omega)) cal_X4_get rfl m_512 (by decide) (Or.inl rfl) (Nat.zero_le _) (Nat.zero_le _) 1 rfl rfl [1] rfl rfl rfl (Nat.le_of_ble_eq_true rfl) dX5_readFrom_30 ?_
    refine g_regroup (gs' := [stO h r1 r2 r3 r4 at' status (if rowHas ni rd = false then rd else rd + 1) ck, rowW F.1.2.2 ri ai 20 fi ni]) (by rw [if_neg (by rw [bI_n.mp c_8]; decide)] <;> rfl) ?_
    exact g_iret hF hR dX5_readFrom_33 ⟨(by simp [getR, bI_n.mp c_8]), rfl⟩
  · refine g_iconst (v := (0)) hF dX5_readFrom_11 rfl ?_
    refine g_regroup (gs' := [stO h r1 r2 r3 r4 at' status (if rowHas ni rd = false then rd else rd + 1) ck, rowW F.1.2.2 ri ai 20 fi ni]) (by rw [if_pos (bI_0.mp c_8)] <;> rfl) ?_
    exact g_iret hF hR dX5_readFrom_12 ⟨(by simp [getR, bI_0.mp c_8]), rfl⟩
set_option maxHeartbeats 4000000 in
set_option maxRecDepth 100000 in
theorem c_St_reckon {E : Env3} {h r1 r2 r3 r4 : Nat} {at' status rd ck : Int32} {a1 n1 : Nat} {f1 : Nat → Int32} {c : Int32} (h1 : n1 ≤ 24)  : Cd E none 2 yX5_reckon cX5_reckon 4 none [.ref h, .int c] [stO h r1 r2 r3 r4 at' status rd ck, rowW E.2.2 r1 a1 24 f1 n1] none [stO h r1 r2 r3 r4 at' status rd ck, rowW E.2.2 r1 a1 24 (pushR 24 (popR (popR (f1, n1))) (reckF c (popV (popR (f1, n1))) (popV (f1, n1)))).1 (pushR 24 (popR (popR (f1, n1))) (reckF c (popV (popR (f1, n1))) (popV (f1, n1)))).2] := by
  refine Ct.of [some (.ref h), some (.int c), none, none] (by decide +kernel) rfl (Nat.le_of_ble_eq_true rfl) (fun F hE hF hR hN => ?_)
  subst hE
  refine g_aload_n hF dX5_reckon_0 rfl ?_
  refine g_get (j := 0) hF 0 rfl rfl (by decide) rfl m_73 rfl dX5_reckon_1 ?_
  refine g_callVd hF (c_Row_pop (by first | omega | exact clampI_le | (split <;> omega)) (by omega)) cal_X4_pop rfl m_522 (by decide) (Or.inl rfl) (Nat.zero_le _) (Nat.zero_le _) 1 rfl rfl [1] rfl rfl (Nat.le_of_ble_eq_true rfl) rfl (Nat.le_of_ble_eq_true rfl) dX5_reckon_4 ?_
  try dsimp only [gput, gputA, List.set, stGs, List.cons_append, List.nil_append]
  refine g_istore_n hF dX5_reckon_7 (Nat.le_of_ble_eq_true rfl) rfl ?_
  refine g_aload_n hF dX5_reckon_8 rfl ?_
  refine g_get (j := 0) hF 0 rfl rfl (by decide) rfl m_73 rfl dX5_reckon_9 ?_
  refine g_callVd hF (c_Row_pop (by first | omega | exact clampI_le | (split <;> omega)) (by omega)) cal_X4_pop rfl m_522 (by decide) (Or.inl rfl) (Nat.zero_le _) (Nat.zero_le _) 1 rfl rfl [1] rfl rfl (Nat.le_of_ble_eq_true rfl) rfl (Nat.le_of_ble_eq_true rfl) dX5_reckon_12 ?_
  try dsimp only [gput, gputA, List.set, stGs, List.cons_append, List.nil_append]
  refine g_istore_n hF dX5_reckon_15 (Nat.le_of_ble_eq_true rfl) rfl ?_
  refine g_aload_n hF dX5_reckon_16 rfl ?_
  refine g_get (j := 0) hF 0 rfl rfl (by decide) rfl m_73 rfl dX5_reckon_17 ?_
  refine g_iload_n hF dX5_reckon_20 rfl ?_
  refine g_iload_n hF dX5_reckon_21 rfl ?_
  refine g_iload_n hF dX5_reckon_22 rfl ?_
  refine g_callSq hF (c_St_reckoned) cal_X5_reckoned rfl m_547 (by decide) (Or.inl rfl) (Nat.zero_le _) (Nat.zero_le _) [] rfl rfl rfl (Nat.le_of_ble_eq_true rfl) dX5_reckon_23 ?_
  refine g_callVd hF (c_Row_push (by first | omega | exact clampI_le | (split <;> omega)) (by omega)) cal_X4_push rfl m_521 (by decide) (Or.inl rfl) (Nat.zero_le _) (Nat.zero_le _) 1 rfl rfl [1] rfl rfl (Nat.le_of_ble_eq_true rfl) rfl (Nat.le_of_ble_eq_true rfl) dX5_reckon_26 ?_
  try dsimp only [gput, gputA, List.set, stGs, List.cons_append, List.nil_append]
  exact g_vret hF hR dX5_reckon_29 ⟨rfl, rfl⟩
end
section
set_option maxHeartbeats 4000000 in
set_option maxRecDepth 100000 in
theorem c_St_failureOf {E : Env3} {h r1 r2 r3 r4 : Nat} {at' status rd ck : Int32} {a1 n1 : Nat} {f1 : Nat → Int32} {n2 : Nat} {f2 : Nat → Int32} {a3 n3 : Nat} {f3 : Nat → Int32} {a4 n4 : Nat} {f4 : Nat → Int32} {p rc rn rt ac : Nat} {fc : Nat → Int32} {nc : Nat} (h1 : n1 ≤ 24) (h3 : n3 ≤ 8) (h4 : n4 ≤ 30) (hc : nc ≤ 80)  : Cd E none 2 yX5_failureOf cX5_failureOf 3 (some .int) [.ref h, .ref p] [stO h r1 r2 r3 r4 at' status rd ck, rowW E.2.2 r1 a1 24 f1 n1, rowW E.2.2 r3 a3 8 f3 n3, rowW E.2.2 r4 a4 30 f4 n4, progO p rc rn rt, rowW E.2.2 rc ac 80 fc nc] (some (.int (failF (fc, nc) ((f1, n1), (f2, n2), (f3, n3), (f4, n4), at', status, rd, ck)))) [stO h r1 r2 r3 r4 at' status rd ck, rowW E.2.2 r1 a1 24 f1 n1, rowW E.2.2 r3 a3 8 f3 n3, rowW E.2.2 r4 a4 30 f4 n4, progO p rc rn rt, rowW E.2.2 rc ac 80 fc nc] := by
  refine Ct.of [some (.ref h), some (.ref p), none] (by decide +kernel) rfl (Nat.le_of_ble_eq_true rfl) (fun F hE hF hR hN => ?_)
  subst hE
  refine g_aload_n hF dX5_failureOf_0 rfl ?_
  refine g_aload_n hF dX5_failureOf_1 rfl ?_
  refine g_get (j := 4) hF 0 rfl rfl (by decide) rfl m_82 rfl dX5_failureOf_2 ?_
  refine g_callVq hF (c_Prog_has) cal_X3_has rfl m_463 (by decide) (Or.inl rfl) (Nat.zero_le _) (Nat.zero_le _) 4 rfl rfl [4, 5] rfl rfl rfl (Nat.le_of_ble_eq_true rfl) dX5_failureOf_5 ?_
  refine g_if_ne (tgt := 14) hF dX5_failureOf_8 (by decide) (fun c_8 => ?_) (fun c_8 => ?_)
  · refine g_aload_n hF dX5_failureOf_14 rfl ?_
    refine g_aload_n hF dX5_failureOf_15 rfl ?_
    refine g_get (j := 4) hF 0 rfl rfl (by decide) rfl m_82 rfl dX5_failureOf_16 ?_
    refine g_callVq hF (c_Prog_codeAt (by omega)) cal_X3_codeAt rfl m_471 (by decide) (Or.inl rfl) (Nat.zero_le _) (Nat.zero_le _) 4 rfl rfl [4, 5] rfl rfl rfl (Nat.le_of_ble_eq_true rfl) dX5_failureOf_19 ?_
    refine g_istore_n hF dX5_failureOf_22 (Nat.le_of_ble_eq_true rfl) rfl ?_
    refine g_aload_n hF dX5_failureOf_23 rfl ?_
    refine g_get (j := 0) hF 0 rfl rfl (by decide) rfl m_73 rfl dX5_failureOf_24 ?_
    refine g_callVq hF (c_Row_size) cal_X4_size rfl m_479 (by decide) (Or.inl rfl) (Nat.zero_le _) (Nat.zero_le _) 1 rfl rfl [1] rfl rfl rfl (Nat.le_of_ble_eq_true rfl) dX5_failureOf_27 ?_
    refine g_iload_n hF dX5_failureOf_30 rfl ?_
    refine g_callSq hF (c_St_needOnStack) cal_X5_needOnStack rfl m_480 (by decide) (Or.inl rfl) (Nat.zero_le _) (Nat.zero_le _) [] rfl rfl rfl (Nat.le_of_ble_eq_true rfl) dX5_failureOf_31 ?_
    refine g_icmp_lt (tgt := 53) hF dX5_failureOf_34 (by decide) (fun c_34 => ?_) (fun c_34 => ?_)
    · refine g_iconst (v := (2)) hF dX5_failureOf_53 rfl ?_
      exact g_iret hF hR dX5_failureOf_54 ⟨(by simp only [failF, getR, topR, bI_n.mp c_8, eq_true c_34, if_true, if_false, true_and, and_true, false_and, and_false, true_or, or_true, false_or, or_false, not_true_eq_false, not_false_eq_true, Bool.true_eq_false, Bool.false_eq_true, ite_true, ite_false, reduceIte, decide_true, decide_false, Bool.not_true, Bool.not_false]), rfl⟩
    · refine g_iload_n hF dX5_failureOf_37 rfl ?_
      refine g_bipush (v := (19)) hF dX5_failureOf_38 rfl ?_
      refine g_icmp_ne (tgt := 55) hF dX5_failureOf_40 (by decide) (fun c_40 => ?_) (fun c_40 => ?_)
      · refine g_iload_n hF dX5_failureOf_55 rfl ?_
        refine g_bipush (v := (8)) hF dX5_failureOf_56 rfl ?_
        refine g_icmp_ne (tgt := 74) hF dX5_failureOf_58 (by decide) (fun c_58 => ?_) (fun c_58 => ?_)
        · refine g_iload_n hF dX5_failureOf_74 rfl ?_
          refine g_bipush (v := (14)) hF dX5_failureOf_75 rfl ?_
          refine g_icmp_eq (tgt := 86) hF dX5_failureOf_77 (by decide) (fun c_77 => ?_) (fun c_77 => ?_)
          · refine g_aload_n hF dX5_failureOf_86 rfl ?_
            refine g_get (j := 0) hF 0 rfl rfl (by decide) rfl m_73 rfl dX5_failureOf_87 ?_
            refine g_iconst (v := (0)) hF dX5_failureOf_90 rfl ?_
            refine g_callVq hF (c_Row_fromTop (by first | omega | exact clampI_le | (split <;> omega)) (by omega)) cal_X4_fromTop rfl m_483 (by decide) (Or.inl rfl) (Nat.zero_le _) (Nat.zero_le _) 1 rfl rfl [1] rfl rfl rfl (Nat.le_of_ble_eq_true rfl) dX5_failureOf_91 ?_
            refine g_callSNq hF (c_isCell) cal_X8_isCell rfl m_488 (by decide) (Or.inl rfl) (Nat.zero_le _) (Nat.zero_le _) [] rfl rfl rfl (Nat.le_of_ble_eq_true rfl) dX5_failureOf_94 ?_
            refine g_if_ne (tgt := 102) hF dX5_failureOf_97 (by decide) (fun c_97 => ?_) (fun c_97 => ?_)
            · refine g_aload_n hF dX5_failureOf_102 rfl ?_
              refine g_iload_n hF dX5_failureOf_103 rfl ?_
              refine g_callVq hF (c_St_isTooFullFor (by omega) (by omega) (by omega)) cal_X5_isTooFullFor rfl m_491 (by decide) (Or.inl rfl) (Nat.zero_le _) (Nat.zero_le _) 0 rfl rfl [0, 1, 2, 3] rfl rfl rfl (Nat.le_of_ble_eq_true rfl) dX5_failureOf_104 ?_
              refine g_if_eq (tgt := 114) hF dX5_failureOf_107 (by decide) (fun c_107 => ?_) (fun c_107 => ?_)
              · refine g_iconst (v := (0)) hF dX5_failureOf_114 rfl ?_
                exact g_iret hF hR dX5_failureOf_115 ⟨(by simp only [failF, getR, topR, bI_n.mp c_8, eq_false c_34, eq_false c_40, eq_false c_58, eq_true c_77, bI_n.mp c_97, bI_0.mp c_107, if_true, if_false, true_and, and_true, false_and, and_false, true_or, or_true, false_or, or_false, not_true_eq_false, not_false_eq_true, Bool.true_eq_false, Bool.false_eq_true, ite_true, ite_false, reduceIte, decide_true, decide_false, Bool.not_true, Bool.not_false]), rfl⟩
              · refine g_iconst (v := (3)) hF dX5_failureOf_110 rfl ?_
                refine g_goto (tgt := 115) hF dX5_failureOf_111 (by decide) ?_
                exact g_iret hF hR dX5_failureOf_115 ⟨(by simp only [failF, getR, topR, bI_n.mp c_8, eq_false c_34, eq_false c_40, eq_false c_58, eq_true c_77, bI_n.mp c_97, bI_n.mp c_107, if_true, if_false, true_and, and_true, false_and, and_false, true_or, or_true, false_or, or_false, not_true_eq_false, not_false_eq_true, Bool.true_eq_false, Bool.false_eq_true, ite_true, ite_false, reduceIte, decide_true, decide_false, Bool.not_true, Bool.not_false]), rfl⟩
            · refine g_iconst (v := (5)) hF dX5_failureOf_100 rfl ?_
              exact g_iret hF hR dX5_failureOf_101 ⟨(by simp only [failF, getR, topR, bI_n.mp c_8, eq_false c_34, eq_false c_40, eq_false c_58, eq_true c_77, bI_0.mp c_97, if_true, if_false, true_and, and_true, false_and, and_false, true_or, or_true, false_or, or_false, not_true_eq_false, not_false_eq_true, Bool.true_eq_false, Bool.false_eq_true, ite_true, ite_false, reduceIte, decide_true, decide_false, Bool.not_true, Bool.not_false]), rfl⟩
          · refine g_iload_n hF dX5_failureOf_80 rfl ?_
            refine g_bipush (v := (15)) hF dX5_failureOf_81 rfl ?_
            refine g_icmp_ne (tgt := 102) hF dX5_failureOf_83 (by decide) (fun c_83 => ?_) (fun c_83 => ?_)
            · refine g_aload_n hF dX5_failureOf_102 rfl ?_
              refine g_iload_n hF dX5_failureOf_103 rfl ?_
              refine g_callVq hF (c_St_isTooFullFor (by omega) (by omega) (by omega)) cal_X5_isTooFullFor rfl m_491 (by decide) (Or.inl rfl) (Nat.zero_le _) (Nat.zero_le _) 0 rfl rfl [0, 1, 2, 3] rfl rfl rfl (Nat.le_of_ble_eq_true rfl) dX5_failureOf_104 ?_
              refine g_if_eq (tgt := 114) hF dX5_failureOf_107 (by decide) (fun c_107 => ?_) (fun c_107 => ?_)
              · refine g_iconst (v := (0)) hF dX5_failureOf_114 rfl ?_
                exact g_iret hF hR dX5_failureOf_115 ⟨(by simp only [failF, getR, topR, bI_n.mp c_8, eq_false c_34, eq_false c_40, eq_false c_58, eq_false c_77, eq_false c_83, bI_0.mp c_107, if_true, if_false, true_and, and_true, false_and, and_false, true_or, or_true, false_or, or_false, not_true_eq_false, not_false_eq_true, Bool.true_eq_false, Bool.false_eq_true, ite_true, ite_false, reduceIte, decide_true, decide_false, Bool.not_true, Bool.not_false]), rfl⟩
              · refine g_iconst (v := (3)) hF dX5_failureOf_110 rfl ?_
                refine g_goto (tgt := 115) hF dX5_failureOf_111 (by decide) ?_
                exact g_iret hF hR dX5_failureOf_115 ⟨(by simp only [failF, getR, topR, bI_n.mp c_8, eq_false c_34, eq_false c_40, eq_false c_58, eq_false c_77, eq_false c_83, bI_n.mp c_107, if_true, if_false, true_and, and_true, false_and, and_false, true_or, or_true, false_or, or_false, not_true_eq_false, not_false_eq_true, Bool.true_eq_false, Bool.false_eq_true, ite_true, ite_false, reduceIte, decide_true, decide_false, Bool.not_true, Bool.not_false]), rfl⟩
            · refine g_aload_n hF dX5_failureOf_86 rfl ?_
              refine g_get (j := 0) hF 0 rfl rfl (by decide) rfl m_73 rfl dX5_failureOf_87 ?_
              refine g_iconst (v := (0)) hF dX5_failureOf_90 rfl ?_
              refine g_callVq hF (c_Row_fromTop (by first | omega | exact clampI_le | (split <;> omega)) (by omega)) cal_X4_fromTop rfl m_483 (by decide) (Or.inl rfl) (Nat.zero_le _) (Nat.zero_le _) 1 rfl rfl [1] rfl rfl rfl (Nat.le_of_ble_eq_true rfl) dX5_failureOf_91 ?_
              refine g_callSNq hF (c_isCell) cal_X8_isCell rfl m_488 (by decide) (Or.inl rfl) (Nat.zero_le _) (Nat.zero_le _) [] rfl rfl rfl (Nat.le_of_ble_eq_true rfl) dX5_failureOf_94 ?_
              refine g_if_ne (tgt := 102) hF dX5_failureOf_97 (by decide) (fun c_97 => ?_) (fun c_97 => ?_)
              · refine g_aload_n hF dX5_failureOf_102 rfl ?_
                refine g_iload_n hF dX5_failureOf_103 rfl ?_
                refine g_callVq hF (c_St_isTooFullFor (by omega) (by omega) (by omega)) cal_X5_isTooFullFor rfl m_491 (by decide) (Or.inl rfl) (Nat.zero_le _) (Nat.zero_le _) 0 rfl rfl [0, 1, 2, 3] rfl rfl rfl (Nat.le_of_ble_eq_true rfl) dX5_failureOf_104 ?_
                refine g_if_eq (tgt := 114) hF dX5_failureOf_107 (by decide) (fun c_107 => ?_) (fun c_107 => ?_)
                · refine g_iconst (v := (0)) hF dX5_failureOf_114 rfl ?_
                  exact g_iret hF hR dX5_failureOf_115 ⟨(by simp only [failF, getR, topR, bI_n.mp c_8, eq_false c_34, eq_false c_40, eq_false c_58, eq_false c_77, eq_true c_83, bI_n.mp c_97, bI_0.mp c_107, if_true, if_false, true_and, and_true, false_and, and_false, true_or, or_true, false_or, or_false, not_true_eq_false, not_false_eq_true, Bool.true_eq_false, Bool.false_eq_true, ite_true, ite_false, reduceIte, decide_true, decide_false, Bool.not_true, Bool.not_false]), rfl⟩
                · refine g_iconst (v := (3)) hF dX5_failureOf_110 rfl ?_
                  refine g_goto (tgt := 115) hF dX5_failureOf_111 (by decide) ?_
                  exact g_iret hF hR dX5_failureOf_115 ⟨(by simp only [failF, getR, topR, bI_n.mp c_8, eq_false c_34, eq_false c_40, eq_false c_58, eq_false c_77, eq_true c_83, bI_n.mp c_97, bI_n.mp c_107, if_true, if_false, true_and, and_true, false_and, and_false, true_or, or_true, false_or, or_false, not_true_eq_false, not_false_eq_true, Bool.true_eq_false, Bool.false_eq_true, ite_true, ite_false, reduceIte, decide_true, decide_false, Bool.not_true, Bool.not_false]), rfl⟩
              · refine g_iconst (v := (5)) hF dX5_failureOf_100 rfl ?_
                exact g_iret hF hR dX5_failureOf_101 ⟨(by simp only [failF, getR, topR, bI_n.mp c_8, eq_false c_34, eq_false c_40, eq_false c_58, eq_false c_77, eq_true c_83, bI_0.mp c_97, if_true, if_false, true_and, and_true, false_and, and_false, true_or, or_true, false_or, or_false, not_true_eq_false, not_false_eq_true, Bool.true_eq_false, Bool.false_eq_true, ite_true, ite_false, reduceIte, decide_true, decide_false, Bool.not_true, Bool.not_false]), rfl⟩
        · refine g_aload_n hF dX5_failureOf_61 rfl ?_
          refine g_get (j := 0) hF 0 rfl rfl (by decide) rfl m_73 rfl dX5_failureOf_62 ?_
          refine g_iconst (v := (0)) hF dX5_failureOf_65 rfl ?_
          refine g_callVq hF (c_Row_fromTop (by first | omega | exact clampI_le | (split <;> omega)) (by omega)) cal_X4_fromTop rfl m_483 (by decide) (Or.inl rfl) (Nat.zero_le _) (Nat.zero_le _) 1 rfl rfl [1] rfl rfl rfl (Nat.le_of_ble_eq_true rfl) dX5_failureOf_66 ?_
          refine g_if_ne (tgt := 74) hF dX5_failureOf_69 (by decide) (fun c_69 => ?_) (fun c_69 => ?_)
          · refine g_iload_n hF dX5_failureOf_74 rfl ?_
            refine g_bipush (v := (14)) hF dX5_failureOf_75 rfl ?_
            refine g_icmp_eq (tgt := 86) hF dX5_failureOf_77 (by decide) (fun c_77 => ?_) (fun c_77 => ?_)
            · refine g_aload_n hF dX5_failureOf_86 rfl ?_
              refine g_get (j := 0) hF 0 rfl rfl (by decide) rfl m_73 rfl dX5_failureOf_87 ?_
              refine g_iconst (v := (0)) hF dX5_failureOf_90 rfl ?_
              refine g_callVq hF (c_Row_fromTop (by first | omega | exact clampI_le | (split <;> omega)) (by omega)) cal_X4_fromTop rfl m_483 (by decide) (Or.inl rfl) (Nat.zero_le _) (Nat.zero_le _) 1 rfl rfl [1] rfl rfl rfl (Nat.le_of_ble_eq_true rfl) dX5_failureOf_91 ?_
              refine g_callSNq hF (c_isCell) cal_X8_isCell rfl m_488 (by decide) (Or.inl rfl) (Nat.zero_le _) (Nat.zero_le _) [] rfl rfl rfl (Nat.le_of_ble_eq_true rfl) dX5_failureOf_94 ?_
              refine g_if_ne (tgt := 102) hF dX5_failureOf_97 (by decide) (fun c_97 => ?_) (fun c_97 => ?_)
              · refine g_aload_n hF dX5_failureOf_102 rfl ?_
                refine g_iload_n hF dX5_failureOf_103 rfl ?_
                refine g_callVq hF (c_St_isTooFullFor (by omega) (by omega) (by omega)) cal_X5_isTooFullFor rfl m_491 (by decide) (Or.inl rfl) (Nat.zero_le _) (Nat.zero_le _) 0 rfl rfl [0, 1, 2, 3] rfl rfl rfl (Nat.le_of_ble_eq_true rfl) dX5_failureOf_104 ?_
                refine g_if_eq (tgt := 114) hF dX5_failureOf_107 (by decide) (fun c_107 => ?_) (fun c_107 => ?_)
                · refine g_iconst (v := (0)) hF dX5_failureOf_114 rfl ?_
                  exact g_iret hF hR dX5_failureOf_115 ⟨(by simp only [failF, getR, topR, bI_n.mp c_8, eq_false c_34, eq_false c_40, eq_true c_58, eq_false c_69, eq_true c_77, bI_n.mp c_97, bI_0.mp c_107, if_true, if_false, true_and, and_true, false_and, and_false, true_or, or_true, false_or, or_false, not_true_eq_false, not_false_eq_true, Bool.true_eq_false, Bool.false_eq_true, ite_true, ite_false, reduceIte, decide_true, decide_false, Bool.not_true, Bool.not_false]), rfl⟩
                · refine g_iconst (v := (3)) hF dX5_failureOf_110 rfl ?_
                  refine g_goto (tgt := 115) hF dX5_failureOf_111 (by decide) ?_
                  exact g_iret hF hR dX5_failureOf_115 ⟨(by simp only [failF, getR, topR, bI_n.mp c_8, eq_false c_34, eq_false c_40, eq_true c_58, eq_false c_69, eq_true c_77, bI_n.mp c_97, bI_n.mp c_107, if_true, if_false, true_and, and_true, false_and, and_false, true_or, or_true, false_or, or_false, not_true_eq_false, not_false_eq_true, Bool.true_eq_false, Bool.false_eq_true, ite_true, ite_false, reduceIte, decide_true, decide_false, Bool.not_true, Bool.not_false]), rfl⟩
              · refine g_iconst (v := (5)) hF dX5_failureOf_100 rfl ?_
                exact g_iret hF hR dX5_failureOf_101 ⟨(by simp only [failF, getR, topR, bI_n.mp c_8, eq_false c_34, eq_false c_40, eq_true c_58, eq_false c_69, eq_true c_77, bI_0.mp c_97, if_true, if_false, true_and, and_true, false_and, and_false, true_or, or_true, false_or, or_false, not_true_eq_false, not_false_eq_true, Bool.true_eq_false, Bool.false_eq_true, ite_true, ite_false, reduceIte, decide_true, decide_false, Bool.not_true, Bool.not_false]), rfl⟩
            · refine g_iload_n hF dX5_failureOf_80 rfl ?_
              refine g_bipush (v := (15)) hF dX5_failureOf_81 rfl ?_
              refine g_icmp_ne (tgt := 102) hF dX5_failureOf_83 (by decide) (fun c_83 => ?_) (fun c_83 => ?_)
              · refine g_aload_n hF dX5_failureOf_102 rfl ?_
                refine g_iload_n hF dX5_failureOf_103 rfl ?_
                refine g_callVq hF (c_St_isTooFullFor (by omega) (by omega) (by omega)) cal_X5_isTooFullFor rfl m_491 (by decide) (Or.inl rfl) (Nat.zero_le _) (Nat.zero_le _) 0 rfl rfl [0, 1, 2, 3] rfl rfl rfl (Nat.le_of_ble_eq_true rfl) dX5_failureOf_104 ?_
                refine g_if_eq (tgt := 114) hF dX5_failureOf_107 (by decide) (fun c_107 => ?_) (fun c_107 => ?_)
                · refine g_iconst (v := (0)) hF dX5_failureOf_114 rfl ?_
                  exact g_iret hF hR dX5_failureOf_115 ⟨(by simp only [failF, getR, topR, bI_n.mp c_8, eq_false c_34, eq_false c_40, eq_true c_58, eq_false c_69, eq_false c_77, eq_false c_83, bI_0.mp c_107, if_true, if_false, true_and, and_true, false_and, and_false, true_or, or_true, false_or, or_false, not_true_eq_false, not_false_eq_true, Bool.true_eq_false, Bool.false_eq_true, ite_true, ite_false, reduceIte, decide_true, decide_false, Bool.not_true, Bool.not_false]), rfl⟩
                · refine g_iconst (v := (3)) hF dX5_failureOf_110 rfl ?_
                  refine g_goto (tgt := 115) hF dX5_failureOf_111 (by decide) ?_
                  exact g_iret hF hR dX5_failureOf_115 ⟨(by simp only [failF, getR, topR, bI_n.mp c_8, eq_false c_34, eq_false c_40, eq_true c_58, eq_false c_69, eq_false c_77, eq_false c_83, bI_n.mp c_107, if_true, if_false, true_and, and_true, false_and, and_false, true_or, or_true, false_or, or_false, not_true_eq_false, not_false_eq_true, Bool.true_eq_false, Bool.false_eq_true, ite_true, ite_false, reduceIte, decide_true, decide_false, Bool.not_true, Bool.not_false]), rfl⟩
              · refine g_aload_n hF dX5_failureOf_86 rfl ?_
                refine g_get (j := 0) hF 0 rfl rfl (by decide) rfl m_73 rfl dX5_failureOf_87 ?_
                refine g_iconst (v := (0)) hF dX5_failureOf_90 rfl ?_
                refine g_callVq hF (c_Row_fromTop (by first | omega | exact clampI_le | (split <;> omega)) (by omega)) cal_X4_fromTop rfl m_483 (by decide) (Or.inl rfl) (Nat.zero_le _) (Nat.zero_le _) 1 rfl rfl [1] rfl rfl rfl (Nat.le_of_ble_eq_true rfl) dX5_failureOf_91 ?_
                refine g_callSNq hF (c_isCell) cal_X8_isCell rfl m_488 (by decide) (Or.inl rfl) (Nat.zero_le _) (Nat.zero_le _) [] rfl rfl rfl (Nat.le_of_ble_eq_true rfl) dX5_failureOf_94 ?_
                refine g_if_ne (tgt := 102) hF dX5_failureOf_97 (by decide) (fun c_97 => ?_) (fun c_97 => ?_)
                · refine g_aload_n hF dX5_failureOf_102 rfl ?_
                  refine g_iload_n hF dX5_failureOf_103 rfl ?_
                  refine g_callVq hF (c_St_isTooFullFor (by omega) (by omega) (by omega)) cal_X5_isTooFullFor rfl m_491 (by decide) (Or.inl rfl) (Nat.zero_le _) (Nat.zero_le _) 0 rfl rfl [0, 1, 2, 3] rfl rfl rfl (Nat.le_of_ble_eq_true rfl) dX5_failureOf_104 ?_
                  refine g_if_eq (tgt := 114) hF dX5_failureOf_107 (by decide) (fun c_107 => ?_) (fun c_107 => ?_)
                  · refine g_iconst (v := (0)) hF dX5_failureOf_114 rfl ?_
                    exact g_iret hF hR dX5_failureOf_115 ⟨(by simp only [failF, getR, topR, bI_n.mp c_8, eq_false c_34, eq_false c_40, eq_true c_58, eq_false c_69, eq_false c_77, eq_true c_83, bI_n.mp c_97, bI_0.mp c_107, if_true, if_false, true_and, and_true, false_and, and_false, true_or, or_true, false_or, or_false, not_true_eq_false, not_false_eq_true, Bool.true_eq_false, Bool.false_eq_true, ite_true, ite_false, reduceIte, decide_true, decide_false, Bool.not_true, Bool.not_false]), rfl⟩
                  · refine g_iconst (v := (3)) hF dX5_failureOf_110 rfl ?_
                    refine g_goto (tgt := 115) hF dX5_failureOf_111 (by decide) ?_
                    exact g_iret hF hR dX5_failureOf_115 ⟨(by simp only [failF, getR, topR, bI_n.mp c_8, eq_false c_34, eq_false c_40, eq_true c_58, eq_false c_69, eq_false c_77, eq_true c_83, bI_n.mp c_97, bI_n.mp c_107, if_true, if_false, true_and, and_true, false_and, and_false, true_or, or_true, false_or, or_false, not_true_eq_false, not_false_eq_true, Bool.true_eq_false, Bool.false_eq_true, ite_true, ite_false, reduceIte, decide_true, decide_false, Bool.not_true, Bool.not_false]), rfl⟩
                · refine g_iconst (v := (5)) hF dX5_failureOf_100 rfl ?_
                  exact g_iret hF hR dX5_failureOf_101 ⟨(by simp only [failF, getR, topR, bI_n.mp c_8, eq_false c_34, eq_false c_40, eq_true c_58, eq_false c_69, eq_false c_77, eq_true c_83, bI_0.mp c_97, if_true, if_false, true_and, and_true, false_and, and_false, true_or, or_true, false_or, or_false, not_true_eq_false, not_false_eq_true, Bool.true_eq_false, Bool.false_eq_true, ite_true, ite_false, reduceIte, decide_true, decide_false, Bool.not_true, Bool.not_false]), rfl⟩
          · refine g_iconst (v := (4)) hF dX5_failureOf_72 rfl ?_
            exact g_iret hF hR dX5_failureOf_73 ⟨(by simp only [failF, getR, topR, bI_n.mp c_8, eq_false c_34, eq_false c_40, eq_true c_58, eq_true c_69, if_true, if_false, true_and, and_true, false_and, and_false, true_or, or_true, false_or, or_false, not_true_eq_false, not_false_eq_true, Bool.true_eq_false, Bool.false_eq_true, ite_true, ite_false, reduceIte, decide_true, decide_false, Bool.not_true, Bool.not_false]), rfl⟩
      · refine g_aload_n hF dX5_failureOf_43 rfl ?_
        refine g_get (j := 2) hF 0 rfl rfl (by decide) rfl m_78 rfl dX5_failureOf_44 ?_
        refine g_callVq hF (c_Row_size) cal_X4_size rfl m_479 (by decide) (Or.inl rfl) (Nat.zero_le _) (Nat.zero_le _) 2 rfl rfl [2] rfl rfl rfl (Nat.le_of_ble_eq_true rfl) dX5_failureOf_47 ?_
        refine g_if_ne (tgt := 55) hF dX5_failureOf_50 (by decide) (fun c_50 => ?_) (fun c_50 => ?_)
        · refine g_iload_n hF dX5_failureOf_55 rfl ?_
          refine g_bipush (v := (8)) hF dX5_failureOf_56 rfl ?_
          refine g_icmp_ne (tgt := 74) hF dX5_failureOf_58 (by decide) (fun c_58 => ?_) (fun c_58 => ?_)
          · refine g_iload_n hF dX5_failureOf_74 rfl ?_
            refine g_bipush (v := (14)) hF dX5_failureOf_75 rfl ?_
            refine g_icmp_eq (tgt := 86) hF dX5_failureOf_77 (by decide) (fun c_77 => ?_) (fun c_77 => ?_)
            · refine g_aload_n hF dX5_failureOf_86 rfl ?_
              refine g_get (j := 0) hF 0 rfl rfl (by decide) rfl m_73 rfl dX5_failureOf_87 ?_
              refine g_iconst (v := (0)) hF dX5_failureOf_90 rfl ?_
              refine g_callVq hF (c_Row_fromTop (by first | omega | exact clampI_le | (split <;> omega)) (by omega)) cal_X4_fromTop rfl m_483 (by decide) (Or.inl rfl) (Nat.zero_le _) (Nat.zero_le _) 1 rfl rfl [1] rfl rfl rfl (Nat.le_of_ble_eq_true rfl) dX5_failureOf_91 ?_
              refine g_callSNq hF (c_isCell) cal_X8_isCell rfl m_488 (by decide) (Or.inl rfl) (Nat.zero_le _) (Nat.zero_le _) [] rfl rfl rfl (Nat.le_of_ble_eq_true rfl) dX5_failureOf_94 ?_
              refine g_if_ne (tgt := 102) hF dX5_failureOf_97 (by decide) (fun c_97 => ?_) (fun c_97 => ?_)
              · refine g_aload_n hF dX5_failureOf_102 rfl ?_
                refine g_iload_n hF dX5_failureOf_103 rfl ?_
                refine g_callVq hF (c_St_isTooFullFor (by omega) (by omega) (by omega)) cal_X5_isTooFullFor rfl m_491 (by decide) (Or.inl rfl) (Nat.zero_le _) (Nat.zero_le _) 0 rfl rfl [0, 1, 2, 3] rfl rfl rfl (Nat.le_of_ble_eq_true rfl) dX5_failureOf_104 ?_
                refine g_if_eq (tgt := 114) hF dX5_failureOf_107 (by decide) (fun c_107 => ?_) (fun c_107 => ?_)
                · refine g_iconst (v := (0)) hF dX5_failureOf_114 rfl ?_
                  exact g_iret hF hR dX5_failureOf_115 ⟨(by simp only [failF, getR, topR, bI_n.mp c_8, eq_false c_34, eq_true c_40, eq_false c_50, eq_false c_58, eq_true c_77, bI_n.mp c_97, bI_0.mp c_107, if_true, if_false, true_and, and_true, false_and, and_false, true_or, or_true, false_or, or_false, not_true_eq_false, not_false_eq_true, Bool.true_eq_false, Bool.false_eq_true, ite_true, ite_false, reduceIte, decide_true, decide_false, Bool.not_true, Bool.not_false]), rfl⟩
                · refine g_iconst (v := (3)) hF dX5_failureOf_110 rfl ?_
                  refine g_goto (tgt := 115) hF dX5_failureOf_111 (by decide) ?_
                  exact g_iret hF hR dX5_failureOf_115 ⟨(by simp only [failF, getR, topR, bI_n.mp c_8, eq_false c_34, eq_true c_40, eq_false c_50, eq_false c_58, eq_true c_77, bI_n.mp c_97, bI_n.mp c_107, if_true, if_false, true_and, and_true, false_and, and_false, true_or, or_true, false_or, or_false, not_true_eq_false, not_false_eq_true, Bool.true_eq_false, Bool.false_eq_true, ite_true, ite_false, reduceIte, decide_true, decide_false, Bool.not_true, Bool.not_false]), rfl⟩
              · refine g_iconst (v := (5)) hF dX5_failureOf_100 rfl ?_
                exact g_iret hF hR dX5_failureOf_101 ⟨(by simp only [failF, getR, topR, bI_n.mp c_8, eq_false c_34, eq_true c_40, eq_false c_50, eq_false c_58, eq_true c_77, bI_0.mp c_97, if_true, if_false, true_and, and_true, false_and, and_false, true_or, or_true, false_or, or_false, not_true_eq_false, not_false_eq_true, Bool.true_eq_false, Bool.false_eq_true, ite_true, ite_false, reduceIte, decide_true, decide_false, Bool.not_true, Bool.not_false]), rfl⟩
            · refine g_iload_n hF dX5_failureOf_80 rfl ?_
              refine g_bipush (v := (15)) hF dX5_failureOf_81 rfl ?_
              refine g_icmp_ne (tgt := 102) hF dX5_failureOf_83 (by decide) (fun c_83 => ?_) (fun c_83 => ?_)
              · refine g_aload_n hF dX5_failureOf_102 rfl ?_
                refine g_iload_n hF dX5_failureOf_103 rfl ?_
                refine g_callVq hF (c_St_isTooFullFor (by omega) (by omega) (by omega)) cal_X5_isTooFullFor rfl m_491 (by decide) (Or.inl rfl) (Nat.zero_le _) (Nat.zero_le _) 0 rfl rfl [0, 1, 2, 3] rfl rfl rfl (Nat.le_of_ble_eq_true rfl) dX5_failureOf_104 ?_
                refine g_if_eq (tgt := 114) hF dX5_failureOf_107 (by decide) (fun c_107 => ?_) (fun c_107 => ?_)
                · refine g_iconst (v := (0)) hF dX5_failureOf_114 rfl ?_
                  exact g_iret hF hR dX5_failureOf_115 ⟨(by simp only [failF, getR, topR, bI_n.mp c_8, eq_false c_34, eq_true c_40, eq_false c_50, eq_false c_58, eq_false c_77, eq_false c_83, bI_0.mp c_107, if_true, if_false, true_and, and_true, false_and, and_false, true_or, or_true, false_or, or_false, not_true_eq_false, not_false_eq_true, Bool.true_eq_false, Bool.false_eq_true, ite_true, ite_false, reduceIte, decide_true, decide_false, Bool.not_true, Bool.not_false]), rfl⟩
                · refine g_iconst (v := (3)) hF dX5_failureOf_110 rfl ?_
                  refine g_goto (tgt := 115) hF dX5_failureOf_111 (by decide) ?_
                  exact g_iret hF hR dX5_failureOf_115 ⟨(by simp only [failF, getR, topR, bI_n.mp c_8, eq_false c_34, eq_true c_40, eq_false c_50, eq_false c_58, eq_false c_77, eq_false c_83, bI_n.mp c_107, if_true, if_false, true_and, and_true, false_and, and_false, true_or, or_true, false_or, or_false, not_true_eq_false, not_false_eq_true, Bool.true_eq_false, Bool.false_eq_true, ite_true, ite_false, reduceIte, decide_true, decide_false, Bool.not_true, Bool.not_false]), rfl⟩
              · refine g_aload_n hF dX5_failureOf_86 rfl ?_
                refine g_get (j := 0) hF 0 rfl rfl (by decide) rfl m_73 rfl dX5_failureOf_87 ?_
                refine g_iconst (v := (0)) hF dX5_failureOf_90 rfl ?_
                refine g_callVq hF (c_Row_fromTop (by first | omega | exact clampI_le | (split <;> omega)) (by omega)) cal_X4_fromTop rfl m_483 (by decide) (Or.inl rfl) (Nat.zero_le _) (Nat.zero_le _) 1 rfl rfl [1] rfl rfl rfl (Nat.le_of_ble_eq_true rfl) dX5_failureOf_91 ?_
                refine g_callSNq hF (c_isCell) cal_X8_isCell rfl m_488 (by decide) (Or.inl rfl) (Nat.zero_le _) (Nat.zero_le _) [] rfl rfl rfl (Nat.le_of_ble_eq_true rfl) dX5_failureOf_94 ?_
                refine g_if_ne (tgt := 102) hF dX5_failureOf_97 (by decide) (fun c_97 => ?_) (fun c_97 => ?_)
                · refine g_aload_n hF dX5_failureOf_102 rfl ?_
                  refine g_iload_n hF dX5_failureOf_103 rfl ?_
                  refine g_callVq hF (c_St_isTooFullFor (by omega) (by omega) (by omega)) cal_X5_isTooFullFor rfl m_491 (by decide) (Or.inl rfl) (Nat.zero_le _) (Nat.zero_le _) 0 rfl rfl [0, 1, 2, 3] rfl rfl rfl (Nat.le_of_ble_eq_true rfl) dX5_failureOf_104 ?_
                  refine g_if_eq (tgt := 114) hF dX5_failureOf_107 (by decide) (fun c_107 => ?_) (fun c_107 => ?_)
                  · refine g_iconst (v := (0)) hF dX5_failureOf_114 rfl ?_
                    exact g_iret hF hR dX5_failureOf_115 ⟨(by simp only [failF, getR, topR, bI_n.mp c_8, eq_false c_34, eq_true c_40, eq_false c_50, eq_false c_58, eq_false c_77, eq_true c_83, bI_n.mp c_97, bI_0.mp c_107, if_true, if_false, true_and, and_true, false_and, and_false, true_or, or_true, false_or, or_false, not_true_eq_false, not_false_eq_true, Bool.true_eq_false, Bool.false_eq_true, ite_true, ite_false, reduceIte, decide_true, decide_false, Bool.not_true, Bool.not_false]), rfl⟩
                  · refine g_iconst (v := (3)) hF dX5_failureOf_110 rfl ?_
                    refine g_goto (tgt := 115) hF dX5_failureOf_111 (by decide) ?_
                    exact g_iret hF hR dX5_failureOf_115 ⟨(by simp only [failF, getR, topR, bI_n.mp c_8, eq_false c_34, eq_true c_40, eq_false c_50, eq_false c_58, eq_false c_77, eq_true c_83, bI_n.mp c_97, bI_n.mp c_107, if_true, if_false, true_and, and_true, false_and, and_false, true_or, or_true, false_or, or_false, not_true_eq_false, not_false_eq_true, Bool.true_eq_false, Bool.false_eq_true, ite_true, ite_false, reduceIte, decide_true, decide_false, Bool.not_true, Bool.not_false]), rfl⟩
                · refine g_iconst (v := (5)) hF dX5_failureOf_100 rfl ?_
                  exact g_iret hF hR dX5_failureOf_101 ⟨(by simp only [failF, getR, topR, bI_n.mp c_8, eq_false c_34, eq_true c_40, eq_false c_50, eq_false c_58, eq_false c_77, eq_true c_83, bI_0.mp c_97, if_true, if_false, true_and, and_true, false_and, and_false, true_or, or_true, false_or, or_false, not_true_eq_false, not_false_eq_true, Bool.true_eq_false, Bool.false_eq_true, ite_true, ite_false, reduceIte, decide_true, decide_false, Bool.not_true, Bool.not_false]), rfl⟩
          · refine g_aload_n hF dX5_failureOf_61 rfl ?_
            refine g_get (j := 0) hF 0 rfl rfl (by decide) rfl m_73 rfl dX5_failureOf_62 ?_
            refine g_iconst (v := (0)) hF dX5_failureOf_65 rfl ?_
            refine g_callVq hF (c_Row_fromTop (by first | omega | exact clampI_le | (split <;> omega)) (by omega)) cal_X4_fromTop rfl m_483 (by decide) (Or.inl rfl) (Nat.zero_le _) (Nat.zero_le _) 1 rfl rfl [1] rfl rfl rfl (Nat.le_of_ble_eq_true rfl) dX5_failureOf_66 ?_
            refine g_if_ne (tgt := 74) hF dX5_failureOf_69 (by decide) (fun c_69 => ?_) (fun c_69 => ?_)
            · refine g_iload_n hF dX5_failureOf_74 rfl ?_
              refine g_bipush (v := (14)) hF dX5_failureOf_75 rfl ?_
              refine g_icmp_eq (tgt := 86) hF dX5_failureOf_77 (by decide) (fun c_77 => ?_) (fun c_77 => ?_)
              · refine g_aload_n hF dX5_failureOf_86 rfl ?_
                refine g_get (j := 0) hF 0 rfl rfl (by decide) rfl m_73 rfl dX5_failureOf_87 ?_
                refine g_iconst (v := (0)) hF dX5_failureOf_90 rfl ?_
                refine g_callVq hF (c_Row_fromTop (by first | omega | exact clampI_le | (split <;> omega)) (by omega)) cal_X4_fromTop rfl m_483 (by decide) (Or.inl rfl) (Nat.zero_le _) (Nat.zero_le _) 1 rfl rfl [1] rfl rfl rfl (Nat.le_of_ble_eq_true rfl) dX5_failureOf_91 ?_
                refine g_callSNq hF (c_isCell) cal_X8_isCell rfl m_488 (by decide) (Or.inl rfl) (Nat.zero_le _) (Nat.zero_le _) [] rfl rfl rfl (Nat.le_of_ble_eq_true rfl) dX5_failureOf_94 ?_
                refine g_if_ne (tgt := 102) hF dX5_failureOf_97 (by decide) (fun c_97 => ?_) (fun c_97 => ?_)
                · refine g_aload_n hF dX5_failureOf_102 rfl ?_
                  refine g_iload_n hF dX5_failureOf_103 rfl ?_
                  refine g_callVq hF (c_St_isTooFullFor (by omega) (by omega) (by omega)) cal_X5_isTooFullFor rfl m_491 (by decide) (Or.inl rfl) (Nat.zero_le _) (Nat.zero_le _) 0 rfl rfl [0, 1, 2, 3] rfl rfl rfl (Nat.le_of_ble_eq_true rfl) dX5_failureOf_104 ?_
                  refine g_if_eq (tgt := 114) hF dX5_failureOf_107 (by decide) (fun c_107 => ?_) (fun c_107 => ?_)
                  · refine g_iconst (v := (0)) hF dX5_failureOf_114 rfl ?_
                    exact g_iret hF hR dX5_failureOf_115 ⟨(by simp only [failF, getR, topR, bI_n.mp c_8, eq_false c_34, eq_true c_40, eq_false c_50, eq_true c_58, eq_false c_69, eq_true c_77, bI_n.mp c_97, bI_0.mp c_107, if_true, if_false, true_and, and_true, false_and, and_false, true_or, or_true, false_or, or_false, not_true_eq_false, not_false_eq_true, Bool.true_eq_false, Bool.false_eq_true, ite_true, ite_false, reduceIte, decide_true, decide_false, Bool.not_true, Bool.not_false]), rfl⟩
                  · refine g_iconst (v := (3)) hF dX5_failureOf_110 rfl ?_
                    refine g_goto (tgt := 115) hF dX5_failureOf_111 (by decide) ?_
                    exact g_iret hF hR dX5_failureOf_115 ⟨(by simp only [failF, getR, topR, bI_n.mp c_8, eq_false c_34, eq_true c_40, eq_false c_50, eq_true c_58, eq_false c_69, eq_true c_77, bI_n.mp c_97, bI_n.mp c_107, if_true, if_false, true_and, and_true, false_and, and_false, true_or, or_true, false_or, or_false, not_true_eq_false, not_false_eq_true, Bool.true_eq_false, Bool.false_eq_true, ite_true, ite_false, reduceIte, decide_true, decide_false, Bool.not_true, Bool.not_false]), rfl⟩
                · refine g_iconst (v := (5)) hF dX5_failureOf_100 rfl ?_
                  exact g_iret hF hR dX5_failureOf_101 ⟨(by simp only [failF, getR, topR, bI_n.mp c_8, eq_false c_34, eq_true c_40, eq_false c_50, eq_true c_58, eq_false c_69, eq_true c_77, bI_0.mp c_97, if_true, if_false, true_and, and_true, false_and, and_false, true_or, or_true, false_or, or_false, not_true_eq_false, not_false_eq_true, Bool.true_eq_false, Bool.false_eq_true, ite_true, ite_false, reduceIte, decide_true, decide_false, Bool.not_true, Bool.not_false]), rfl⟩
              · refine g_iload_n hF dX5_failureOf_80 rfl ?_
                refine g_bipush (v := (15)) hF dX5_failureOf_81 rfl ?_
                refine g_icmp_ne (tgt := 102) hF dX5_failureOf_83 (by decide) (fun c_83 => ?_) (fun c_83 => ?_)
                · refine g_aload_n hF dX5_failureOf_102 rfl ?_
                  refine g_iload_n hF dX5_failureOf_103 rfl ?_
                  refine g_callVq hF (c_St_isTooFullFor (by omega) (by omega) (by omega)) cal_X5_isTooFullFor rfl m_491 (by decide) (Or.inl rfl) (Nat.zero_le _) (Nat.zero_le _) 0 rfl rfl [0, 1, 2, 3] rfl rfl rfl (Nat.le_of_ble_eq_true rfl) dX5_failureOf_104 ?_
                  refine g_if_eq (tgt := 114) hF dX5_failureOf_107 (by decide) (fun c_107 => ?_) (fun c_107 => ?_)
                  · refine g_iconst (v := (0)) hF dX5_failureOf_114 rfl ?_
                    exact g_iret hF hR dX5_failureOf_115 ⟨(by simp only [failF, getR, topR, bI_n.mp c_8, eq_false c_34, eq_true c_40, eq_false c_50, eq_true c_58, eq_false c_69, eq_false c_77, eq_false c_83, bI_0.mp c_107, if_true, if_false, true_and, and_true, false_and, and_false, true_or, or_true, false_or, or_false, not_true_eq_false, not_false_eq_true, Bool.true_eq_false, Bool.false_eq_true, ite_true, ite_false, reduceIte, decide_true, decide_false, Bool.not_true, Bool.not_false]), rfl⟩
                  · refine g_iconst (v := (3)) hF dX5_failureOf_110 rfl ?_
                    refine g_goto (tgt := 115) hF dX5_failureOf_111 (by decide) ?_
                    exact g_iret hF hR dX5_failureOf_115 ⟨(by simp only [failF, getR, topR, bI_n.mp c_8, eq_false c_34, eq_true c_40, eq_false c_50, eq_true c_58, eq_false c_69, eq_false c_77, eq_false c_83, bI_n.mp c_107, if_true, if_false, true_and, and_true, false_and, and_false, true_or, or_true, false_or, or_false, not_true_eq_false, not_false_eq_true, Bool.true_eq_false, Bool.false_eq_true, ite_true, ite_false, reduceIte, decide_true, decide_false, Bool.not_true, Bool.not_false]), rfl⟩
                · refine g_aload_n hF dX5_failureOf_86 rfl ?_
                  refine g_get (j := 0) hF 0 rfl rfl (by decide) rfl m_73 rfl dX5_failureOf_87 ?_
                  refine g_iconst (v := (0)) hF dX5_failureOf_90 rfl ?_
                  refine g_callVq hF (c_Row_fromTop (by first | omega | exact clampI_le | (split <;> omega)) (by omega)) cal_X4_fromTop rfl m_483 (by decide) (Or.inl rfl) (Nat.zero_le _) (Nat.zero_le _) 1 rfl rfl [1] rfl rfl rfl (Nat.le_of_ble_eq_true rfl) dX5_failureOf_91 ?_
                  refine g_callSNq hF (c_isCell) cal_X8_isCell rfl m_488 (by decide) (Or.inl rfl) (Nat.zero_le _) (Nat.zero_le _) [] rfl rfl rfl (Nat.le_of_ble_eq_true rfl) dX5_failureOf_94 ?_
                  refine g_if_ne (tgt := 102) hF dX5_failureOf_97 (by decide) (fun c_97 => ?_) (fun c_97 => ?_)
                  · refine g_aload_n hF dX5_failureOf_102 rfl ?_
                    refine g_iload_n hF dX5_failureOf_103 rfl ?_
                    refine g_callVq hF (c_St_isTooFullFor (by omega) (by omega) (by omega)) cal_X5_isTooFullFor rfl m_491 (by decide) (Or.inl rfl) (Nat.zero_le _) (Nat.zero_le _) 0 rfl rfl [0, 1, 2, 3] rfl rfl rfl (Nat.le_of_ble_eq_true rfl) dX5_failureOf_104 ?_
                    refine g_if_eq (tgt := 114) hF dX5_failureOf_107 (by decide) (fun c_107 => ?_) (fun c_107 => ?_)
                    · refine g_iconst (v := (0)) hF dX5_failureOf_114 rfl ?_
                      exact g_iret hF hR dX5_failureOf_115 ⟨(by simp only [failF, getR, topR, bI_n.mp c_8, eq_false c_34, eq_true c_40, eq_false c_50, eq_true c_58, eq_false c_69, eq_false c_77, eq_true c_83, bI_n.mp c_97, bI_0.mp c_107, if_true, if_false, true_and, and_true, false_and, and_false, true_or, or_true, false_or, or_false, not_true_eq_false, not_false_eq_true, Bool.true_eq_false, Bool.false_eq_true, ite_true, ite_false, reduceIte, decide_true, decide_false, Bool.not_true, Bool.not_false]), rfl⟩
                    · refine g_iconst (v := (3)) hF dX5_failureOf_110 rfl ?_
                      refine g_goto (tgt := 115) hF dX5_failureOf_111 (by decide) ?_
                      exact g_iret hF hR dX5_failureOf_115 ⟨(by simp only [failF, getR, topR, bI_n.mp c_8, eq_false c_34, eq_true c_40, eq_false c_50, eq_true c_58, eq_false c_69, eq_false c_77, eq_true c_83, bI_n.mp c_97, bI_n.mp c_107, if_true, if_false, true_and, and_true, false_and, and_false, true_or, or_true, false_or, or_false, not_true_eq_false, not_false_eq_true, Bool.true_eq_false, Bool.false_eq_true, ite_true, ite_false, reduceIte, decide_true, decide_false, Bool.not_true, Bool.not_false]), rfl⟩
                  · refine g_iconst (v := (5)) hF dX5_failureOf_100 rfl ?_
                    exact g_iret hF hR dX5_failureOf_101 ⟨(by simp only [failF, getR, topR, bI_n.mp c_8, eq_false c_34, eq_true c_40, eq_false c_50, eq_true c_58, eq_false c_69, eq_false c_77, eq_true c_83, bI_0.mp c_97, if_true, if_false, true_and, and_true, false_and, and_false, true_or, or_true, false_or, or_false, not_true_eq_false, not_false_eq_true, Bool.true_eq_false, Bool.false_eq_true, ite_true, ite_false, reduceIte, decide_true, decide_false, Bool.not_true, Bool.not_false]), rfl⟩
            · refine g_iconst (v := (4)) hF dX5_failureOf_72 rfl ?_
              exact g_iret hF hR dX5_failureOf_73 ⟨(by simp only [failF, getR, topR, bI_n.mp c_8, eq_false c_34, eq_true c_40, eq_false c_50, eq_true c_58, eq_true c_69, if_true, if_false, true_and, and_true, false_and, and_false, true_or, or_true, false_or, or_false, not_true_eq_false, not_false_eq_true, Bool.true_eq_false, Bool.false_eq_true, ite_true, ite_false, reduceIte, decide_true, decide_false, Bool.not_true, Bool.not_false]), rfl⟩
        · refine g_iconst (v := (2)) hF dX5_failureOf_53 rfl ?_
          exact g_iret hF hR dX5_failureOf_54 ⟨(by simp only [failF, getR, topR, bI_n.mp c_8, eq_false c_34, eq_true c_40, eq_true c_50, if_true, if_false, true_and, and_true, false_and, and_false, true_or, or_true, false_or, or_false, not_true_eq_false, not_false_eq_true, Bool.true_eq_false, Bool.false_eq_true, ite_true, ite_false, reduceIte, decide_true, decide_false, Bool.not_true, Bool.not_false]), rfl⟩
  · refine g_bipush (v := (6)) hF dX5_failureOf_11 rfl ?_
    exact g_iret hF hR dX5_failureOf_13 ⟨(by simp only [failF, getR, topR, bI_0.mp c_8, if_true, if_false, true_and, and_true, false_and, and_false, true_or, or_true, false_or, or_false, not_true_eq_false, not_false_eq_true, Bool.true_eq_false, Bool.false_eq_true, ite_true, ite_false, reduceIte, decide_true, decide_false, Bool.not_true, Bool.not_false]), rfl⟩
set_option maxHeartbeats 4000000 in
set_option maxRecDepth 100000 in
theorem c_S_readies {E : Env3} {A : AV} {v : SV} {p rc rn rt ac : Nat} {fc : Nat → Int32} {nc : Nat} (hv : okS v) (hc : nc ≤ 80)  : Cd E none 3 yX5_readies cX5_readies 2 (some .boolean) [.ref A.1, .ref p] (stGs E.2.2 A v ++ [progO p rc rn rt, rowW E.2.2 rc ac 80 fc nc]) (some (.int (bI (decide ((readyF (fc, nc) v).2.2.2.2.2.1 = 0))))) (stGs E.2.2 A (readyF (fc, nc) v) ++ [progO p rc rn rt, rowW E.2.2 rc ac 80 fc nc]) := by
  refine Ct.of [some (.ref A.1), some (.ref p)] (by decide +kernel) rfl (Nat.le_of_ble_eq_true rfl) (fun F hE hF hR hN => ?_)
  subst hE
  obtain ⟨⟨f1, n1⟩, ⟨f2, n2⟩, ⟨f3, n3⟩, ⟨f4, n4⟩, at', status, rd, ck⟩ := v
  obtain ⟨h, ⟨r1, a1⟩, ⟨r2, a2⟩, ⟨r3, a3⟩, r4, a4⟩ := A
  obtain ⟨h1, h2, h3, h4⟩ := hv
  dsimp only at h1 h2 h3 h4
  refine g_regroup (gs' := [stO h r1 r2 r3 r4 at' status rd ck, rowW F.1.2.2 r1 a1 24 f1 n1, rowW F.1.2.2 r2 a2 12 f2 n2, rowW F.1.2.2 r3 a3 8 f3 n3, rowW F.1.2.2 r4 a4 30 f4 n4, progO p rc rn rt, rowW F.1.2.2 rc ac 80 fc nc]) rfl ?_
  refine g_aload_n hF dX5_readies_0 rfl ?_
  refine g_get (j := 5) hF 0 rfl rfl (by decide) rfl m_85 rfl dX5_readies_1 ?_
  refine g_if_ne (tgt := 16) hF dX5_readies_4 (by decide) (fun c_4 => ?_) (fun c_4 => ?_)
  · refine g_aload_n hF dX5_readies_16 rfl ?_
    refine g_get (j := 5) hF 0 rfl rfl (by decide) rfl m_85 rfl dX5_readies_17 ?_
    refine g_if_ne (tgt := 27) hF dX5_readies_20 (by decide) (fun c_20 => ?_) (fun c_20 => absurd c_20 c_4)
    refine g_iconst (v := (0)) hF dX5_readies_27 rfl ?_
    refine g_regroup (gs' := stGs F.1.2.2 (h, (r1, a1), (r2, a2), (r3, a3), r4, a4) (readyF (fc, nc) ((f1, n1), (f2, n2), (f3, n3), (f4, n4), at', status, rd, ck)) ++ [progO p rc rn rt, rowW F.1.2.2 rc ac 80 fc nc]) (by simp only [readyF, eq_false c_4, eq_false c_20, if_true, if_false, true_and, and_true, false_and, and_false, true_or, or_true, false_or, or_false, not_true_eq_false, not_false_eq_true, Bool.true_eq_false, Bool.false_eq_true, ite_true, ite_false, reduceIte, decide_true, decide_false, Bool.not_true, Bool.not_false]; rfl) ?_
    exact g_zret hF hR dX5_readies_28 rfl ⟨(by simp only [readyF, eq_false c_4, eq_false c_20, if_true, if_false, true_and, and_true, false_and, and_false, true_or, or_true, false_or, or_false, not_true_eq_false, not_false_eq_true, Bool.true_eq_false, Bool.false_eq_true, ite_true, ite_false, reduceIte, decide_true, decide_false, Bool.not_true, Bool.not_false, bI]), rfl⟩
  · refine g_aload_n hF dX5_readies_7 rfl ?_
    refine g_aload_n hF dX5_readies_8 rfl ?_
    refine g_aload_n hF dX5_readies_9 rfl ?_
    refine g_callVq hF (c_St_failureOf (f2 := f2) (n2 := n2) (by omega) (by omega) (by omega) (by omega)) cal_X5_failureOf rfl m_459 (by decide) (Or.inl rfl) (Nat.zero_le _) (Nat.zero_le _) 0 rfl rfl [0, 1, 3, 4, 5, 6] rfl rfl rfl (Nat.le_of_ble_eq_true rfl) dX5_readies_10 ?_
    refine g_put (j := 5) hF 0 rfl rfl (by decide) rfl m_85 rfl (tyX5_ok 5 (by decide)) rfl rfl (Nat.le_of_ble_eq_true rfl) dX5_readies_13 ?_
    try dsimp only [gput, gputA, List.set, stGs, List.cons_append, List.nil_append]
    refine g_aload_n hF dX5_readies_16 rfl ?_
    refine g_get (j := 5) hF 0 rfl rfl (by decide) rfl m_85 rfl dX5_readies_17 ?_
    refine g_if_ne (tgt := 27) hF dX5_readies_20 (by decide) (fun c_20 => ?_) (fun c_20 => ?_)
    · refine g_iconst (v := (0)) hF dX5_readies_27 rfl ?_
      refine g_regroup (gs' := stGs F.1.2.2 (h, (r1, a1), (r2, a2), (r3, a3), r4, a4) (readyF (fc, nc) ((f1, n1), (f2, n2), (f3, n3), (f4, n4), at', status, rd, ck)) ++ [progO p rc rn rt, rowW F.1.2.2 rc ac 80 fc nc]) (by simp only [readyF, eq_true c_4, eq_false c_20, if_true, if_false, true_and, and_true, false_and, and_false, true_or, or_true, false_or, or_false, not_true_eq_false, not_false_eq_true, Bool.true_eq_false, Bool.false_eq_true, ite_true, ite_false, reduceIte, decide_true, decide_false, Bool.not_true, Bool.not_false]; rfl) ?_
      exact g_zret hF hR dX5_readies_28 rfl ⟨(by simp only [readyF, eq_true c_4, eq_false c_20, if_true, if_false, true_and, and_true, false_and, and_false, true_or, or_true, false_or, or_false, not_true_eq_false, not_false_eq_true, Bool.true_eq_false, Bool.false_eq_true, ite_true, ite_false, reduceIte, decide_true, decide_false, Bool.not_true, Bool.not_false, bI]), rfl⟩
    · refine g_iconst (v := (1)) hF dX5_readies_23 rfl ?_
      refine g_goto (tgt := 28) hF dX5_readies_24 (by decide) ?_
      refine g_regroup (gs' := stGs F.1.2.2 (h, (r1, a1), (r2, a2), (r3, a3), r4, a4) (readyF (fc, nc) ((f1, n1), (f2, n2), (f3, n3), (f4, n4), at', status, rd, ck)) ++ [progO p rc rn rt, rowW F.1.2.2 rc ac 80 fc nc]) (by simp only [readyF, eq_true c_4, eq_true c_20, if_true, if_false, true_and, and_true, false_and, and_false, true_or, or_true, false_or, or_false, not_true_eq_false, not_false_eq_true, Bool.true_eq_false, Bool.false_eq_true, ite_true, ite_false, reduceIte, decide_true, decide_false, Bool.not_true, Bool.not_false]; rfl) ?_
      exact g_zret hF hR dX5_readies_28 rfl ⟨(by simp only [readyF, eq_true c_4, eq_true c_20, if_true, if_false, true_and, and_true, false_and, and_false, true_or, or_true, false_or, or_false, not_true_eq_false, not_false_eq_true, Bool.true_eq_false, Bool.false_eq_true, ite_true, ite_false, reduceIte, decide_true, decide_false, Bool.not_true, Bool.not_false, bI]), rfl⟩
set_option maxHeartbeats 4000000 in
set_option maxRecDepth 100000 in
theorem c_Mom_describeStore {E : Env3} {q : Nat} {μ : Nat → Int32} {c b a : Int32} : Cd E none 0 yX0_describeStore cX0_describeStore 4 none [.ref q, .int c, .int b, .int a] [momO q μ] none [momO q (storeM μ c b a)] := by
  refine Ct.of [some (.ref q), some (.int c), some (.int b), some (.int a)] (by decide +kernel) rfl (Nat.le_of_ble_eq_true rfl) (fun F hE hF hR hN => ?_)
  subst hE
  refine g_aload_n hF dX0_describeStore_0 rfl ?_
  refine g_iload_n hF dX0_describeStore_1 rfl ?_
  refine g_put (j := 8) hF 0 rfl rfl (by decide) rfl m_135 rfl (tyX0_ok 8 (by decide)) rfl rfl (Nat.le_of_ble_eq_true rfl) dX0_describeStore_2 ?_
  try dsimp only [gput, gputA, List.set, stGs, List.cons_append, List.nil_append]
  refine g_aload_n hF dX0_describeStore_5 rfl ?_
  refine g_iload_n hF dX0_describeStore_6 rfl ?_
  refine g_put (j := 9) hF 0 rfl rfl (by decide) rfl m_139 rfl (tyX0_ok 9 (by decide)) rfl rfl (Nat.le_of_ble_eq_true rfl) dX0_describeStore_7 ?_
  try dsimp only [gput, gputA, List.set, stGs, List.cons_append, List.nil_append]
  refine g_aload_n hF dX0_describeStore_10 rfl ?_
  refine g_iload_n hF dX0_describeStore_11 rfl ?_
  refine g_put (j := 10) hF 0 rfl rfl (by decide) rfl m_142 rfl (tyX0_ok 10 (by decide)) rfl rfl (Nat.le_of_ble_eq_true rfl) dX0_describeStore_12 ?_
  try dsimp only [gput, gputA, List.set, stGs, List.cons_append, List.nil_append]
  exact g_vret hF hR dX0_describeStore_15 ⟨rfl, rfl⟩
set_option maxHeartbeats 4000000 in
set_option maxRecDepth 100000 in
theorem c_Mom_tellOf {E : Env3} {q : Nat} {μ : Nat → Int32} {k : Int32} : Cd E none 0 yX0_tellOf cX0_tellOf 2 (some .int) [.ref q, .int k] [momO q μ] (some (.int (if k = 0 then μ 0 else if k = 1 then μ 1 else if k = 2 then μ 2 else μ 4))) [momO q μ] := by
  refine Ct.of [some (.ref q), some (.int k)] (by decide +kernel) rfl (Nat.le_of_ble_eq_true rfl) (fun F hE hF hR hN => ?_)
  subst hE
  refine g_iload_n hF dX0_tellOf_0 rfl ?_
  by_cases t1_0 : k = 0
  · refine g_tableIn (off := 27) (tgt := 28) hF dX0_tellOf_1 (by rw [t1_0]; decide) (by rw [t1_0]; decide) (by rw [t1_0]; rfl) (by decide) ?_
    refine g_aload_n hF dX0_tellOf_28 rfl ?_
    refine g_get (j := 0) hF 0 rfl rfl (by decide) rfl m_122 rfl dX0_tellOf_29 ?_
    exact g_iret hF hR dX0_tellOf_32 ⟨(by rw [t1_0]; rfl), rfl⟩
  by_cases t1_1 : k = 1
  · refine g_tableIn (off := 32) (tgt := 33) hF dX0_tellOf_1 (by rw [t1_1]; decide) (by rw [t1_1]; decide) (by rw [t1_1]; rfl) (by decide) ?_
    refine g_aload_n hF dX0_tellOf_33 rfl ?_
    refine g_get (j := 1) hF 0 rfl rfl (by decide) rfl m_125 rfl dX0_tellOf_34 ?_
    exact g_iret hF hR dX0_tellOf_37 ⟨(by rw [t1_1]; rfl), rfl⟩
  by_cases t1_2 : k = 2
  · refine g_tableIn (off := 37) (tgt := 38) hF dX0_tellOf_1 (by rw [t1_2]; decide) (by rw [t1_2]; decide) (by rw [t1_2]; rfl) (by decide) ?_
    refine g_aload_n hF dX0_tellOf_38 rfl ?_
    refine g_get (j := 2) hF 0 rfl rfl (by decide) rfl m_127 rfl dX0_tellOf_39 ?_
    exact g_iret hF hR dX0_tellOf_42 ⟨(by rw [t1_2]; rfl), rfl⟩
  refine g_tableOut (tgt := 43) hF dX0_tellOf_1 (by have z0 := lv_neT t1_0 (a := 0) rfl; have z1 := lv_neT t1_1 (a := 1) rfl; have z2 := lv_neT t1_2 (a := 2) rfl; omega) (by decide) ?_
  refine g_aload_n hF dX0_tellOf_43 rfl ?_
  refine g_get (j := 4) hF 0 rfl rfl (by decide) rfl m_130 rfl dX0_tellOf_44 ?_
  exact g_iret hF hR dX0_tellOf_47 ⟨(by simp only [eq_false t1_0, eq_false t1_1, eq_false t1_2, reduceIte]), rfl⟩
set_option maxHeartbeats 4000000 in
set_option maxRecDepth 100000 in
theorem c_S_describe {E : Env3} {A : AV} {v : SV} {q : Nat} {μ : Nat → Int32} {p rc rn rt ac an : Nat} {fc fn : Nat → Int32} {nc nn : Nat} (hv : okS v) (hc : nc ≤ 80) (hnn : nn ≤ 80)  : Cd E none 2 yX5_describe cX5_describe 4 none [.ref A.1, .ref q, .ref p] (stGs E.2.2 A v ++ [momO q μ, progO p rc rn rt, rowW E.2.2 rc ac 80 fc nc, rowW E.2.2 rn an 80 fn nn]) none (stGs E.2.2 A (v) ++ [momO q (descM (rowGet fc nc v.2.2.2.2.1) (rowGet fn nn v.2.2.2.2.1) μ v), progO p rc rn rt, rowW E.2.2 rc ac 80 fc nc, rowW E.2.2 rn an 80 fn nn]) := by
  refine Ct.of [some (.ref A.1), some (.ref q), some (.ref p), none] (by decide +kernel) rfl (Nat.le_of_ble_eq_true rfl) (fun F hE hF hR hN => ?_)
  subst hE
  obtain ⟨⟨f1, n1⟩, ⟨f2, n2⟩, ⟨f3, n3⟩, ⟨f4, n4⟩, at', status, rd, ck⟩ := v
  obtain ⟨h, ⟨r1, a1⟩, ⟨r2, a2⟩, ⟨r3, a3⟩, r4, a4⟩ := A
  obtain ⟨h1, h2, h3, h4⟩ := hv
  dsimp only at h1 h2 h3 h4
  refine g_regroup (gs' := [stO h r1 r2 r3 r4 at' status rd ck, rowW F.1.2.2 r1 a1 24 f1 n1, rowW F.1.2.2 r2 a2 12 f2 n2, rowW F.1.2.2 r3 a3 8 f3 n3, rowW F.1.2.2 r4 a4 30 f4 n4, momO q μ, progO p rc rn rt, rowW F.1.2.2 rc ac 80 fc nc, rowW F.1.2.2 rn an 80 fn nn]) rfl ?_
  refine g_aload_n hF dX5_describe_0 rfl ?_
  refine g_aload_n hF dX5_describe_1 rfl ?_
  refine g_get (j := 4) hF 0 rfl rfl (by decide) rfl m_82 rfl dX5_describe_2 ?_
  refine g_callVq hF (c_Prog_codeAt (by omega)) cal_X3_codeAt rfl m_471 (by decide) (Or.inl rfl) (Nat.zero_le _) (Nat.zero_le _) 6 rfl rfl [6, 7] rfl rfl rfl (Nat.le_of_ble_eq_true rfl) dX5_describe_5 ?_
  refine g_istore_n hF dX5_describe_8 (Nat.le_of_ble_eq_true rfl) rfl ?_
  refine g_aload_n hF dX5_describe_9 rfl ?_
  refine g_aload_n hF dX5_describe_10 rfl ?_
  refine g_get (j := 4) hF 0 rfl rfl (by decide) rfl m_82 rfl dX5_describe_11 ?_
  refine g_putN (j := 0) hF 5 rfl rfl (by decide) rfl m_124 rfl (tyX0_ok 0 (by decide)) rfl rfl (Nat.le_of_ble_eq_true rfl) dX5_describe_14 ?_
  try dsimp only [gput, gputA, List.set, stGs, List.cons_append, List.nil_append]
  refine g_aload_n hF dX5_describe_17 rfl ?_
  refine g_aload_n hF dX5_describe_18 rfl ?_
  refine g_get (j := 0) hF 0 rfl rfl (by decide) rfl m_73 rfl dX5_describe_19 ?_
  refine g_callVq hF (c_Row_size) cal_X4_size rfl m_479 (by decide) (Or.inl rfl) (Nat.zero_le _) (Nat.zero_le _) 1 rfl rfl [1] rfl rfl rfl (Nat.le_of_ble_eq_true rfl) dX5_describe_22 ?_
  refine g_putN (j := 1) hF 5 rfl rfl (by decide) rfl m_126 rfl (tyX0_ok 1 (by decide)) rfl rfl (Nat.le_of_ble_eq_true rfl) dX5_describe_25 ?_
  try dsimp only [gput, gputA, List.set, stGs, List.cons_append, List.nil_append]
  refine g_aload_n hF dX5_describe_28 rfl ?_
  refine g_aload_n hF dX5_describe_29 rfl ?_
  refine g_get (j := 0) hF 0 rfl rfl (by decide) rfl m_73 rfl dX5_describe_30 ?_
  refine g_iconst (v := (0)) hF dX5_describe_33 rfl ?_
  refine g_callVq hF (c_Row_fromTop (by first | omega | exact clampI_le | (split <;> omega)) (by omega)) cal_X4_fromTop rfl m_483 (by decide) (Or.inl rfl) (Nat.zero_le _) (Nat.zero_le _) 1 rfl rfl [1] rfl rfl rfl (Nat.le_of_ble_eq_true rfl) dX5_describe_34 ?_
  refine g_putN (j := 2) hF 5 rfl rfl (by decide) rfl m_128 rfl (tyX0_ok 2 (by decide)) rfl rfl (Nat.le_of_ble_eq_true rfl) dX5_describe_37 ?_
  try dsimp only [gput, gputA, List.set, stGs, List.cons_append, List.nil_append]
  refine g_aload_n hF dX5_describe_40 rfl ?_
  refine g_aload_n hF dX5_describe_41 rfl ?_
  refine g_get (j := 0) hF 0 rfl rfl (by decide) rfl m_73 rfl dX5_describe_42 ?_
  refine g_iconst (v := (1)) hF dX5_describe_45 rfl ?_
  refine g_callVq hF (c_Row_fromTop (by first | omega | exact clampI_le | (split <;> omega)) (by omega)) cal_X4_fromTop rfl m_483 (by decide) (Or.inl rfl) (Nat.zero_le _) (Nat.zero_le _) 1 rfl rfl [1] rfl rfl rfl (Nat.le_of_ble_eq_true rfl) dX5_describe_46 ?_
  refine g_putN (j := 3) hF 5 rfl rfl (by decide) rfl m_129 rfl (tyX0_ok 3 (by decide)) rfl rfl (Nat.le_of_ble_eq_true rfl) dX5_describe_49 ?_
  try dsimp only [gput, gputA, List.set, stGs, List.cons_append, List.nil_append]
  refine g_aload_n hF dX5_describe_52 rfl ?_
  refine g_aload_n hF dX5_describe_53 rfl ?_
  refine g_get (j := 2) hF 0 rfl rfl (by decide) rfl m_78 rfl dX5_describe_54 ?_
  refine g_callVq hF (c_Row_size) cal_X4_size rfl m_479 (by decide) (Or.inl rfl) (Nat.zero_le _) (Nat.zero_le _) 3 rfl rfl [3] rfl rfl rfl (Nat.le_of_ble_eq_true rfl) dX5_describe_57 ?_
  refine g_putN (j := 4) hF 5 rfl rfl (by decide) rfl m_131 rfl (tyX0_ok 4 (by decide)) rfl rfl (Nat.le_of_ble_eq_true rfl) dX5_describe_60 ?_
  try dsimp only [gput, gputA, List.set, stGs, List.cons_append, List.nil_append]
  refine g_aload_n hF dX5_describe_63 rfl ?_
  refine g_aload_n hF dX5_describe_64 rfl ?_
  refine g_get (j := 2) hF 0 rfl rfl (by decide) rfl m_78 rfl dX5_describe_65 ?_
  refine g_iconst (v := (0)) hF dX5_describe_68 rfl ?_
  refine g_callVq hF (c_Row_fromTop (by first | omega | exact clampI_le | (split <;> omega)) (by omega)) cal_X4_fromTop rfl m_483 (by decide) (Or.inl rfl) (Nat.zero_le _) (Nat.zero_le _) 3 rfl rfl [3] rfl rfl rfl (Nat.le_of_ble_eq_true rfl) dX5_describe_69 ?_
  refine g_putN (j := 5) hF 5 rfl rfl (by decide) rfl m_132 rfl (tyX0_ok 5 (by decide)) rfl rfl (Nat.le_of_ble_eq_true rfl) dX5_describe_72 ?_
  try dsimp only [gput, gputA, List.set, stGs, List.cons_append, List.nil_append]
  refine g_aload_n hF dX5_describe_75 rfl ?_
  refine g_aload_n hF dX5_describe_76 rfl ?_
  refine g_get (j := 6) hF 0 rfl rfl (by decide) rfl m_88 rfl dX5_describe_77 ?_
  refine g_putN (j := 6) hF 5 rfl rfl (by decide) rfl m_133 rfl (tyX0_ok 6 (by decide)) rfl rfl (Nat.le_of_ble_eq_true rfl) dX5_describe_80 ?_
  try dsimp only [gput, gputA, List.set, stGs, List.cons_append, List.nil_append]
  refine g_aload_n hF dX5_describe_83 rfl ?_
  refine g_aload_n hF dX5_describe_84 rfl ?_
  refine g_get (j := 3) hF 0 rfl rfl (by decide) rfl m_80 rfl dX5_describe_85 ?_
  refine g_callVq hF (c_Row_size) cal_X4_size rfl m_479 (by decide) (Or.inl rfl) (Nat.zero_le _) (Nat.zero_le _) 4 rfl rfl [4] rfl rfl rfl (Nat.le_of_ble_eq_true rfl) dX5_describe_88 ?_
  refine g_putN (j := 7) hF 5 rfl rfl (by decide) rfl m_134 rfl (tyX0_ok 7 (by decide)) rfl rfl (Nat.le_of_ble_eq_true rfl) dX5_describe_91 ?_
  try dsimp only [gput, gputA, List.set, stGs, List.cons_append, List.nil_append]
  refine g_aload_n hF dX5_describe_94 rfl ?_
  refine g_iconst (v := (-1)) hF dX5_describe_95 rfl ?_
  refine g_putN (j := 8) hF 5 rfl rfl (by decide) rfl m_138 rfl (tyX0_ok 8 (by decide)) rfl rfl (Nat.le_of_ble_eq_true rfl) dX5_describe_96 ?_
  try dsimp only [gput, gputA, List.set, stGs, List.cons_append, List.nil_append]
  refine g_regroup (gs' := [stO h r1 r2 r3 r4 at' status rd ck, rowW F.1.2.2 r1 a1 24 f1 n1, rowW F.1.2.2 r2 a2 12 f2 n2, rowW F.1.2.2 r3 a3 8 f3 n3, rowW F.1.2.2 r4 a4 30 f4 n4, momO q (baseM μ ((f1, n1), (f2, n2), (f3, n3), (f4, n4), at', status, rd, ck)), progO p rc rn rt, rowW F.1.2.2 rc ac 80 fc nc, rowW F.1.2.2 rn an 80 fn nn]) rfl ?_
  refine g_iload_n hF dX5_describe_99 rfl ?_
  refine g_bipush (v := (13)) hF dX5_describe_100 rfl ?_
  refine g_icmp_ne (tgt := 136) hF dX5_describe_102 (by decide) (fun c_102 => ?_) (fun c_102 => ?_)
  · refine g_iload_n hF dX5_describe_136 rfl ?_
    refine g_bipush (v := (15)) hF dX5_describe_137 rfl ?_
    refine g_icmp_ne (tgt := 165) hF dX5_describe_139 (by decide) (fun c_139 => ?_) (fun c_139 => ?_)
    · refine g_regroup (gs' := stGs F.1.2.2 (h, (r1, a1), (r2, a2), (r3, a3), r4, a4) (((f1, n1), (f2, n2), (f3, n3), (f4, n4), at', status, rd, ck)) ++ [momO q (descM (rowGet fc nc ((f1, n1), (f2, n2), (f3, n3), (f4, n4), at', status, rd, ck).2.2.2.2.1) (rowGet fn nn ((f1, n1), (f2, n2), (f3, n3), (f4, n4), at', status, rd, ck).2.2.2.2.1) μ ((f1, n1), (f2, n2), (f3, n3), (f4, n4), at', status, rd, ck)), progO p rc rn rt, rowW F.1.2.2 rc ac 80 fc nc, rowW F.1.2.2 rn an 80 fn nn]) (by simp only [descM, eq_false c_102, eq_false c_139, if_true, if_false, true_and, and_true, false_and, and_false, true_or, or_true, false_or, or_false, not_true_eq_false, not_false_eq_true, Bool.true_eq_false, Bool.false_eq_true, ite_true, ite_false, reduceIte, decide_true, decide_false, Bool.not_true, Bool.not_false]; rfl) ?_
      exact g_vret hF hR dX5_describe_165 ⟨rfl, rfl⟩
    · refine g_aload_n hF dX5_describe_142 rfl ?_
      refine g_aload_n hF dX5_describe_143 rfl ?_
      refine g_getN (j := 2) hF 5 rfl rfl (by decide) rfl m_128 rfl dX5_describe_144 ?_
      refine g_aload_n hF dX5_describe_147 rfl ?_
      refine g_get (j := 1) hF 0 rfl rfl (by decide) rfl m_75 rfl dX5_describe_148 ?_
      refine g_aload_n hF dX5_describe_151 rfl ?_
      refine g_getN (j := 2) hF 5 rfl rfl (by decide) rfl m_128 rfl dX5_describe_152 ?_
      refine g_callVq hF (c_Row_get (by first | omega | exact clampI_le | (split <;> omega)) (by omega)) cal_X4_get rfl m_512 (by decide) (Or.inl rfl) (Nat.zero_le _) (Nat.zero_le _) 2 rfl rfl [2] rfl rfl rfl (Nat.le_of_ble_eq_true rfl) dX5_describe_155 ?_
      refine g_aload_n hF dX5_describe_158 rfl ?_
      refine g_getN (j := 3) hF 5 rfl rfl (by decide) rfl m_129 rfl dX5_describe_159 ?_
      refine g_callVd hF (c_Mom_describeStore) cal_X0_describeStore rfl m_513 (by decide) (Or.inl rfl) (Nat.zero_le _) (Nat.zero_le _) 5 rfl rfl [5] rfl rfl (Nat.le_of_ble_eq_true rfl) rfl (Nat.le_of_ble_eq_true rfl) dX5_describe_162 ?_
      try dsimp only [gput, gputA, List.set, stGs, List.cons_append, List.nil_append]
      refine g_regroup (gs' := stGs F.1.2.2 (h, (r1, a1), (r2, a2), (r3, a3), r4, a4) (((f1, n1), (f2, n2), (f3, n3), (f4, n4), at', status, rd, ck)) ++ [momO q (descM (rowGet fc nc ((f1, n1), (f2, n2), (f3, n3), (f4, n4), at', status, rd, ck).2.2.2.2.1) (rowGet fn nn ((f1, n1), (f2, n2), (f3, n3), (f4, n4), at', status, rd, ck).2.2.2.2.1) μ ((f1, n1), (f2, n2), (f3, n3), (f4, n4), at', status, rd, ck)), progO p rc rn rt, rowW F.1.2.2 rc ac 80 fc nc, rowW F.1.2.2 rn an 80 fn nn]) (by simp only [descM, eq_false c_102, eq_true c_139, if_true, if_false, true_and, and_true, false_and, and_false, true_or, or_true, false_or, or_false, not_true_eq_false, not_false_eq_true, Bool.true_eq_false, Bool.false_eq_true, ite_true, ite_false, reduceIte, decide_true, decide_false, Bool.not_true, Bool.not_false]; rfl) ?_
      exact g_vret hF hR dX5_describe_165 ⟨rfl, rfl⟩
  · refine g_aload_n hF dX5_describe_105 rfl ?_
    refine g_aload_n hF dX5_describe_106 rfl ?_
    refine g_aload_n hF dX5_describe_107 rfl ?_
    refine g_get (j := 4) hF 0 rfl rfl (by decide) rfl m_82 rfl dX5_describe_108 ?_
    refine g_callVq hF (c_Prog_numberAt (by omega)) cal_X3_numberAt rfl m_508 (by decide) (Or.inl rfl) (Nat.zero_le _) (Nat.zero_le _) 6 rfl rfl [6, 8] rfl rfl rfl (Nat.le_of_ble_eq_true rfl) dX5_describe_111 ?_
    refine g_aload_n hF dX5_describe_114 rfl ?_
    refine g_get (j := 1) hF 0 rfl rfl (by decide) rfl m_75 rfl dX5_describe_115 ?_
    refine g_aload_n hF dX5_describe_118 rfl ?_
    refine g_aload_n hF dX5_describe_119 rfl ?_
    refine g_get (j := 4) hF 0 rfl rfl (by decide) rfl m_82 rfl dX5_describe_120 ?_
    refine g_callVq hF (c_Prog_numberAt (by omega)) cal_X3_numberAt rfl m_508 (by decide) (Or.inl rfl) (Nat.zero_le _) (Nat.zero_le _) 6 rfl rfl [6, 8] rfl rfl rfl (Nat.le_of_ble_eq_true rfl) dX5_describe_123 ?_
    refine g_callVq hF (c_Row_get (by first | omega | exact clampI_le | (split <;> omega)) (by omega)) cal_X4_get rfl m_512 (by decide) (Or.inl rfl) (Nat.zero_le _) (Nat.zero_le _) 2 rfl rfl [2] rfl rfl rfl (Nat.le_of_ble_eq_true rfl) dX5_describe_126 ?_
    refine g_aload_n hF dX5_describe_129 rfl ?_
    refine g_getN (j := 2) hF 5 rfl rfl (by decide) rfl m_128 rfl dX5_describe_130 ?_
    refine g_callVd hF (c_Mom_describeStore) cal_X0_describeStore rfl m_513 (by decide) (Or.inl rfl) (Nat.zero_le _) (Nat.zero_le _) 5 rfl rfl [5] rfl rfl (Nat.le_of_ble_eq_true rfl) rfl (Nat.le_of_ble_eq_true rfl) dX5_describe_133 ?_
    try dsimp only [gput, gputA, List.set, stGs, List.cons_append, List.nil_append]
    refine g_iload_n hF dX5_describe_136 rfl ?_
    refine g_bipush (v := (15)) hF dX5_describe_137 rfl ?_
    refine g_icmp_ne (tgt := 165) hF dX5_describe_139 (by decide) (fun c_139 => ?_) (fun c_139 => absurd (c_102.symm.trans c_139) (by decide))
    refine g_regroup (gs' := stGs F.1.2.2 (h, (r1, a1), (r2, a2), (r3, a3), r4, a4) (((f1, n1), (f2, n2), (f3, n3), (f4, n4), at', status, rd, ck)) ++ [momO q (descM (rowGet fc nc ((f1, n1), (f2, n2), (f3, n3), (f4, n4), at', status, rd, ck).2.2.2.2.1) (rowGet fn nn ((f1, n1), (f2, n2), (f3, n3), (f4, n4), at', status, rd, ck).2.2.2.2.1) μ ((f1, n1), (f2, n2), (f3, n3), (f4, n4), at', status, rd, ck)), progO p rc rn rt, rowW F.1.2.2 rc ac 80 fc nc, rowW F.1.2.2 rn an 80 fn nn]) (by simp only [descM, eq_true c_102, eq_false c_139, if_true, if_false, true_and, and_true, false_and, and_false, true_or, or_true, false_or, or_false, not_true_eq_false, not_false_eq_true, Bool.true_eq_false, Bool.false_eq_true, ite_true, ite_false, reduceIte, decide_true, decide_false, Bool.not_true, Bool.not_false]; rfl) ?_
    exact g_vret hF hR dX5_describe_165 ⟨rfl, rfl⟩
set_option maxHeartbeats 4000000 in
set_option maxRecDepth 100000 in
theorem c_S_goBackTo {E : Env3} {A : AV} {v : SV} {q : Nat} {μ : Nat → Int32} (hv : okS v)  : Cd E none 2 yX5_goBackTo cX5_goBackTo 2 none [.ref A.1, .ref q] (stGs E.2.2 A v ++ [momO q μ]) none (stGs E.2.2 A (backF μ v) ++ [momO q μ]) := by
  refine Ct.of [some (.ref A.1), some (.ref q)] (by decide +kernel) rfl (Nat.le_of_ble_eq_true rfl) (fun F hE hF hR hN => ?_)
  subst hE
  obtain ⟨⟨f1, n1⟩, ⟨f2, n2⟩, ⟨f3, n3⟩, ⟨f4, n4⟩, at', status, rd, ck⟩ := v
  obtain ⟨h, ⟨r1, a1⟩, ⟨r2, a2⟩, ⟨r3, a3⟩, r4, a4⟩ := A
  obtain ⟨h1, h2, h3, h4⟩ := hv
  dsimp only at h1 h2 h3 h4
  refine g_regroup (gs' := [stO h r1 r2 r3 r4 at' status rd ck, rowW F.1.2.2 r1 a1 24 f1 n1, rowW F.1.2.2 r2 a2 12 f2 n2, rowW F.1.2.2 r3 a3 8 f3 n3, rowW F.1.2.2 r4 a4 30 f4 n4, momO q μ]) rfl ?_
  refine g_aload_n hF dX5_goBackTo_0 rfl ?_
  refine g_aload_n hF dX5_goBackTo_1 rfl ?_
  refine g_getN (j := 0) hF 5 rfl rfl (by decide) rfl m_124 rfl dX5_goBackTo_2 ?_
  refine g_put (j := 4) hF 0 rfl rfl (by decide) rfl m_82 rfl (tyX5_ok 4 (by decide)) rfl rfl (Nat.le_of_ble_eq_true rfl) dX5_goBackTo_5 ?_
  try dsimp only [gput, gputA, List.set, stGs, List.cons_append, List.nil_append]
  refine g_aload_n hF dX5_goBackTo_8 rfl ?_
  refine g_get (j := 0) hF 0 rfl rfl (by decide) rfl m_73 rfl dX5_goBackTo_9 ?_
  refine g_aload_n hF dX5_goBackTo_12 rfl ?_
  refine g_getN (j := 1) hF 5 rfl rfl (by decide) rfl m_126 rfl dX5_goBackTo_13 ?_
  refine g_callVd hF (c_Row_resize (by omega)) cal_X4_resize rfl m_383 (by decide) (Or.inl rfl) (Nat.zero_le _) (Nat.zero_le _) 1 rfl rfl [1] rfl rfl (Nat.le_of_ble_eq_true rfl) rfl (Nat.le_of_ble_eq_true rfl) dX5_goBackTo_16 ?_
  try dsimp only [gput, gputA, List.set, stGs, List.cons_append, List.nil_append]
  refine g_aload_n hF dX5_goBackTo_19 rfl ?_
  refine g_get (j := 0) hF 0 rfl rfl (by decide) rfl m_73 rfl dX5_goBackTo_20 ?_
  refine g_iconst (v := (0)) hF dX5_goBackTo_23 rfl ?_
  refine g_aload_n hF dX5_goBackTo_24 rfl ?_
  refine g_getN (j := 2) hF 5 rfl rfl (by decide) rfl m_128 rfl dX5_goBackTo_25 ?_
  refine g_callVd hF (c_Row_putFromTop (by first | omega | exact clampI_le | (split <;> omega)) (by omega)) cal_X4_putFromTop rfl m_608 (by decide) (Or.inl rfl) (Nat.zero_le _) (Nat.zero_le _) 1 rfl rfl [1] rfl rfl (Nat.le_of_ble_eq_true rfl) rfl (Nat.le_of_ble_eq_true rfl) dX5_goBackTo_28 ?_
  try dsimp only [gput, gputA, List.set, stGs, List.cons_append, List.nil_append]
  refine g_aload_n hF dX5_goBackTo_31 rfl ?_
  refine g_get (j := 0) hF 0 rfl rfl (by decide) rfl m_73 rfl dX5_goBackTo_32 ?_
  refine g_iconst (v := (1)) hF dX5_goBackTo_35 rfl ?_
  refine g_aload_n hF dX5_goBackTo_36 rfl ?_
  refine g_getN (j := 3) hF 5 rfl rfl (by decide) rfl m_129 rfl dX5_goBackTo_37 ?_
  refine g_callVd hF (c_Row_putFromTop (by first | omega | exact clampI_le | (split <;> omega)) (by omega)) cal_X4_putFromTop rfl m_608 (by decide) (Or.inl rfl) (Nat.zero_le _) (Nat.zero_le _) 1 rfl rfl [1] rfl rfl (Nat.le_of_ble_eq_true rfl) rfl (Nat.le_of_ble_eq_true rfl) dX5_goBackTo_40 ?_
  try dsimp only [gput, gputA, List.set, stGs, List.cons_append, List.nil_append]
  refine g_aload_n hF dX5_goBackTo_43 rfl ?_
  refine g_get (j := 2) hF 0 rfl rfl (by decide) rfl m_78 rfl dX5_goBackTo_44 ?_
  refine g_aload_n hF dX5_goBackTo_47 rfl ?_
  refine g_getN (j := 4) hF 5 rfl rfl (by decide) rfl m_131 rfl dX5_goBackTo_48 ?_
  refine g_callVd hF (c_Row_resize (by omega)) cal_X4_resize rfl m_383 (by decide) (Or.inl rfl) (Nat.zero_le _) (Nat.zero_le _) 3 rfl rfl [3] rfl rfl (Nat.le_of_ble_eq_true rfl) rfl (Nat.le_of_ble_eq_true rfl) dX5_goBackTo_51 ?_
  try dsimp only [gput, gputA, List.set, stGs, List.cons_append, List.nil_append]
  refine g_aload_n hF dX5_goBackTo_54 rfl ?_
  refine g_get (j := 2) hF 0 rfl rfl (by decide) rfl m_78 rfl dX5_goBackTo_55 ?_
  refine g_iconst (v := (0)) hF dX5_goBackTo_58 rfl ?_
  refine g_aload_n hF dX5_goBackTo_59 rfl ?_
  refine g_getN (j := 5) hF 5 rfl rfl (by decide) rfl m_132 rfl dX5_goBackTo_60 ?_
  refine g_callVd hF (c_Row_putFromTop (by first | omega | exact clampI_le | (split <;> omega)) (by omega)) cal_X4_putFromTop rfl m_608 (by decide) (Or.inl rfl) (Nat.zero_le _) (Nat.zero_le _) 3 rfl rfl [3] rfl rfl (Nat.le_of_ble_eq_true rfl) rfl (Nat.le_of_ble_eq_true rfl) dX5_goBackTo_63 ?_
  try dsimp only [gput, gputA, List.set, stGs, List.cons_append, List.nil_append]
  refine g_aload_n hF dX5_goBackTo_66 rfl ?_
  refine g_aload_n hF dX5_goBackTo_67 rfl ?_
  refine g_getN (j := 6) hF 5 rfl rfl (by decide) rfl m_133 rfl dX5_goBackTo_68 ?_
  refine g_put (j := 6) hF 0 rfl rfl (by decide) rfl m_88 rfl (tyX5_ok 6 (by decide)) rfl rfl (Nat.le_of_ble_eq_true rfl) dX5_goBackTo_71 ?_
  try dsimp only [gput, gputA, List.set, stGs, List.cons_append, List.nil_append]
  refine g_aload_n hF dX5_goBackTo_74 rfl ?_
  refine g_get (j := 3) hF 0 rfl rfl (by decide) rfl m_80 rfl dX5_goBackTo_75 ?_
  refine g_aload_n hF dX5_goBackTo_78 rfl ?_
  refine g_getN (j := 7) hF 5 rfl rfl (by decide) rfl m_134 rfl dX5_goBackTo_79 ?_
  refine g_callVd hF (c_Row_resize (by omega)) cal_X4_resize rfl m_383 (by decide) (Or.inl rfl) (Nat.zero_le _) (Nat.zero_le _) 4 rfl rfl [4] rfl rfl (Nat.le_of_ble_eq_true rfl) rfl (Nat.le_of_ble_eq_true rfl) dX5_goBackTo_82 ?_
  try dsimp only [gput, gputA, List.set, stGs, List.cons_append, List.nil_append]
  refine g_aload_n hF dX5_goBackTo_85 rfl ?_
  refine g_get (j := 1) hF 0 rfl rfl (by decide) rfl m_75 rfl dX5_goBackTo_86 ?_
  refine g_aload_n hF dX5_goBackTo_89 rfl ?_
  refine g_getN (j := 8) hF 5 rfl rfl (by decide) rfl m_138 rfl dX5_goBackTo_90 ?_
  refine g_aload_n hF dX5_goBackTo_93 rfl ?_
  refine g_getN (j := 9) hF 5 rfl rfl (by decide) rfl m_141 rfl dX5_goBackTo_94 ?_
  refine g_callVd hF (c_Row_put (by first | omega | exact clampI_le | (split <;> omega)) (by omega)) cal_X4_put rfl m_533 (by decide) (Or.inl rfl) (Nat.zero_le _) (Nat.zero_le _) 2 rfl rfl [2] rfl rfl (Nat.le_of_ble_eq_true rfl) rfl (Nat.le_of_ble_eq_true rfl) dX5_goBackTo_97 ?_
  try dsimp only [gput, gputA, List.set, stGs, List.cons_append, List.nil_append]
  refine g_aload_n hF dX5_goBackTo_100 rfl ?_
  refine g_iconst (v := (0)) hF dX5_goBackTo_101 rfl ?_
  refine g_put (j := 5) hF 0 rfl rfl (by decide) rfl m_85 rfl (tyX5_ok 5 (by decide)) rfl rfl (Nat.le_of_ble_eq_true rfl) dX5_goBackTo_102 ?_
  try dsimp only [gput, gputA, List.set, stGs, List.cons_append, List.nil_append]
  refine g_aload_n hF dX5_goBackTo_105 rfl ?_
  refine g_dup hF dX5_goBackTo_106 rfl ?_
  refine g_get (j := 7) hF 0 rfl rfl (by decide) rfl m_90 rfl dX5_goBackTo_107 ?_
  refine g_iconst (v := (1)) hF dX5_goBackTo_110 rfl ?_
  refine g_isub hF dX5_goBackTo_111 ?_
  refine g_put (j := 7) hF 0 rfl rfl (by decide) rfl m_90 rfl (tyX5_ok 7 (by decide)) rfl rfl (Nat.le_of_ble_eq_true rfl) dX5_goBackTo_112 ?_
  try dsimp only [gput, gputA, List.set, stGs, List.cons_append, List.nil_append]
  exact g_vret hF hR dX5_goBackTo_115 ⟨rfl, rfl⟩
set_option maxHeartbeats 4000000 in
set_option maxRecDepth 100000 in
theorem c_S_clear {E : Env3} {A : AV} {v : SV} (hv : okS v)  : Cd E none 2 yX5_clear cX5_clear 1 none [.ref A.1] (stGs E.2.2 A v ++ []) none (stGs E.2.2 A (clearF v) ++ []) := by
  refine Ct.of [some (.ref A.1)] (by decide +kernel) rfl (Nat.le_of_ble_eq_true rfl) (fun F hE hF hR hN => ?_)
  subst hE
  obtain ⟨⟨f1, n1⟩, ⟨f2, n2⟩, ⟨f3, n3⟩, ⟨f4, n4⟩, at', status, rd, ck⟩ := v
  obtain ⟨h, ⟨r1, a1⟩, ⟨r2, a2⟩, ⟨r3, a3⟩, r4, a4⟩ := A
  obtain ⟨h1, h2, h3, h4⟩ := hv
  dsimp only at h1 h2 h3 h4
  refine g_regroup (gs' := [stO h r1 r2 r3 r4 at' status rd ck, rowW F.1.2.2 r1 a1 24 f1 n1, rowW F.1.2.2 r2 a2 12 f2 n2, rowW F.1.2.2 r3 a3 8 f3 n3, rowW F.1.2.2 r4 a4 30 f4 n4]) rfl ?_
  refine g_aload_n hF dX5_clear_0 rfl ?_
  refine g_get (j := 0) hF 0 rfl rfl (by decide) rfl m_73 rfl dX5_clear_1 ?_
  refine g_iconst (v := (0)) hF dX5_clear_4 rfl ?_
  refine g_callVd hF (c_Row_resize (by omega)) cal_X4_resize rfl m_383 (by decide) (Or.inl rfl) (Nat.zero_le _) (Nat.zero_le _) 1 rfl rfl [1] rfl rfl (Nat.le_of_ble_eq_true rfl) rfl (Nat.le_of_ble_eq_true rfl) dX5_clear_5 ?_
  try dsimp only [gput, gputA, List.set, stGs, List.cons_append, List.nil_append]
  refine g_aload_n hF dX5_clear_8 rfl ?_
  refine g_get (j := 1) hF 0 rfl rfl (by decide) rfl m_75 rfl dX5_clear_9 ?_
  refine g_callVd hF (c_Row_fillWithZeros (by omega)) cal_X4_fillWithZeros rfl m_69 (by decide) (Or.inl rfl) (Nat.zero_le _) (Nat.zero_le _) 2 rfl rfl [2] rfl rfl (Nat.le_of_ble_eq_true rfl) rfl (Nat.le_of_ble_eq_true rfl) dX5_clear_12 ?_
  try dsimp only [gput, gputA, List.set, stGs, List.cons_append, List.nil_append]
  refine g_aload_n hF dX5_clear_15 rfl ?_
  refine g_get (j := 2) hF 0 rfl rfl (by decide) rfl m_78 rfl dX5_clear_16 ?_
  refine g_iconst (v := (0)) hF dX5_clear_19 rfl ?_
  refine g_callVd hF (c_Row_resize (by omega)) cal_X4_resize rfl m_383 (by decide) (Or.inl rfl) (Nat.zero_le _) (Nat.zero_le _) 3 rfl rfl [3] rfl rfl (Nat.le_of_ble_eq_true rfl) rfl (Nat.le_of_ble_eq_true rfl) dX5_clear_20 ?_
  try dsimp only [gput, gputA, List.set, stGs, List.cons_append, List.nil_append]
  refine g_aload_n hF dX5_clear_23 rfl ?_
  refine g_get (j := 3) hF 0 rfl rfl (by decide) rfl m_80 rfl dX5_clear_24 ?_
  refine g_iconst (v := (0)) hF dX5_clear_27 rfl ?_
  refine g_callVd hF (c_Row_resize (by omega)) cal_X4_resize rfl m_383 (by decide) (Or.inl rfl) (Nat.zero_le _) (Nat.zero_le _) 4 rfl rfl [4] rfl rfl (Nat.le_of_ble_eq_true rfl) rfl (Nat.le_of_ble_eq_true rfl) dX5_clear_28 ?_
  try dsimp only [gput, gputA, List.set, stGs, List.cons_append, List.nil_append]
  refine g_aload_n hF dX5_clear_31 rfl ?_
  refine g_iconst (v := (0)) hF dX5_clear_32 rfl ?_
  refine g_put (j := 4) hF 0 rfl rfl (by decide) rfl m_82 rfl (tyX5_ok 4 (by decide)) rfl rfl (Nat.le_of_ble_eq_true rfl) dX5_clear_33 ?_
  try dsimp only [gput, gputA, List.set, stGs, List.cons_append, List.nil_append]
  refine g_aload_n hF dX5_clear_36 rfl ?_
  refine g_iconst (v := (0)) hF dX5_clear_37 rfl ?_
  refine g_put (j := 5) hF 0 rfl rfl (by decide) rfl m_85 rfl (tyX5_ok 5 (by decide)) rfl rfl (Nat.le_of_ble_eq_true rfl) dX5_clear_38 ?_
  try dsimp only [gput, gputA, List.set, stGs, List.cons_append, List.nil_append]
  refine g_aload_n hF dX5_clear_41 rfl ?_
  refine g_iconst (v := (0)) hF dX5_clear_42 rfl ?_
  refine g_put (j := 6) hF 0 rfl rfl (by decide) rfl m_88 rfl (tyX5_ok 6 (by decide)) rfl rfl (Nat.le_of_ble_eq_true rfl) dX5_clear_43 ?_
  try dsimp only [gput, gputA, List.set, stGs, List.cons_append, List.nil_append]
  refine g_aload_n hF dX5_clear_46 rfl ?_
  refine g_iconst (v := (0)) hF dX5_clear_47 rfl ?_
  refine g_put (j := 7) hF 0 rfl rfl (by decide) rfl m_90 rfl (tyX5_ok 7 (by decide)) rfl rfl (Nat.le_of_ble_eq_true rfl) dX5_clear_48 ?_
  try dsimp only [gput, gputA, List.set, stGs, List.cons_append, List.nil_append]
  exact g_vret hF hR dX5_clear_51 ⟨rfl, rfl⟩
set_option maxHeartbeats 4000000 in
set_option maxRecDepth 100000 in
theorem c_S_copyFrom {E : Env3} {A : AV} {v : SV} {B : AV} {w : SV} (hv : okS v) (hw : okS w) : Cd E none 3 yX5_copyFrom cX5_copyFrom 2 none [.ref A.1, .ref B.1] (stGs E.2.2 A v ++ stGs E.2.2 B w) none (stGs E.2.2 A (copyF v w) ++ stGs E.2.2 B w) := by
  refine Ct.of [some (.ref A.1), some (.ref B.1)] (by decide +kernel) rfl (Nat.le_of_ble_eq_true rfl) (fun F hE hF hR hN => ?_)
  subst hE
  obtain ⟨⟨f1, n1⟩, ⟨f2, n2⟩, ⟨f3, n3⟩, ⟨f4, n4⟩, at', status, rd, ck⟩ := v
  obtain ⟨h, ⟨r1, a1⟩, ⟨r2, a2⟩, ⟨r3, a3⟩, r4, a4⟩ := A
  obtain ⟨h1, h2, h3, h4⟩ := hv
  dsimp only at h1 h2 h3 h4
  obtain ⟨⟨g1, m1⟩, ⟨g2, m2⟩, ⟨g3, m3⟩, ⟨g4, m4⟩, at2, status2, rd2, ck2⟩ := w
  obtain ⟨hB, ⟨b1, d1⟩, ⟨b2, d2⟩, ⟨b3, d3⟩, b4, d4⟩ := B
  obtain ⟨k1, k2, k3, k4⟩ := hw
  dsimp only at k1 k2 k3 k4
  refine g_regroup (gs' := [stO h r1 r2 r3 r4 at' status rd ck, rowW F.1.2.2 r1 a1 24 f1 n1, rowW F.1.2.2 r2 a2 12 f2 n2, rowW F.1.2.2 r3 a3 8 f3 n3, rowW F.1.2.2 r4 a4 30 f4 n4, stO hB b1 b2 b3 b4 at2 status2 rd2 ck2, rowW F.1.2.2 b1 d1 24 g1 m1, rowW F.1.2.2 b2 d2 12 g2 m2, rowW F.1.2.2 b3 d3 8 g3 m3, rowW F.1.2.2 b4 d4 30 g4 m4]) rfl ?_
  refine g_aload_n hF dX5_copyFrom_0 rfl ?_
  refine g_get (j := 0) hF 0 rfl rfl (by decide) rfl m_73 rfl dX5_copyFrom_1 ?_
  refine g_aload_n hF dX5_copyFrom_4 rfl ?_
  refine g_get (j := 0) hF 5 rfl rfl (by decide) rfl m_73 rfl dX5_copyFrom_5 ?_
  refine g_callVd hF (c_Row_copyFrom (by omega) (by omega) (by omega) (by omega)) cal_X4_copyFrom rfl m_759 (by decide) (Or.inl rfl) (Nat.zero_le _) (Nat.zero_le _) 1 rfl rfl [1, 6] rfl rfl (Nat.le_of_ble_eq_true rfl) rfl (Nat.le_of_ble_eq_true rfl) dX5_copyFrom_8 ?_
  try dsimp only [gput, gputA, List.set, stGs, List.cons_append, List.nil_append]
  refine g_aload_n hF dX5_copyFrom_11 rfl ?_
  refine g_get (j := 1) hF 0 rfl rfl (by decide) rfl m_75 rfl dX5_copyFrom_12 ?_
  refine g_aload_n hF dX5_copyFrom_15 rfl ?_
  refine g_get (j := 1) hF 5 rfl rfl (by decide) rfl m_75 rfl dX5_copyFrom_16 ?_
  refine g_callVd hF (c_Row_copyFrom (by omega) (by omega) (by omega) (by omega)) cal_X4_copyFrom rfl m_759 (by decide) (Or.inl rfl) (Nat.zero_le _) (Nat.zero_le _) 2 rfl rfl [2, 7] rfl rfl (Nat.le_of_ble_eq_true rfl) rfl (Nat.le_of_ble_eq_true rfl) dX5_copyFrom_19 ?_
  try dsimp only [gput, gputA, List.set, stGs, List.cons_append, List.nil_append]
  refine g_aload_n hF dX5_copyFrom_22 rfl ?_
  refine g_get (j := 2) hF 0 rfl rfl (by decide) rfl m_78 rfl dX5_copyFrom_23 ?_
  refine g_aload_n hF dX5_copyFrom_26 rfl ?_
  refine g_get (j := 2) hF 5 rfl rfl (by decide) rfl m_78 rfl dX5_copyFrom_27 ?_
  refine g_callVd hF (c_Row_copyFrom (by omega) (by omega) (by omega) (by omega)) cal_X4_copyFrom rfl m_759 (by decide) (Or.inl rfl) (Nat.zero_le _) (Nat.zero_le _) 3 rfl rfl [3, 8] rfl rfl (Nat.le_of_ble_eq_true rfl) rfl (Nat.le_of_ble_eq_true rfl) dX5_copyFrom_30 ?_
  try dsimp only [gput, gputA, List.set, stGs, List.cons_append, List.nil_append]
  refine g_aload_n hF dX5_copyFrom_33 rfl ?_
  refine g_get (j := 3) hF 0 rfl rfl (by decide) rfl m_80 rfl dX5_copyFrom_34 ?_
  refine g_aload_n hF dX5_copyFrom_37 rfl ?_
  refine g_get (j := 3) hF 5 rfl rfl (by decide) rfl m_80 rfl dX5_copyFrom_38 ?_
  refine g_callVd hF (c_Row_copyFrom (by omega) (by omega) (by omega) (by omega)) cal_X4_copyFrom rfl m_759 (by decide) (Or.inl rfl) (Nat.zero_le _) (Nat.zero_le _) 4 rfl rfl [4, 9] rfl rfl (Nat.le_of_ble_eq_true rfl) rfl (Nat.le_of_ble_eq_true rfl) dX5_copyFrom_41 ?_
  try dsimp only [gput, gputA, List.set, stGs, List.cons_append, List.nil_append]
  refine g_aload_n hF dX5_copyFrom_44 rfl ?_
  refine g_aload_n hF dX5_copyFrom_45 rfl ?_
  refine g_get (j := 4) hF 5 rfl rfl (by decide) rfl m_82 rfl dX5_copyFrom_46 ?_
  refine g_put (j := 4) hF 0 rfl rfl (by decide) rfl m_82 rfl (tyX5_ok 4 (by decide)) rfl rfl (Nat.le_of_ble_eq_true rfl) dX5_copyFrom_49 ?_
  try dsimp only [gput, gputA, List.set, stGs, List.cons_append, List.nil_append]
  refine g_aload_n hF dX5_copyFrom_52 rfl ?_
  refine g_aload_n hF dX5_copyFrom_53 rfl ?_
  refine g_get (j := 5) hF 5 rfl rfl (by decide) rfl m_85 rfl dX5_copyFrom_54 ?_
  refine g_put (j := 5) hF 0 rfl rfl (by decide) rfl m_85 rfl (tyX5_ok 5 (by decide)) rfl rfl (Nat.le_of_ble_eq_true rfl) dX5_copyFrom_57 ?_
  try dsimp only [gput, gputA, List.set, stGs, List.cons_append, List.nil_append]
  refine g_aload_n hF dX5_copyFrom_60 rfl ?_
  refine g_aload_n hF dX5_copyFrom_61 rfl ?_
  refine g_get (j := 6) hF 5 rfl rfl (by decide) rfl m_88 rfl dX5_copyFrom_62 ?_
  refine g_put (j := 6) hF 0 rfl rfl (by decide) rfl m_88 rfl (tyX5_ok 6 (by decide)) rfl rfl (Nat.le_of_ble_eq_true rfl) dX5_copyFrom_65 ?_
  try dsimp only [gput, gputA, List.set, stGs, List.cons_append, List.nil_append]
  refine g_aload_n hF dX5_copyFrom_68 rfl ?_
  refine g_aload_n hF dX5_copyFrom_69 rfl ?_
  refine g_get (j := 7) hF 5 rfl rfl (by decide) rfl m_90 rfl dX5_copyFrom_70 ?_
  refine g_put (j := 7) hF 0 rfl rfl (by decide) rfl m_90 rfl (tyX5_ok 7 (by decide)) rfl rfl (Nat.le_of_ble_eq_true rfl) dX5_copyFrom_73 ?_
  try dsimp only [gput, gputA, List.set, stGs, List.cons_append, List.nil_append]
  exact g_vret hF hR dX5_copyFrom_76 ⟨rfl, rfl⟩
set_option maxHeartbeats 4000000 in
set_option maxRecDepth 100000 in
theorem c_S_mixedInto {E : Env3} {A : AV} {v : SV} {d0 : Int64} (hv : okS v)  : Cd E none 3 yX5_mixedInto cX5_mixedInto 5 (some .long) [.ref A.1, .long d0] (stGs E.2.2 A v ++ []) (some (.long (mixSt v d0))) (stGs E.2.2 A (v) ++ []) := by
  refine Ct.of [some (.ref A.1), some (.long d0), none, none, none] (by decide +kernel) rfl (Nat.le_of_ble_eq_true rfl) (fun F hE hF hR hN => ?_)
  subst hE
  obtain ⟨⟨f1, n1⟩, ⟨f2, n2⟩, ⟨f3, n3⟩, ⟨f4, n4⟩, at', status, rd, ck⟩ := v
  obtain ⟨h, ⟨r1, a1⟩, ⟨r2, a2⟩, ⟨r3, a3⟩, r4, a4⟩ := A
  obtain ⟨h1, h2, h3, h4⟩ := hv
  dsimp only at h1 h2 h3 h4
  refine g_regroup (gs' := [stO h r1 r2 r3 r4 at' status rd ck, rowW F.1.2.2 r1 a1 24 f1 n1, rowW F.1.2.2 r2 a2 12 f2 n2, rowW F.1.2.2 r3 a3 8 f3 n3, rowW F.1.2.2 r4 a4 30 f4 n4]) rfl ?_
  refine g_aload_n hF dX5_mixedInto_0 rfl ?_
  refine g_get (j := 0) hF 0 rfl rfl (by decide) rfl m_73 rfl dX5_mixedInto_1 ?_
  refine g_lload_n hF dX5_mixedInto_4 rfl ?_
  refine g_callVq hF (c_Row_mixedFromTopInto (by first | omega | exact clampI_le | (split <;> omega)) (by omega)) cal_X4_mixedFromTopInto rfl m_786 (by decide) (Or.inl rfl) (Nat.zero_le _) (Nat.zero_le _) 1 rfl rfl [1] rfl rfl rfl (Nat.le_of_ble_eq_true rfl) dX5_mixedInto_5 ?_
  refine g_lstore_n hF dX5_mixedInto_8 (Nat.le_of_ble_eq_true rfl) rfl ?_
  refine g_aload_n hF dX5_mixedInto_9 rfl ?_
  refine g_get (j := 1) hF 0 rfl rfl (by decide) rfl m_75 rfl dX5_mixedInto_10 ?_
  refine g_lload_n hF dX5_mixedInto_13 rfl ?_
  refine g_callVq hF (c_Row_mixedInto (by first | omega | exact clampI_le | (split <;> omega)) (by omega)) cal_X4_mixedInto rfl m_792 (by decide) (Or.inl rfl) (Nat.zero_le _) (Nat.zero_le _) 2 rfl rfl [2] rfl rfl rfl (Nat.le_of_ble_eq_true rfl) dX5_mixedInto_14 ?_
  refine g_lstore_n hF dX5_mixedInto_17 (Nat.le_of_ble_eq_true rfl) rfl ?_
  refine g_aload_n hF dX5_mixedInto_18 rfl ?_
  refine g_get (j := 2) hF 0 rfl rfl (by decide) rfl m_78 rfl dX5_mixedInto_19 ?_
  refine g_lload_n hF dX5_mixedInto_22 rfl ?_
  refine g_callVq hF (c_Row_mixedFromTopInto (by first | omega | exact clampI_le | (split <;> omega)) (by omega)) cal_X4_mixedFromTopInto rfl m_786 (by decide) (Or.inl rfl) (Nat.zero_le _) (Nat.zero_le _) 3 rfl rfl [3] rfl rfl rfl (Nat.le_of_ble_eq_true rfl) dX5_mixedInto_23 ?_
  refine g_lstore_n hF dX5_mixedInto_26 (Nat.le_of_ble_eq_true rfl) rfl ?_
  refine g_aload_n hF dX5_mixedInto_27 rfl ?_
  refine g_get (j := 3) hF 0 rfl rfl (by decide) rfl m_80 rfl dX5_mixedInto_28 ?_
  refine g_lload_n hF dX5_mixedInto_31 rfl ?_
  refine g_callVq hF (c_Row_mixedInto (by first | omega | exact clampI_le | (split <;> omega)) (by omega)) cal_X4_mixedInto rfl m_792 (by decide) (Or.inl rfl) (Nat.zero_le _) (Nat.zero_le _) 4 rfl rfl [4] rfl rfl rfl (Nat.le_of_ble_eq_true rfl) dX5_mixedInto_32 ?_
  exact g_lret hF hR dX5_mixedInto_35 ⟨rfl, rfl⟩
end
section
theorem perf_17 (m : Int32) (inp : RV) (v : SV) : perfF 17 m inp v = withAt v (popR v.1) v.2.1 v.2.2.1 v.2.2.2.1 (if popV v.1 = 0 then m else v.2.2.2.2.1 + 1) v.2.2.2.2.2.2.1 := rfl
theorem perf_11 (m : Int32) (inp : RV) (v : SV) : perfF 11 m inp v = withAt v (pushR 24 (popR v.1) (bI (decide (popV v.1 = 0)))) v.2.1 v.2.2.1 v.2.2.2.1 (v.2.2.2.2.1 + 1) v.2.2.2.2.2.2.1 := rfl
set_option maxHeartbeats 4000000 in
set_option maxRecDepth 100000 in
theorem c_S_perform {E : Env3} {A : AV} {v : SV} {p rc rn rt ac an : Nat} {fc fn : Nat → Int32} {nc nn : Nat} {ri ai ni : Nat} {fi : Nat → Int32} (hv : okS v) (hc : nc ≤ 80) (hnn : nn ≤ 80) (hi : ni ≤ 20)  : Cd E none 3 yX5_perform cX5_perform 6 none [.ref A.1, .ref p, .ref ri] (stGs E.2.2 A v ++ [progO p rc rn rt, rowW E.2.2 rc ac 80 fc nc, rowW E.2.2 rn an 80 fn nn, rowW E.2.2 ri ai 20 fi ni]) none (stGs E.2.2 A (perfF (rowGet fc nc v.2.2.2.2.1) (rowGet fn nn v.2.2.2.2.1) (fi, ni) v) ++ [progO p rc rn rt, rowW E.2.2 rc ac 80 fc nc, rowW E.2.2 rn an 80 fn nn, rowW E.2.2 ri ai 20 fi ni]) := by
  refine Ct.of [some (.ref A.1), some (.ref p), some (.ref ri), none, none, none] (by decide +kernel) rfl (Nat.le_of_ble_eq_true rfl) (fun F hE hF hR hN => ?_)
  subst hE
  obtain ⟨⟨f1, n1⟩, ⟨f2, n2⟩, ⟨f3, n3⟩, ⟨f4, n4⟩, at', status, rd, ck⟩ := v
  obtain ⟨h, ⟨r1, a1⟩, ⟨r2, a2⟩, ⟨r3, a3⟩, r4, a4⟩ := A
  obtain ⟨h1, h2, h3, h4⟩ := hv
  dsimp only at h1 h2 h3 h4
  refine g_regroup (gs' := [stO h r1 r2 r3 r4 at' status rd ck, rowW F.1.2.2 r1 a1 24 f1 n1, rowW F.1.2.2 r2 a2 12 f2 n2, rowW F.1.2.2 r3 a3 8 f3 n3, rowW F.1.2.2 r4 a4 30 f4 n4, progO p rc rn rt, rowW F.1.2.2 rc ac 80 fc nc, rowW F.1.2.2 rn an 80 fn nn, rowW F.1.2.2 ri ai 20 fi ni]) rfl ?_
  refine g_aload_n hF dX5_perform_0 rfl ?_
  refine g_aload_n hF dX5_perform_1 rfl ?_
  refine g_get (j := 4) hF 0 rfl rfl (by decide) rfl m_82 rfl dX5_perform_2 ?_
  refine g_callVq hF (c_Prog_codeAt (by omega)) cal_X3_codeAt rfl m_471 (by decide) (Or.inl rfl) (Nat.zero_le _) (Nat.zero_le _) 5 rfl rfl [5, 6] rfl rfl rfl (Nat.le_of_ble_eq_true rfl) dX5_perform_5 ?_
  refine g_istore_n hF dX5_perform_8 (Nat.le_of_ble_eq_true rfl) rfl ?_
  refine g_aload_n hF dX5_perform_9 rfl ?_
  refine g_aload_n hF dX5_perform_10 rfl ?_
  refine g_get (j := 4) hF 0 rfl rfl (by decide) rfl m_82 rfl dX5_perform_11 ?_
  refine g_callVq hF (c_Prog_numberAt (by omega)) cal_X3_numberAt rfl m_508 (by decide) (Or.inl rfl) (Nat.zero_le _) (Nat.zero_le _) 5 rfl rfl [5, 7] rfl rfl rfl (Nat.le_of_ble_eq_true rfl) dX5_perform_14 ?_
  refine g_istore hF dX5_perform_17 (Nat.le_of_ble_eq_true rfl) rfl ?_
  refine g_aload_n hF dX5_perform_19 rfl ?_
  refine g_get (j := 4) hF 0 rfl rfl (by decide) rfl m_82 rfl dX5_perform_20 ?_
  refine g_iconst (v := (1)) hF dX5_perform_23 rfl ?_
  refine g_iadd hF dX5_perform_24 ?_
  refine g_istore hF dX5_perform_25 (Nat.le_of_ble_eq_true rfl) rfl ?_
  refine g_iload_n hF dX5_perform_27 rfl ?_
  by_cases t28_0 : rowGet fc nc at' = 0
  · refine g_tableIn (off := 108) (tgt := 136) hF dX5_perform_28 (by rw [t28_0]; decide) (by rw [t28_0]; decide) (by rw [t28_0]; rfl) (by decide) ?_
    refine g_aload_n hF dX5_perform_136 rfl ?_
    refine g_get (j := 0) hF 0 rfl rfl (by decide) rfl m_73 rfl dX5_perform_137 ?_
    refine g_iload hF dX5_perform_140 rfl ?_
    refine g_callVd hF (c_Row_push (by first | omega | exact clampI_le | (split <;> omega)) (by omega)) cal_X4_push rfl m_521 (by decide) (Or.inl rfl) (Nat.zero_le _) (Nat.zero_le _) 1 rfl rfl [1] rfl rfl (Nat.le_of_ble_eq_true rfl) rfl (Nat.le_of_ble_eq_true rfl) dX5_perform_142 ?_
    try dsimp only [gput, gputA, List.set, stGs, List.cons_append, List.nil_append]
    refine g_goto (tgt := 407) hF dX5_perform_145 (by decide) ?_
    refine g_aload_n hF dX5_perform_407 rfl ?_
    refine g_iload hF dX5_perform_408 rfl ?_
    refine g_put (j := 4) hF 0 rfl rfl (by decide) rfl m_82 rfl (tyX5_ok 4 (by decide)) rfl rfl (Nat.le_of_ble_eq_true rfl) dX5_perform_410 ?_
    try dsimp only [gput, gputA, List.set, stGs, List.cons_append, List.nil_append]
    refine g_aload_n hF dX5_perform_413 rfl ?_
    refine g_dup hF dX5_perform_414 rfl ?_
    refine g_get (j := 7) hF 0 rfl rfl (by decide) rfl m_90 rfl dX5_perform_415 ?_
    refine g_iconst (v := (1)) hF dX5_perform_418 rfl ?_
    refine g_iadd hF dX5_perform_419 ?_
    refine g_put (j := 7) hF 0 rfl rfl (by decide) rfl m_90 rfl (tyX5_ok 7 (by decide)) rfl rfl (Nat.le_of_ble_eq_true rfl) dX5_perform_420 ?_
    try dsimp only [gput, gputA, List.set, stGs, List.cons_append, List.nil_append]
    refine g_regroup (gs' := stGs F.1.2.2 (h, (r1, a1), (r2, a2), (r3, a3), r4, a4) (perfF (rowGet fc nc ((f1, n1), (f2, n2), (f3, n3), (f4, n4), at', status, rd, ck).2.2.2.2.1) (rowGet fn nn ((f1, n1), (f2, n2), (f3, n3), (f4, n4), at', status, rd, ck).2.2.2.2.1) (fi, ni) ((f1, n1), (f2, n2), (f3, n3), (f4, n4), at', status, rd, ck)) ++ [progO p rc rn rt, rowW F.1.2.2 rc ac 80 fc nc, rowW F.1.2.2 rn an 80 fn nn, rowW F.1.2.2 ri ai 20 fi ni]) (by simp only [t28_0]; rfl) ?_
    exact g_vret hF hR dX5_perform_423 ⟨rfl, rfl⟩
  by_cases t28_1 : rowGet fc nc at' = 1
  · refine g_tableIn (off := 120) (tgt := 148) hF dX5_perform_28 (by rw [t28_1]; decide) (by rw [t28_1]; decide) (by rw [t28_1]; rfl) (by decide) ?_
    refine g_aload_n hF dX5_perform_148 rfl ?_
    refine g_get (j := 0) hF 0 rfl rfl (by decide) rfl m_73 rfl dX5_perform_149 ?_
    refine g_callVd hF (c_Row_pop (by first | omega | exact clampI_le | (split <;> omega)) (by omega)) cal_X4_pop rfl m_522 (by decide) (Or.inl rfl) (Nat.zero_le _) (Nat.zero_le _) 1 rfl rfl [1] rfl rfl (Nat.le_of_ble_eq_true rfl) rfl (Nat.le_of_ble_eq_true rfl) dX5_perform_152 ?_
    try dsimp only [gput, gputA, List.set, stGs, List.cons_append, List.nil_append]
    refine g_pop hF dX5_perform_155 rfl ?_
    refine g_goto (tgt := 407) hF dX5_perform_156 (by decide) ?_
    refine g_aload_n hF dX5_perform_407 rfl ?_
    refine g_iload hF dX5_perform_408 rfl ?_
    refine g_put (j := 4) hF 0 rfl rfl (by decide) rfl m_82 rfl (tyX5_ok 4 (by decide)) rfl rfl (Nat.le_of_ble_eq_true rfl) dX5_perform_410 ?_
    try dsimp only [gput, gputA, List.set, stGs, List.cons_append, List.nil_append]
    refine g_aload_n hF dX5_perform_413 rfl ?_
    refine g_dup hF dX5_perform_414 rfl ?_
    refine g_get (j := 7) hF 0 rfl rfl (by decide) rfl m_90 rfl dX5_perform_415 ?_
    refine g_iconst (v := (1)) hF dX5_perform_418 rfl ?_
    refine g_iadd hF dX5_perform_419 ?_
    refine g_put (j := 7) hF 0 rfl rfl (by decide) rfl m_90 rfl (tyX5_ok 7 (by decide)) rfl rfl (Nat.le_of_ble_eq_true rfl) dX5_perform_420 ?_
    try dsimp only [gput, gputA, List.set, stGs, List.cons_append, List.nil_append]
    refine g_regroup (gs' := stGs F.1.2.2 (h, (r1, a1), (r2, a2), (r3, a3), r4, a4) (perfF (rowGet fc nc ((f1, n1), (f2, n2), (f3, n3), (f4, n4), at', status, rd, ck).2.2.2.2.1) (rowGet fn nn ((f1, n1), (f2, n2), (f3, n3), (f4, n4), at', status, rd, ck).2.2.2.2.1) (fi, ni) ((f1, n1), (f2, n2), (f3, n3), (f4, n4), at', status, rd, ck)) ++ [progO p rc rn rt, rowW F.1.2.2 rc ac 80 fc nc, rowW F.1.2.2 rn an 80 fn nn, rowW F.1.2.2 ri ai 20 fi ni]) (by simp only [t28_1]; rfl) ?_
    exact g_vret hF hR dX5_perform_423 ⟨rfl, rfl⟩
  by_cases t28_2 : rowGet fc nc at' = 2
  · refine g_tableIn (off := 131) (tgt := 159) hF dX5_perform_28 (by rw [t28_2]; decide) (by rw [t28_2]; decide) (by rw [t28_2]; rfl) (by decide) ?_
    refine g_aload_n hF dX5_perform_159 rfl ?_
    refine g_get (j := 0) hF 0 rfl rfl (by decide) rfl m_73 rfl dX5_perform_160 ?_
    refine g_aload_n hF dX5_perform_163 rfl ?_
    refine g_get (j := 0) hF 0 rfl rfl (by decide) rfl m_73 rfl dX5_perform_164 ?_
    refine g_iconst (v := (0)) hF dX5_perform_167 rfl ?_
    refine g_callVq hF (c_Row_fromTop (by first | omega | exact clampI_le | (split <;> omega)) (by omega)) cal_X4_fromTop rfl m_483 (by decide) (Or.inl rfl) (Nat.zero_le _) (Nat.zero_le _) 1 rfl rfl [1] rfl rfl rfl (Nat.le_of_ble_eq_true rfl) dX5_perform_168 ?_
    refine g_callVd hF (c_Row_push (by first | omega | exact clampI_le | (split <;> omega)) (by omega)) cal_X4_push rfl m_521 (by decide) (Or.inl rfl) (Nat.zero_le _) (Nat.zero_le _) 1 rfl rfl [1] rfl rfl (Nat.le_of_ble_eq_true rfl) rfl (Nat.le_of_ble_eq_true rfl) dX5_perform_171 ?_
    try dsimp only [gput, gputA, List.set, stGs, List.cons_append, List.nil_append]
    refine g_goto (tgt := 407) hF dX5_perform_174 (by decide) ?_
    refine g_aload_n hF dX5_perform_407 rfl ?_
    refine g_iload hF dX5_perform_408 rfl ?_
    refine g_put (j := 4) hF 0 rfl rfl (by decide) rfl m_82 rfl (tyX5_ok 4 (by decide)) rfl rfl (Nat.le_of_ble_eq_true rfl) dX5_perform_410 ?_
    try dsimp only [gput, gputA, List.set, stGs, List.cons_append, List.nil_append]
    refine g_aload_n hF dX5_perform_413 rfl ?_
    refine g_dup hF dX5_perform_414 rfl ?_
    refine g_get (j := 7) hF 0 rfl rfl (by decide) rfl m_90 rfl dX5_perform_415 ?_
    refine g_iconst (v := (1)) hF dX5_perform_418 rfl ?_
    refine g_iadd hF dX5_perform_419 ?_
    refine g_put (j := 7) hF 0 rfl rfl (by decide) rfl m_90 rfl (tyX5_ok 7 (by decide)) rfl rfl (Nat.le_of_ble_eq_true rfl) dX5_perform_420 ?_
    try dsimp only [gput, gputA, List.set, stGs, List.cons_append, List.nil_append]
    refine g_regroup (gs' := stGs F.1.2.2 (h, (r1, a1), (r2, a2), (r3, a3), r4, a4) (perfF (rowGet fc nc ((f1, n1), (f2, n2), (f3, n3), (f4, n4), at', status, rd, ck).2.2.2.2.1) (rowGet fn nn ((f1, n1), (f2, n2), (f3, n3), (f4, n4), at', status, rd, ck).2.2.2.2.1) (fi, ni) ((f1, n1), (f2, n2), (f3, n3), (f4, n4), at', status, rd, ck)) ++ [progO p rc rn rt, rowW F.1.2.2 rc ac 80 fc nc, rowW F.1.2.2 rn an 80 fn nn, rowW F.1.2.2 ri ai 20 fi ni]) (by simp only [t28_2]; rfl) ?_
    exact g_vret hF hR dX5_perform_423 ⟨rfl, rfl⟩
  by_cases t28_3 : rowGet fc nc at' = 3
  · refine g_tableIn (off := 149) (tgt := 177) hF dX5_perform_28 (by rw [t28_3]; decide) (by rw [t28_3]; decide) (by rw [t28_3]; rfl) (by decide) ?_
    refine g_aload_n hF dX5_perform_177 rfl ?_
    refine g_callVd hF (c_St_swap (by omega)) cal_X5_swap rfl m_526 (by decide) (Or.inl rfl) (Nat.zero_le _) (Nat.zero_le _) 0 rfl rfl [0, 1] rfl rfl (Nat.le_of_ble_eq_true rfl) rfl (Nat.le_of_ble_eq_true rfl) dX5_perform_178 ?_
    try dsimp only [gput, gputA, List.set, stGs, List.cons_append, List.nil_append]
    refine g_goto (tgt := 407) hF dX5_perform_181 (by decide) ?_
    refine g_aload_n hF dX5_perform_407 rfl ?_
    refine g_iload hF dX5_perform_408 rfl ?_
    refine g_put (j := 4) hF 0 rfl rfl (by decide) rfl m_82 rfl (tyX5_ok 4 (by decide)) rfl rfl (Nat.le_of_ble_eq_true rfl) dX5_perform_410 ?_
    try dsimp only [gput, gputA, List.set, stGs, List.cons_append, List.nil_append]
    refine g_aload_n hF dX5_perform_413 rfl ?_
    refine g_dup hF dX5_perform_414 rfl ?_
    refine g_get (j := 7) hF 0 rfl rfl (by decide) rfl m_90 rfl dX5_perform_415 ?_
    refine g_iconst (v := (1)) hF dX5_perform_418 rfl ?_
    refine g_iadd hF dX5_perform_419 ?_
    refine g_put (j := 7) hF 0 rfl rfl (by decide) rfl m_90 rfl (tyX5_ok 7 (by decide)) rfl rfl (Nat.le_of_ble_eq_true rfl) dX5_perform_420 ?_
    try dsimp only [gput, gputA, List.set, stGs, List.cons_append, List.nil_append]
    refine g_regroup (gs' := stGs F.1.2.2 (h, (r1, a1), (r2, a2), (r3, a3), r4, a4) (perfF (rowGet fc nc ((f1, n1), (f2, n2), (f3, n3), (f4, n4), at', status, rd, ck).2.2.2.2.1) (rowGet fn nn ((f1, n1), (f2, n2), (f3, n3), (f4, n4), at', status, rd, ck).2.2.2.2.1) (fi, ni) ((f1, n1), (f2, n2), (f3, n3), (f4, n4), at', status, rd, ck)) ++ [progO p rc rn rt, rowW F.1.2.2 rc ac 80 fc nc, rowW F.1.2.2 rn an 80 fn nn, rowW F.1.2.2 ri ai 20 fi ni]) (by simp only [t28_3]; rfl) ?_
    exact g_vret hF hR dX5_perform_423 ⟨rfl, rfl⟩
  by_cases t28_4 : rowGet fc nc at' = 4
  · refine g_tableIn (off := 156) (tgt := 184) hF dX5_perform_28 (by rw [t28_4]; decide) (by rw [t28_4]; decide) (by rw [t28_4]; rfl) (by decide) ?_
    refine g_aload_n hF dX5_perform_184 rfl ?_
    refine g_get (j := 0) hF 0 rfl rfl (by decide) rfl m_73 rfl dX5_perform_185 ?_
    refine g_aload_n hF dX5_perform_188 rfl ?_
    refine g_get (j := 0) hF 0 rfl rfl (by decide) rfl m_73 rfl dX5_perform_189 ?_
    refine g_iconst (v := (1)) hF dX5_perform_192 rfl ?_
    refine g_callVq hF (c_Row_fromTop (by first | omega | exact clampI_le | (split <;> omega)) (by omega)) cal_X4_fromTop rfl m_483 (by decide) (Or.inl rfl) (Nat.zero_le _) (Nat.zero_le _) 1 rfl rfl [1] rfl rfl rfl (Nat.le_of_ble_eq_true rfl) dX5_perform_193 ?_
    refine g_callVd hF (c_Row_push (by first | omega | exact clampI_le | (split <;> omega)) (by omega)) cal_X4_push rfl m_521 (by decide) (Or.inl rfl) (Nat.zero_le _) (Nat.zero_le _) 1 rfl rfl [1] rfl rfl (Nat.le_of_ble_eq_true rfl) rfl (Nat.le_of_ble_eq_true rfl) dX5_perform_196 ?_
    try dsimp only [gput, gputA, List.set, stGs, List.cons_append, List.nil_append]
    refine g_goto (tgt := 407) hF dX5_perform_199 (by decide) ?_
    refine g_aload_n hF dX5_perform_407 rfl ?_
    refine g_iload hF dX5_perform_408 rfl ?_
    refine g_put (j := 4) hF 0 rfl rfl (by decide) rfl m_82 rfl (tyX5_ok 4 (by decide)) rfl rfl (Nat.le_of_ble_eq_true rfl) dX5_perform_410 ?_
    try dsimp only [gput, gputA, List.set, stGs, List.cons_append, List.nil_append]
    refine g_aload_n hF dX5_perform_413 rfl ?_
    refine g_dup hF dX5_perform_414 rfl ?_
    refine g_get (j := 7) hF 0 rfl rfl (by decide) rfl m_90 rfl dX5_perform_415 ?_
    refine g_iconst (v := (1)) hF dX5_perform_418 rfl ?_
    refine g_iadd hF dX5_perform_419 ?_
    refine g_put (j := 7) hF 0 rfl rfl (by decide) rfl m_90 rfl (tyX5_ok 7 (by decide)) rfl rfl (Nat.le_of_ble_eq_true rfl) dX5_perform_420 ?_
    try dsimp only [gput, gputA, List.set, stGs, List.cons_append, List.nil_append]
    refine g_regroup (gs' := stGs F.1.2.2 (h, (r1, a1), (r2, a2), (r3, a3), r4, a4) (perfF (rowGet fc nc ((f1, n1), (f2, n2), (f3, n3), (f4, n4), at', status, rd, ck).2.2.2.2.1) (rowGet fn nn ((f1, n1), (f2, n2), (f3, n3), (f4, n4), at', status, rd, ck).2.2.2.2.1) (fi, ni) ((f1, n1), (f2, n2), (f3, n3), (f4, n4), at', status, rd, ck)) ++ [progO p rc rn rt, rowW F.1.2.2 rc ac 80 fc nc, rowW F.1.2.2 rn an 80 fn nn, rowW F.1.2.2 ri ai 20 fi ni]) (by simp only [t28_4]; rfl) ?_
    exact g_vret hF hR dX5_perform_423 ⟨rfl, rfl⟩
  by_cases t28_5 : rowGet fc nc at' = 5
  · refine g_tableIn (off := 374) (tgt := 402) hF dX5_perform_28 (by rw [t28_5]; decide) (by rw [t28_5]; decide) (by rw [t28_5]; rfl) (by decide) ?_
    refine g_aload_n hF dX5_perform_402 rfl ?_
    refine g_iload_n hF dX5_perform_403 rfl ?_
    refine g_callVd hF (c_St_reckon (by omega)) cal_X5_reckon rfl m_543 (by decide) (Or.inl rfl) (Nat.zero_le _) (Nat.zero_le _) 0 rfl rfl [0, 1] rfl rfl (Nat.le_of_ble_eq_true rfl) rfl (Nat.le_of_ble_eq_true rfl) dX5_perform_404 ?_
    try dsimp only [gput, gputA, List.set, stGs, List.cons_append, List.nil_append]
    refine g_aload_n hF dX5_perform_407 rfl ?_
    refine g_iload hF dX5_perform_408 rfl ?_
    refine g_put (j := 4) hF 0 rfl rfl (by decide) rfl m_82 rfl (tyX5_ok 4 (by decide)) rfl rfl (Nat.le_of_ble_eq_true rfl) dX5_perform_410 ?_
    try dsimp only [gput, gputA, List.set, stGs, List.cons_append, List.nil_append]
    refine g_aload_n hF dX5_perform_413 rfl ?_
    refine g_dup hF dX5_perform_414 rfl ?_
    refine g_get (j := 7) hF 0 rfl rfl (by decide) rfl m_90 rfl dX5_perform_415 ?_
    refine g_iconst (v := (1)) hF dX5_perform_418 rfl ?_
    refine g_iadd hF dX5_perform_419 ?_
    refine g_put (j := 7) hF 0 rfl rfl (by decide) rfl m_90 rfl (tyX5_ok 7 (by decide)) rfl rfl (Nat.le_of_ble_eq_true rfl) dX5_perform_420 ?_
    try dsimp only [gput, gputA, List.set, stGs, List.cons_append, List.nil_append]
    refine g_regroup (gs' := stGs F.1.2.2 (h, (r1, a1), (r2, a2), (r3, a3), r4, a4) (perfF (rowGet fc nc ((f1, n1), (f2, n2), (f3, n3), (f4, n4), at', status, rd, ck).2.2.2.2.1) (rowGet fn nn ((f1, n1), (f2, n2), (f3, n3), (f4, n4), at', status, rd, ck).2.2.2.2.1) (fi, ni) ((f1, n1), (f2, n2), (f3, n3), (f4, n4), at', status, rd, ck)) ++ [progO p rc rn rt, rowW F.1.2.2 rc ac 80 fc nc, rowW F.1.2.2 rn an 80 fn nn, rowW F.1.2.2 ri ai 20 fi ni]) (by simp only [t28_5]; rfl) ?_
    exact g_vret hF hR dX5_perform_423 ⟨rfl, rfl⟩
  by_cases t28_6 : rowGet fc nc at' = 6
  · refine g_tableIn (off := 374) (tgt := 402) hF dX5_perform_28 (by rw [t28_6]; decide) (by rw [t28_6]; decide) (by rw [t28_6]; rfl) (by decide) ?_
    refine g_aload_n hF dX5_perform_402 rfl ?_
    refine g_iload_n hF dX5_perform_403 rfl ?_
    refine g_callVd hF (c_St_reckon (by omega)) cal_X5_reckon rfl m_543 (by decide) (Or.inl rfl) (Nat.zero_le _) (Nat.zero_le _) 0 rfl rfl [0, 1] rfl rfl (Nat.le_of_ble_eq_true rfl) rfl (Nat.le_of_ble_eq_true rfl) dX5_perform_404 ?_
    try dsimp only [gput, gputA, List.set, stGs, List.cons_append, List.nil_append]
    refine g_aload_n hF dX5_perform_407 rfl ?_
    refine g_iload hF dX5_perform_408 rfl ?_
    refine g_put (j := 4) hF 0 rfl rfl (by decide) rfl m_82 rfl (tyX5_ok 4 (by decide)) rfl rfl (Nat.le_of_ble_eq_true rfl) dX5_perform_410 ?_
    try dsimp only [gput, gputA, List.set, stGs, List.cons_append, List.nil_append]
    refine g_aload_n hF dX5_perform_413 rfl ?_
    refine g_dup hF dX5_perform_414 rfl ?_
    refine g_get (j := 7) hF 0 rfl rfl (by decide) rfl m_90 rfl dX5_perform_415 ?_
    refine g_iconst (v := (1)) hF dX5_perform_418 rfl ?_
    refine g_iadd hF dX5_perform_419 ?_
    refine g_put (j := 7) hF 0 rfl rfl (by decide) rfl m_90 rfl (tyX5_ok 7 (by decide)) rfl rfl (Nat.le_of_ble_eq_true rfl) dX5_perform_420 ?_
    try dsimp only [gput, gputA, List.set, stGs, List.cons_append, List.nil_append]
    refine g_regroup (gs' := stGs F.1.2.2 (h, (r1, a1), (r2, a2), (r3, a3), r4, a4) (perfF (rowGet fc nc ((f1, n1), (f2, n2), (f3, n3), (f4, n4), at', status, rd, ck).2.2.2.2.1) (rowGet fn nn ((f1, n1), (f2, n2), (f3, n3), (f4, n4), at', status, rd, ck).2.2.2.2.1) (fi, ni) ((f1, n1), (f2, n2), (f3, n3), (f4, n4), at', status, rd, ck)) ++ [progO p rc rn rt, rowW F.1.2.2 rc ac 80 fc nc, rowW F.1.2.2 rn an 80 fn nn, rowW F.1.2.2 ri ai 20 fi ni]) (by simp only [t28_6]; rfl) ?_
    exact g_vret hF hR dX5_perform_423 ⟨rfl, rfl⟩
  by_cases t28_7 : rowGet fc nc at' = 7
  · refine g_tableIn (off := 374) (tgt := 402) hF dX5_perform_28 (by rw [t28_7]; decide) (by rw [t28_7]; decide) (by rw [t28_7]; rfl) (by decide) ?_
    refine g_aload_n hF dX5_perform_402 rfl ?_
    refine g_iload_n hF dX5_perform_403 rfl ?_
    refine g_callVd hF (c_St_reckon (by omega)) cal_X5_reckon rfl m_543 (by decide) (Or.inl rfl) (Nat.zero_le _) (Nat.zero_le _) 0 rfl rfl [0, 1] rfl rfl (Nat.le_of_ble_eq_true rfl) rfl (Nat.le_of_ble_eq_true rfl) dX5_perform_404 ?_
    try dsimp only [gput, gputA, List.set, stGs, List.cons_append, List.nil_append]
    refine g_aload_n hF dX5_perform_407 rfl ?_
    refine g_iload hF dX5_perform_408 rfl ?_
    refine g_put (j := 4) hF 0 rfl rfl (by decide) rfl m_82 rfl (tyX5_ok 4 (by decide)) rfl rfl (Nat.le_of_ble_eq_true rfl) dX5_perform_410 ?_
    try dsimp only [gput, gputA, List.set, stGs, List.cons_append, List.nil_append]
    refine g_aload_n hF dX5_perform_413 rfl ?_
    refine g_dup hF dX5_perform_414 rfl ?_
    refine g_get (j := 7) hF 0 rfl rfl (by decide) rfl m_90 rfl dX5_perform_415 ?_
    refine g_iconst (v := (1)) hF dX5_perform_418 rfl ?_
    refine g_iadd hF dX5_perform_419 ?_
    refine g_put (j := 7) hF 0 rfl rfl (by decide) rfl m_90 rfl (tyX5_ok 7 (by decide)) rfl rfl (Nat.le_of_ble_eq_true rfl) dX5_perform_420 ?_
    try dsimp only [gput, gputA, List.set, stGs, List.cons_append, List.nil_append]
    refine g_regroup (gs' := stGs F.1.2.2 (h, (r1, a1), (r2, a2), (r3, a3), r4, a4) (perfF (rowGet fc nc ((f1, n1), (f2, n2), (f3, n3), (f4, n4), at', status, rd, ck).2.2.2.2.1) (rowGet fn nn ((f1, n1), (f2, n2), (f3, n3), (f4, n4), at', status, rd, ck).2.2.2.2.1) (fi, ni) ((f1, n1), (f2, n2), (f3, n3), (f4, n4), at', status, rd, ck)) ++ [progO p rc rn rt, rowW F.1.2.2 rc ac 80 fc nc, rowW F.1.2.2 rn an 80 fn nn, rowW F.1.2.2 ri ai 20 fi ni]) (by simp only [t28_7]; rfl) ?_
    exact g_vret hF hR dX5_perform_423 ⟨rfl, rfl⟩
  by_cases t28_8 : rowGet fc nc at' = 8
  · refine g_tableIn (off := 374) (tgt := 402) hF dX5_perform_28 (by rw [t28_8]; decide) (by rw [t28_8]; decide) (by rw [t28_8]; rfl) (by decide) ?_
    refine g_aload_n hF dX5_perform_402 rfl ?_
    refine g_iload_n hF dX5_perform_403 rfl ?_
    refine g_callVd hF (c_St_reckon (by omega)) cal_X5_reckon rfl m_543 (by decide) (Or.inl rfl) (Nat.zero_le _) (Nat.zero_le _) 0 rfl rfl [0, 1] rfl rfl (Nat.le_of_ble_eq_true rfl) rfl (Nat.le_of_ble_eq_true rfl) dX5_perform_404 ?_
    try dsimp only [gput, gputA, List.set, stGs, List.cons_append, List.nil_append]
    refine g_aload_n hF dX5_perform_407 rfl ?_
    refine g_iload hF dX5_perform_408 rfl ?_
    refine g_put (j := 4) hF 0 rfl rfl (by decide) rfl m_82 rfl (tyX5_ok 4 (by decide)) rfl rfl (Nat.le_of_ble_eq_true rfl) dX5_perform_410 ?_
    try dsimp only [gput, gputA, List.set, stGs, List.cons_append, List.nil_append]
    refine g_aload_n hF dX5_perform_413 rfl ?_
    refine g_dup hF dX5_perform_414 rfl ?_
    refine g_get (j := 7) hF 0 rfl rfl (by decide) rfl m_90 rfl dX5_perform_415 ?_
    refine g_iconst (v := (1)) hF dX5_perform_418 rfl ?_
    refine g_iadd hF dX5_perform_419 ?_
    refine g_put (j := 7) hF 0 rfl rfl (by decide) rfl m_90 rfl (tyX5_ok 7 (by decide)) rfl rfl (Nat.le_of_ble_eq_true rfl) dX5_perform_420 ?_
    try dsimp only [gput, gputA, List.set, stGs, List.cons_append, List.nil_append]
    refine g_regroup (gs' := stGs F.1.2.2 (h, (r1, a1), (r2, a2), (r3, a3), r4, a4) (perfF (rowGet fc nc ((f1, n1), (f2, n2), (f3, n3), (f4, n4), at', status, rd, ck).2.2.2.2.1) (rowGet fn nn ((f1, n1), (f2, n2), (f3, n3), (f4, n4), at', status, rd, ck).2.2.2.2.1) (fi, ni) ((f1, n1), (f2, n2), (f3, n3), (f4, n4), at', status, rd, ck)) ++ [progO p rc rn rt, rowW F.1.2.2 rc ac 80 fc nc, rowW F.1.2.2 rn an 80 fn nn, rowW F.1.2.2 ri ai 20 fi ni]) (by simp only [t28_8]; rfl) ?_
    exact g_vret hF hR dX5_perform_423 ⟨rfl, rfl⟩
  by_cases t28_9 : rowGet fc nc at' = 9
  · refine g_tableIn (off := 374) (tgt := 402) hF dX5_perform_28 (by rw [t28_9]; decide) (by rw [t28_9]; decide) (by rw [t28_9]; rfl) (by decide) ?_
    refine g_aload_n hF dX5_perform_402 rfl ?_
    refine g_iload_n hF dX5_perform_403 rfl ?_
    refine g_callVd hF (c_St_reckon (by omega)) cal_X5_reckon rfl m_543 (by decide) (Or.inl rfl) (Nat.zero_le _) (Nat.zero_le _) 0 rfl rfl [0, 1] rfl rfl (Nat.le_of_ble_eq_true rfl) rfl (Nat.le_of_ble_eq_true rfl) dX5_perform_404 ?_
    try dsimp only [gput, gputA, List.set, stGs, List.cons_append, List.nil_append]
    refine g_aload_n hF dX5_perform_407 rfl ?_
    refine g_iload hF dX5_perform_408 rfl ?_
    refine g_put (j := 4) hF 0 rfl rfl (by decide) rfl m_82 rfl (tyX5_ok 4 (by decide)) rfl rfl (Nat.le_of_ble_eq_true rfl) dX5_perform_410 ?_
    try dsimp only [gput, gputA, List.set, stGs, List.cons_append, List.nil_append]
    refine g_aload_n hF dX5_perform_413 rfl ?_
    refine g_dup hF dX5_perform_414 rfl ?_
    refine g_get (j := 7) hF 0 rfl rfl (by decide) rfl m_90 rfl dX5_perform_415 ?_
    refine g_iconst (v := (1)) hF dX5_perform_418 rfl ?_
    refine g_iadd hF dX5_perform_419 ?_
    refine g_put (j := 7) hF 0 rfl rfl (by decide) rfl m_90 rfl (tyX5_ok 7 (by decide)) rfl rfl (Nat.le_of_ble_eq_true rfl) dX5_perform_420 ?_
    try dsimp only [gput, gputA, List.set, stGs, List.cons_append, List.nil_append]
    refine g_regroup (gs' := stGs F.1.2.2 (h, (r1, a1), (r2, a2), (r3, a3), r4, a4) (perfF (rowGet fc nc ((f1, n1), (f2, n2), (f3, n3), (f4, n4), at', status, rd, ck).2.2.2.2.1) (rowGet fn nn ((f1, n1), (f2, n2), (f3, n3), (f4, n4), at', status, rd, ck).2.2.2.2.1) (fi, ni) ((f1, n1), (f2, n2), (f3, n3), (f4, n4), at', status, rd, ck)) ++ [progO p rc rn rt, rowW F.1.2.2 rc ac 80 fc nc, rowW F.1.2.2 rn an 80 fn nn, rowW F.1.2.2 ri ai 20 fi ni]) (by simp only [t28_9]; rfl) ?_
    exact g_vret hF hR dX5_perform_423 ⟨rfl, rfl⟩
  by_cases t28_10 : rowGet fc nc at' = 10
  · refine g_tableIn (off := 374) (tgt := 402) hF dX5_perform_28 (by rw [t28_10]; decide) (by rw [t28_10]; decide) (by rw [t28_10]; rfl) (by decide) ?_
    refine g_aload_n hF dX5_perform_402 rfl ?_
    refine g_iload_n hF dX5_perform_403 rfl ?_
    refine g_callVd hF (c_St_reckon (by omega)) cal_X5_reckon rfl m_543 (by decide) (Or.inl rfl) (Nat.zero_le _) (Nat.zero_le _) 0 rfl rfl [0, 1] rfl rfl (Nat.le_of_ble_eq_true rfl) rfl (Nat.le_of_ble_eq_true rfl) dX5_perform_404 ?_
    try dsimp only [gput, gputA, List.set, stGs, List.cons_append, List.nil_append]
    refine g_aload_n hF dX5_perform_407 rfl ?_
    refine g_iload hF dX5_perform_408 rfl ?_
    refine g_put (j := 4) hF 0 rfl rfl (by decide) rfl m_82 rfl (tyX5_ok 4 (by decide)) rfl rfl (Nat.le_of_ble_eq_true rfl) dX5_perform_410 ?_
    try dsimp only [gput, gputA, List.set, stGs, List.cons_append, List.nil_append]
    refine g_aload_n hF dX5_perform_413 rfl ?_
    refine g_dup hF dX5_perform_414 rfl ?_
    refine g_get (j := 7) hF 0 rfl rfl (by decide) rfl m_90 rfl dX5_perform_415 ?_
    refine g_iconst (v := (1)) hF dX5_perform_418 rfl ?_
    refine g_iadd hF dX5_perform_419 ?_
    refine g_put (j := 7) hF 0 rfl rfl (by decide) rfl m_90 rfl (tyX5_ok 7 (by decide)) rfl rfl (Nat.le_of_ble_eq_true rfl) dX5_perform_420 ?_
    try dsimp only [gput, gputA, List.set, stGs, List.cons_append, List.nil_append]
    refine g_regroup (gs' := stGs F.1.2.2 (h, (r1, a1), (r2, a2), (r3, a3), r4, a4) (perfF (rowGet fc nc ((f1, n1), (f2, n2), (f3, n3), (f4, n4), at', status, rd, ck).2.2.2.2.1) (rowGet fn nn ((f1, n1), (f2, n2), (f3, n3), (f4, n4), at', status, rd, ck).2.2.2.2.1) (fi, ni) ((f1, n1), (f2, n2), (f3, n3), (f4, n4), at', status, rd, ck)) ++ [progO p rc rn rt, rowW F.1.2.2 rc ac 80 fc nc, rowW F.1.2.2 rn an 80 fn nn, rowW F.1.2.2 ri ai 20 fi ni]) (by simp only [t28_10]; rfl) ?_
    exact g_vret hF hR dX5_perform_423 ⟨rfl, rfl⟩
  by_cases t28_11 : rowGet fc nc at' = 11
  · refine g_tableIn (off := 174) (tgt := 202) hF dX5_perform_28 (by rw [t28_11]; decide) (by rw [t28_11]; decide) (by rw [t28_11]; rfl) (by decide) ?_
    refine g_aload_n hF dX5_perform_202 rfl ?_
    refine g_get (j := 0) hF 0 rfl rfl (by decide) rfl m_73 rfl dX5_perform_203 ?_
    refine g_aload_n hF dX5_perform_206 rfl ?_
    refine g_get (j := 0) hF 0 rfl rfl (by decide) rfl m_73 rfl dX5_perform_207 ?_
    refine g_callVd hF (c_Row_pop (by first | omega | exact clampI_le | (split <;> omega)) (by omega)) cal_X4_pop rfl m_522 (by decide) (Or.inl rfl) (Nat.zero_le _) (Nat.zero_le _) 1 rfl rfl [1] rfl rfl (Nat.le_of_ble_eq_true rfl) rfl (Nat.le_of_ble_eq_true rfl) dX5_perform_210 ?_
    try dsimp only [gput, gputA, List.set, stGs, List.cons_append, List.nil_append]
    refine g_if_ne (tgt := 220) hF dX5_perform_213 (by decide) (fun c_213 => ?_) (fun c_213 => ?_)
    · refine g_iconst (v := (0)) hF dX5_perform_220 rfl ?_
      refine g_callSNq hF (c_truth (b := false)) cal_X8_truth rfl m_530 (by decide) (Or.inl rfl) (Nat.zero_le _) (Nat.zero_le _) [] rfl rfl rfl (Nat.le_of_ble_eq_true rfl) dX5_perform_221 ?_
      refine g_callVd hF (c_Row_push (by first | omega | exact clampI_le | (split <;> omega)) (by omega)) cal_X4_push rfl m_521 (by decide) (Or.inl rfl) (Nat.zero_le _) (Nat.zero_le _) 1 rfl rfl [1] rfl rfl (Nat.le_of_ble_eq_true rfl) rfl (Nat.le_of_ble_eq_true rfl) dX5_perform_224 ?_
      try dsimp only [gput, gputA, List.set, stGs, List.cons_append, List.nil_append]
      refine g_goto (tgt := 407) hF dX5_perform_227 (by decide) ?_
      refine g_aload_n hF dX5_perform_407 rfl ?_
      refine g_iload hF dX5_perform_408 rfl ?_
      refine g_put (j := 4) hF 0 rfl rfl (by decide) rfl m_82 rfl (tyX5_ok 4 (by decide)) rfl rfl (Nat.le_of_ble_eq_true rfl) dX5_perform_410 ?_
      try dsimp only [gput, gputA, List.set, stGs, List.cons_append, List.nil_append]
      refine g_aload_n hF dX5_perform_413 rfl ?_
      refine g_dup hF dX5_perform_414 rfl ?_
      refine g_get (j := 7) hF 0 rfl rfl (by decide) rfl m_90 rfl dX5_perform_415 ?_
      refine g_iconst (v := (1)) hF dX5_perform_418 rfl ?_
      refine g_iadd hF dX5_perform_419 ?_
      refine g_put (j := 7) hF 0 rfl rfl (by decide) rfl m_90 rfl (tyX5_ok 7 (by decide)) rfl rfl (Nat.le_of_ble_eq_true rfl) dX5_perform_420 ?_
      try dsimp only [gput, gputA, List.set, stGs, List.cons_append, List.nil_append]
      refine g_regroup (gs' := stGs F.1.2.2 (h, (r1, a1), (r2, a2), (r3, a3), r4, a4) (perfF (rowGet fc nc ((f1, n1), (f2, n2), (f3, n3), (f4, n4), at', status, rd, ck).2.2.2.2.1) (rowGet fn nn ((f1, n1), (f2, n2), (f3, n3), (f4, n4), at', status, rd, ck).2.2.2.2.1) (fi, ni) ((f1, n1), (f2, n2), (f3, n3), (f4, n4), at', status, rd, ck)) ++ [progO p rc rn rt, rowW F.1.2.2 rc ac 80 fc nc, rowW F.1.2.2 rn an 80 fn nn, rowW F.1.2.2 ri ai 20 fi ni]) (by simp only [t28_11]; rw [perf_11, decide_eq_false (show ¬ popV (f1, n1) = 0 from c_213)]; rfl) ?_
      exact g_vret hF hR dX5_perform_423 ⟨rfl, rfl⟩
    · refine g_iconst (v := (1)) hF dX5_perform_216 rfl ?_
      refine g_goto (tgt := 221) hF dX5_perform_217 (by decide) ?_
      refine g_callSNq hF (c_truth (b := true)) cal_X8_truth rfl m_530 (by decide) (Or.inl rfl) (Nat.zero_le _) (Nat.zero_le _) [] rfl rfl rfl (Nat.le_of_ble_eq_true rfl) dX5_perform_221 ?_
      refine g_callVd hF (c_Row_push (by first | omega | exact clampI_le | (split <;> omega)) (by omega)) cal_X4_push rfl m_521 (by decide) (Or.inl rfl) (Nat.zero_le _) (Nat.zero_le _) 1 rfl rfl [1] rfl rfl (Nat.le_of_ble_eq_true rfl) rfl (Nat.le_of_ble_eq_true rfl) dX5_perform_224 ?_
      try dsimp only [gput, gputA, List.set, stGs, List.cons_append, List.nil_append]
      refine g_goto (tgt := 407) hF dX5_perform_227 (by decide) ?_
      refine g_aload_n hF dX5_perform_407 rfl ?_
      refine g_iload hF dX5_perform_408 rfl ?_
      refine g_put (j := 4) hF 0 rfl rfl (by decide) rfl m_82 rfl (tyX5_ok 4 (by decide)) rfl rfl (Nat.le_of_ble_eq_true rfl) dX5_perform_410 ?_
      try dsimp only [gput, gputA, List.set, stGs, List.cons_append, List.nil_append]
      refine g_aload_n hF dX5_perform_413 rfl ?_
      refine g_dup hF dX5_perform_414 rfl ?_
      refine g_get (j := 7) hF 0 rfl rfl (by decide) rfl m_90 rfl dX5_perform_415 ?_
      refine g_iconst (v := (1)) hF dX5_perform_418 rfl ?_
      refine g_iadd hF dX5_perform_419 ?_
      refine g_put (j := 7) hF 0 rfl rfl (by decide) rfl m_90 rfl (tyX5_ok 7 (by decide)) rfl rfl (Nat.le_of_ble_eq_true rfl) dX5_perform_420 ?_
      try dsimp only [gput, gputA, List.set, stGs, List.cons_append, List.nil_append]
      refine g_regroup (gs' := stGs F.1.2.2 (h, (r1, a1), (r2, a2), (r3, a3), r4, a4) (perfF (rowGet fc nc ((f1, n1), (f2, n2), (f3, n3), (f4, n4), at', status, rd, ck).2.2.2.2.1) (rowGet fn nn ((f1, n1), (f2, n2), (f3, n3), (f4, n4), at', status, rd, ck).2.2.2.2.1) (fi, ni) ((f1, n1), (f2, n2), (f3, n3), (f4, n4), at', status, rd, ck)) ++ [progO p rc rn rt, rowW F.1.2.2 rc ac 80 fc nc, rowW F.1.2.2 rn an 80 fn nn, rowW F.1.2.2 ri ai 20 fi ni]) (by simp only [t28_11]; rw [perf_11, decide_eq_true (show popV (f1, n1) = 0 from c_213)]; rfl) ?_
      exact g_vret hF hR dX5_perform_423 ⟨rfl, rfl⟩
  by_cases t28_12 : rowGet fc nc at' = 12
  · refine g_tableIn (off := 202) (tgt := 230) hF dX5_perform_28 (by rw [t28_12]; decide) (by rw [t28_12]; decide) (by rw [t28_12]; rfl) (by decide) ?_
    refine g_aload_n hF dX5_perform_230 rfl ?_
    refine g_get (j := 0) hF 0 rfl rfl (by decide) rfl m_73 rfl dX5_perform_231 ?_
    refine g_aload_n hF dX5_perform_234 rfl ?_
    refine g_get (j := 1) hF 0 rfl rfl (by decide) rfl m_75 rfl dX5_perform_235 ?_
    refine g_iload hF dX5_perform_238 rfl ?_
    refine g_callVq hF (c_Row_get (by first | omega | exact clampI_le | (split <;> omega)) (by omega)) cal_X4_get rfl m_512 (by decide) (Or.inl rfl) (Nat.zero_le _) (Nat.zero_le _) 2 rfl rfl [2] rfl rfl rfl (Nat.le_of_ble_eq_true rfl) dX5_perform_240 ?_
    refine g_callVd hF (c_Row_push (by first | omega | exact clampI_le | (split <;> omega)) (by omega)) cal_X4_push rfl m_521 (by decide) (Or.inl rfl) (Nat.zero_le _) (Nat.zero_le _) 1 rfl rfl [1] rfl rfl (Nat.le_of_ble_eq_true rfl) rfl (Nat.le_of_ble_eq_true rfl) dX5_perform_243 ?_
    try dsimp only [gput, gputA, List.set, stGs, List.cons_append, List.nil_append]
    refine g_goto (tgt := 407) hF dX5_perform_246 (by decide) ?_
    refine g_aload_n hF dX5_perform_407 rfl ?_
    refine g_iload hF dX5_perform_408 rfl ?_
    refine g_put (j := 4) hF 0 rfl rfl (by decide) rfl m_82 rfl (tyX5_ok 4 (by decide)) rfl rfl (Nat.le_of_ble_eq_true rfl) dX5_perform_410 ?_
    try dsimp only [gput, gputA, List.set, stGs, List.cons_append, List.nil_append]
    refine g_aload_n hF dX5_perform_413 rfl ?_
    refine g_dup hF dX5_perform_414 rfl ?_
    refine g_get (j := 7) hF 0 rfl rfl (by decide) rfl m_90 rfl dX5_perform_415 ?_
    refine g_iconst (v := (1)) hF dX5_perform_418 rfl ?_
    refine g_iadd hF dX5_perform_419 ?_
    refine g_put (j := 7) hF 0 rfl rfl (by decide) rfl m_90 rfl (tyX5_ok 7 (by decide)) rfl rfl (Nat.le_of_ble_eq_true rfl) dX5_perform_420 ?_
    try dsimp only [gput, gputA, List.set, stGs, List.cons_append, List.nil_append]
    refine g_regroup (gs' := stGs F.1.2.2 (h, (r1, a1), (r2, a2), (r3, a3), r4, a4) (perfF (rowGet fc nc ((f1, n1), (f2, n2), (f3, n3), (f4, n4), at', status, rd, ck).2.2.2.2.1) (rowGet fn nn ((f1, n1), (f2, n2), (f3, n3), (f4, n4), at', status, rd, ck).2.2.2.2.1) (fi, ni) ((f1, n1), (f2, n2), (f3, n3), (f4, n4), at', status, rd, ck)) ++ [progO p rc rn rt, rowW F.1.2.2 rc ac 80 fc nc, rowW F.1.2.2 rn an 80 fn nn, rowW F.1.2.2 ri ai 20 fi ni]) (by simp only [t28_12]; rfl) ?_
    exact g_vret hF hR dX5_perform_423 ⟨rfl, rfl⟩
  by_cases t28_13 : rowGet fc nc at' = 13
  · refine g_tableIn (off := 221) (tgt := 249) hF dX5_perform_28 (by rw [t28_13]; decide) (by rw [t28_13]; decide) (by rw [t28_13]; rfl) (by decide) ?_
    refine g_aload_n hF dX5_perform_249 rfl ?_
    refine g_get (j := 1) hF 0 rfl rfl (by decide) rfl m_75 rfl dX5_perform_250 ?_
    refine g_iload hF dX5_perform_253 rfl ?_
    refine g_aload_n hF dX5_perform_255 rfl ?_
    refine g_get (j := 0) hF 0 rfl rfl (by decide) rfl m_73 rfl dX5_perform_256 ?_
    refine g_callVd hF (c_Row_pop (by first | omega | exact clampI_le | (split <;> omega)) (by omega)) cal_X4_pop rfl m_522 (by decide) (Or.inl rfl) (Nat.zero_le _) (Nat.zero_le _) 1 rfl rfl [1] rfl rfl (Nat.le_of_ble_eq_true rfl) rfl (Nat.le_of_ble_eq_true rfl) dX5_perform_259 ?_
    try dsimp only [gput, gputA, List.set, stGs, List.cons_append, List.nil_append]
    refine g_callVd hF (c_Row_put (by first | omega | exact clampI_le | (split <;> omega)) (by omega)) cal_X4_put rfl m_533 (by decide) (Or.inl rfl) (Nat.zero_le _) (Nat.zero_le _) 2 rfl rfl [2] rfl rfl (Nat.le_of_ble_eq_true rfl) rfl (Nat.le_of_ble_eq_true rfl) dX5_perform_262 ?_
    try dsimp only [gput, gputA, List.set, stGs, List.cons_append, List.nil_append]
    refine g_goto (tgt := 407) hF dX5_perform_265 (by decide) ?_
    refine g_aload_n hF dX5_perform_407 rfl ?_
    refine g_iload hF dX5_perform_408 rfl ?_
    refine g_put (j := 4) hF 0 rfl rfl (by decide) rfl m_82 rfl (tyX5_ok 4 (by decide)) rfl rfl (Nat.le_of_ble_eq_true rfl) dX5_perform_410 ?_
    try dsimp only [gput, gputA, List.set, stGs, List.cons_append, List.nil_append]
    refine g_aload_n hF dX5_perform_413 rfl ?_
    refine g_dup hF dX5_perform_414 rfl ?_
    refine g_get (j := 7) hF 0 rfl rfl (by decide) rfl m_90 rfl dX5_perform_415 ?_
    refine g_iconst (v := (1)) hF dX5_perform_418 rfl ?_
    refine g_iadd hF dX5_perform_419 ?_
    refine g_put (j := 7) hF 0 rfl rfl (by decide) rfl m_90 rfl (tyX5_ok 7 (by decide)) rfl rfl (Nat.le_of_ble_eq_true rfl) dX5_perform_420 ?_
    try dsimp only [gput, gputA, List.set, stGs, List.cons_append, List.nil_append]
    refine g_regroup (gs' := stGs F.1.2.2 (h, (r1, a1), (r2, a2), (r3, a3), r4, a4) (perfF (rowGet fc nc ((f1, n1), (f2, n2), (f3, n3), (f4, n4), at', status, rd, ck).2.2.2.2.1) (rowGet fn nn ((f1, n1), (f2, n2), (f3, n3), (f4, n4), at', status, rd, ck).2.2.2.2.1) (fi, ni) ((f1, n1), (f2, n2), (f3, n3), (f4, n4), at', status, rd, ck)) ++ [progO p rc rn rt, rowW F.1.2.2 rc ac 80 fc nc, rowW F.1.2.2 rn an 80 fn nn, rowW F.1.2.2 ri ai 20 fi ni]) (by simp only [t28_13]; rfl) ?_
    exact g_vret hF hR dX5_perform_423 ⟨rfl, rfl⟩
  by_cases t28_14 : rowGet fc nc at' = 14
  · refine g_tableIn (off := 240) (tgt := 268) hF dX5_perform_28 (by rw [t28_14]; decide) (by rw [t28_14]; decide) (by rw [t28_14]; rfl) (by decide) ?_
    refine g_aload_n hF dX5_perform_268 rfl ?_
    refine g_get (j := 0) hF 0 rfl rfl (by decide) rfl m_73 rfl dX5_perform_269 ?_
    refine g_aload_n hF dX5_perform_272 rfl ?_
    refine g_get (j := 1) hF 0 rfl rfl (by decide) rfl m_75 rfl dX5_perform_273 ?_
    refine g_aload_n hF dX5_perform_276 rfl ?_
    refine g_get (j := 0) hF 0 rfl rfl (by decide) rfl m_73 rfl dX5_perform_277 ?_
    refine g_callVd hF (c_Row_pop (by first | omega | exact clampI_le | (split <;> omega)) (by omega)) cal_X4_pop rfl m_522 (by decide) (Or.inl rfl) (Nat.zero_le _) (Nat.zero_le _) 1 rfl rfl [1] rfl rfl (Nat.le_of_ble_eq_true rfl) rfl (Nat.le_of_ble_eq_true rfl) dX5_perform_280 ?_
    try dsimp only [gput, gputA, List.set, stGs, List.cons_append, List.nil_append]
    refine g_callVq hF (c_Row_get (by first | omega | exact clampI_le | (split <;> omega)) (by omega)) cal_X4_get rfl m_512 (by decide) (Or.inl rfl) (Nat.zero_le _) (Nat.zero_le _) 2 rfl rfl [2] rfl rfl rfl (Nat.le_of_ble_eq_true rfl) dX5_perform_283 ?_
    refine g_callVd hF (c_Row_push (by first | omega | exact clampI_le | (split <;> omega)) (by omega)) cal_X4_push rfl m_521 (by decide) (Or.inl rfl) (Nat.zero_le _) (Nat.zero_le _) 1 rfl rfl [1] rfl rfl (Nat.le_of_ble_eq_true rfl) rfl (Nat.le_of_ble_eq_true rfl) dX5_perform_286 ?_
    try dsimp only [gput, gputA, List.set, stGs, List.cons_append, List.nil_append]
    refine g_goto (tgt := 407) hF dX5_perform_289 (by decide) ?_
    refine g_aload_n hF dX5_perform_407 rfl ?_
    refine g_iload hF dX5_perform_408 rfl ?_
    refine g_put (j := 4) hF 0 rfl rfl (by decide) rfl m_82 rfl (tyX5_ok 4 (by decide)) rfl rfl (Nat.le_of_ble_eq_true rfl) dX5_perform_410 ?_
    try dsimp only [gput, gputA, List.set, stGs, List.cons_append, List.nil_append]
    refine g_aload_n hF dX5_perform_413 rfl ?_
    refine g_dup hF dX5_perform_414 rfl ?_
    refine g_get (j := 7) hF 0 rfl rfl (by decide) rfl m_90 rfl dX5_perform_415 ?_
    refine g_iconst (v := (1)) hF dX5_perform_418 rfl ?_
    refine g_iadd hF dX5_perform_419 ?_
    refine g_put (j := 7) hF 0 rfl rfl (by decide) rfl m_90 rfl (tyX5_ok 7 (by decide)) rfl rfl (Nat.le_of_ble_eq_true rfl) dX5_perform_420 ?_
    try dsimp only [gput, gputA, List.set, stGs, List.cons_append, List.nil_append]
    refine g_regroup (gs' := stGs F.1.2.2 (h, (r1, a1), (r2, a2), (r3, a3), r4, a4) (perfF (rowGet fc nc ((f1, n1), (f2, n2), (f3, n3), (f4, n4), at', status, rd, ck).2.2.2.2.1) (rowGet fn nn ((f1, n1), (f2, n2), (f3, n3), (f4, n4), at', status, rd, ck).2.2.2.2.1) (fi, ni) ((f1, n1), (f2, n2), (f3, n3), (f4, n4), at', status, rd, ck)) ++ [progO p rc rn rt, rowW F.1.2.2 rc ac 80 fc nc, rowW F.1.2.2 rn an 80 fn nn, rowW F.1.2.2 ri ai 20 fi ni]) (by simp only [t28_14]; rfl) ?_
    exact g_vret hF hR dX5_perform_423 ⟨rfl, rfl⟩
  by_cases t28_15 : rowGet fc nc at' = 15
  · refine g_tableIn (off := 264) (tgt := 292) hF dX5_perform_28 (by rw [t28_15]; decide) (by rw [t28_15]; decide) (by rw [t28_15]; rfl) (by decide) ?_
    refine g_aload_n hF dX5_perform_292 rfl ?_
    refine g_callVd hF (c_St_storeAt (by omega) (by omega)) cal_X5_storeAt rfl m_534 (by decide) (Or.inl rfl) (Nat.zero_le _) (Nat.zero_le _) 0 rfl rfl [0, 1, 2] rfl rfl (Nat.le_of_ble_eq_true rfl) rfl (Nat.le_of_ble_eq_true rfl) dX5_perform_293 ?_
    try dsimp only [gput, gputA, List.set, stGs, List.cons_append, List.nil_append]
    refine g_goto (tgt := 407) hF dX5_perform_296 (by decide) ?_
    refine g_aload_n hF dX5_perform_407 rfl ?_
    refine g_iload hF dX5_perform_408 rfl ?_
    refine g_put (j := 4) hF 0 rfl rfl (by decide) rfl m_82 rfl (tyX5_ok 4 (by decide)) rfl rfl (Nat.le_of_ble_eq_true rfl) dX5_perform_410 ?_
    try dsimp only [gput, gputA, List.set, stGs, List.cons_append, List.nil_append]
    refine g_aload_n hF dX5_perform_413 rfl ?_
    refine g_dup hF dX5_perform_414 rfl ?_
    refine g_get (j := 7) hF 0 rfl rfl (by decide) rfl m_90 rfl dX5_perform_415 ?_
    refine g_iconst (v := (1)) hF dX5_perform_418 rfl ?_
    refine g_iadd hF dX5_perform_419 ?_
    refine g_put (j := 7) hF 0 rfl rfl (by decide) rfl m_90 rfl (tyX5_ok 7 (by decide)) rfl rfl (Nat.le_of_ble_eq_true rfl) dX5_perform_420 ?_
    try dsimp only [gput, gputA, List.set, stGs, List.cons_append, List.nil_append]
    refine g_regroup (gs' := stGs F.1.2.2 (h, (r1, a1), (r2, a2), (r3, a3), r4, a4) (perfF (rowGet fc nc ((f1, n1), (f2, n2), (f3, n3), (f4, n4), at', status, rd, ck).2.2.2.2.1) (rowGet fn nn ((f1, n1), (f2, n2), (f3, n3), (f4, n4), at', status, rd, ck).2.2.2.2.1) (fi, ni) ((f1, n1), (f2, n2), (f3, n3), (f4, n4), at', status, rd, ck)) ++ [progO p rc rn rt, rowW F.1.2.2 rc ac 80 fc nc, rowW F.1.2.2 rn an 80 fn nn, rowW F.1.2.2 ri ai 20 fi ni]) (by simp only [t28_15]; rfl) ?_
    exact g_vret hF hR dX5_perform_423 ⟨rfl, rfl⟩
  by_cases t28_16 : rowGet fc nc at' = 16
  · refine g_tableIn (off := 271) (tgt := 299) hF dX5_perform_28 (by rw [t28_16]; decide) (by rw [t28_16]; decide) (by rw [t28_16]; rfl) (by decide) ?_
    refine g_iload hF dX5_perform_299 rfl ?_
    refine g_istore hF dX5_perform_301 (Nat.le_of_ble_eq_true rfl) rfl ?_
    refine g_goto (tgt := 407) hF dX5_perform_303 (by decide) ?_
    refine g_aload_n hF dX5_perform_407 rfl ?_
    refine g_iload hF dX5_perform_408 rfl ?_
    refine g_put (j := 4) hF 0 rfl rfl (by decide) rfl m_82 rfl (tyX5_ok 4 (by decide)) rfl rfl (Nat.le_of_ble_eq_true rfl) dX5_perform_410 ?_
    try dsimp only [gput, gputA, List.set, stGs, List.cons_append, List.nil_append]
    refine g_aload_n hF dX5_perform_413 rfl ?_
    refine g_dup hF dX5_perform_414 rfl ?_
    refine g_get (j := 7) hF 0 rfl rfl (by decide) rfl m_90 rfl dX5_perform_415 ?_
    refine g_iconst (v := (1)) hF dX5_perform_418 rfl ?_
    refine g_iadd hF dX5_perform_419 ?_
    refine g_put (j := 7) hF 0 rfl rfl (by decide) rfl m_90 rfl (tyX5_ok 7 (by decide)) rfl rfl (Nat.le_of_ble_eq_true rfl) dX5_perform_420 ?_
    try dsimp only [gput, gputA, List.set, stGs, List.cons_append, List.nil_append]
    refine g_regroup (gs' := stGs F.1.2.2 (h, (r1, a1), (r2, a2), (r3, a3), r4, a4) (perfF (rowGet fc nc ((f1, n1), (f2, n2), (f3, n3), (f4, n4), at', status, rd, ck).2.2.2.2.1) (rowGet fn nn ((f1, n1), (f2, n2), (f3, n3), (f4, n4), at', status, rd, ck).2.2.2.2.1) (fi, ni) ((f1, n1), (f2, n2), (f3, n3), (f4, n4), at', status, rd, ck)) ++ [progO p rc rn rt, rowW F.1.2.2 rc ac 80 fc nc, rowW F.1.2.2 rn an 80 fn nn, rowW F.1.2.2 ri ai 20 fi ni]) (by simp only [t28_16]; rfl) ?_
    exact g_vret hF hR dX5_perform_423 ⟨rfl, rfl⟩
  by_cases t28_17 : rowGet fc nc at' = 17
  · refine g_tableIn (off := 278) (tgt := 306) hF dX5_perform_28 (by rw [t28_17]; decide) (by rw [t28_17]; decide) (by rw [t28_17]; rfl) (by decide) ?_
    refine g_aload_n hF dX5_perform_306 rfl ?_
    refine g_get (j := 0) hF 0 rfl rfl (by decide) rfl m_73 rfl dX5_perform_307 ?_
    refine g_callVd hF (c_Row_pop (by first | omega | exact clampI_le | (split <;> omega)) (by omega)) cal_X4_pop rfl m_522 (by decide) (Or.inl rfl) (Nat.zero_le _) (Nat.zero_le _) 1 rfl rfl [1] rfl rfl (Nat.le_of_ble_eq_true rfl) rfl (Nat.le_of_ble_eq_true rfl) dX5_perform_310 ?_
    try dsimp only [gput, gputA, List.set, stGs, List.cons_append, List.nil_append]
    refine g_if_ne (tgt := 321) hF dX5_perform_313 (by decide) (fun c_313 => ?_) (fun c_313 => ?_)
    · refine g_iload hF dX5_perform_321 rfl ?_
      refine g_istore hF dX5_perform_323 (Nat.le_of_ble_eq_true rfl) rfl ?_
      refine g_goto (tgt := 407) hF dX5_perform_325 (by decide) ?_
      refine g_aload_n hF dX5_perform_407 rfl ?_
      refine g_iload hF dX5_perform_408 rfl ?_
      refine g_put (j := 4) hF 0 rfl rfl (by decide) rfl m_82 rfl (tyX5_ok 4 (by decide)) rfl rfl (Nat.le_of_ble_eq_true rfl) dX5_perform_410 ?_
      try dsimp only [gput, gputA, List.set, stGs, List.cons_append, List.nil_append]
      refine g_aload_n hF dX5_perform_413 rfl ?_
      refine g_dup hF dX5_perform_414 rfl ?_
      refine g_get (j := 7) hF 0 rfl rfl (by decide) rfl m_90 rfl dX5_perform_415 ?_
      refine g_iconst (v := (1)) hF dX5_perform_418 rfl ?_
      refine g_iadd hF dX5_perform_419 ?_
      refine g_put (j := 7) hF 0 rfl rfl (by decide) rfl m_90 rfl (tyX5_ok 7 (by decide)) rfl rfl (Nat.le_of_ble_eq_true rfl) dX5_perform_420 ?_
      try dsimp only [gput, gputA, List.set, stGs, List.cons_append, List.nil_append]
      refine g_regroup (gs' := stGs F.1.2.2 (h, (r1, a1), (r2, a2), (r3, a3), r4, a4) (perfF (rowGet fc nc ((f1, n1), (f2, n2), (f3, n3), (f4, n4), at', status, rd, ck).2.2.2.2.1) (rowGet fn nn ((f1, n1), (f2, n2), (f3, n3), (f4, n4), at', status, rd, ck).2.2.2.2.1) (fi, ni) ((f1, n1), (f2, n2), (f3, n3), (f4, n4), at', status, rd, ck)) ++ [progO p rc rn rt, rowW F.1.2.2 rc ac 80 fc nc, rowW F.1.2.2 rn an 80 fn nn, rowW F.1.2.2 ri ai 20 fi ni]) (by simp only [t28_17]; rw [perf_17, if_neg (show ¬ popV (f1, n1) = 0 from c_313)]; rfl) ?_
      exact g_vret hF hR dX5_perform_423 ⟨rfl, rfl⟩
    · refine g_iload hF dX5_perform_316 rfl ?_
      refine g_goto (tgt := 323) hF dX5_perform_318 (by decide) ?_
      refine g_istore hF dX5_perform_323 (Nat.le_of_ble_eq_true rfl) rfl ?_
      refine g_goto (tgt := 407) hF dX5_perform_325 (by decide) ?_
      refine g_aload_n hF dX5_perform_407 rfl ?_
      refine g_iload hF dX5_perform_408 rfl ?_
      refine g_put (j := 4) hF 0 rfl rfl (by decide) rfl m_82 rfl (tyX5_ok 4 (by decide)) rfl rfl (Nat.le_of_ble_eq_true rfl) dX5_perform_410 ?_
      try dsimp only [gput, gputA, List.set, stGs, List.cons_append, List.nil_append]
      refine g_aload_n hF dX5_perform_413 rfl ?_
      refine g_dup hF dX5_perform_414 rfl ?_
      refine g_get (j := 7) hF 0 rfl rfl (by decide) rfl m_90 rfl dX5_perform_415 ?_
      refine g_iconst (v := (1)) hF dX5_perform_418 rfl ?_
      refine g_iadd hF dX5_perform_419 ?_
      refine g_put (j := 7) hF 0 rfl rfl (by decide) rfl m_90 rfl (tyX5_ok 7 (by decide)) rfl rfl (Nat.le_of_ble_eq_true rfl) dX5_perform_420 ?_
      try dsimp only [gput, gputA, List.set, stGs, List.cons_append, List.nil_append]
      refine g_regroup (gs' := stGs F.1.2.2 (h, (r1, a1), (r2, a2), (r3, a3), r4, a4) (perfF (rowGet fc nc ((f1, n1), (f2, n2), (f3, n3), (f4, n4), at', status, rd, ck).2.2.2.2.1) (rowGet fn nn ((f1, n1), (f2, n2), (f3, n3), (f4, n4), at', status, rd, ck).2.2.2.2.1) (fi, ni) ((f1, n1), (f2, n2), (f3, n3), (f4, n4), at', status, rd, ck)) ++ [progO p rc rn rt, rowW F.1.2.2 rc ac 80 fc nc, rowW F.1.2.2 rn an 80 fn nn, rowW F.1.2.2 ri ai 20 fi ni]) (by simp only [t28_17]; rw [perf_17, if_pos (show  popV (f1, n1) = 0 from c_313)]; rfl) ?_
      exact g_vret hF hR dX5_perform_423 ⟨rfl, rfl⟩
  by_cases t28_18 : rowGet fc nc at' = 18
  · refine g_tableIn (off := 300) (tgt := 328) hF dX5_perform_28 (by rw [t28_18]; decide) (by rw [t28_18]; decide) (by rw [t28_18]; rfl) (by decide) ?_
    refine g_aload_n hF dX5_perform_328 rfl ?_
    refine g_get (j := 2) hF 0 rfl rfl (by decide) rfl m_78 rfl dX5_perform_329 ?_
    refine g_iload hF dX5_perform_332 rfl ?_
    refine g_callVd hF (c_Row_push (by first | omega | exact clampI_le | (split <;> omega)) (by omega)) cal_X4_push rfl m_521 (by decide) (Or.inl rfl) (Nat.zero_le _) (Nat.zero_le _) 3 rfl rfl [3] rfl rfl (Nat.le_of_ble_eq_true rfl) rfl (Nat.le_of_ble_eq_true rfl) dX5_perform_334 ?_
    try dsimp only [gput, gputA, List.set, stGs, List.cons_append, List.nil_append]
    refine g_iload hF dX5_perform_337 rfl ?_
    refine g_istore hF dX5_perform_339 (Nat.le_of_ble_eq_true rfl) rfl ?_
    refine g_goto (tgt := 407) hF dX5_perform_341 (by decide) ?_
    refine g_aload_n hF dX5_perform_407 rfl ?_
    refine g_iload hF dX5_perform_408 rfl ?_
    refine g_put (j := 4) hF 0 rfl rfl (by decide) rfl m_82 rfl (tyX5_ok 4 (by decide)) rfl rfl (Nat.le_of_ble_eq_true rfl) dX5_perform_410 ?_
    try dsimp only [gput, gputA, List.set, stGs, List.cons_append, List.nil_append]
    refine g_aload_n hF dX5_perform_413 rfl ?_
    refine g_dup hF dX5_perform_414 rfl ?_
    refine g_get (j := 7) hF 0 rfl rfl (by decide) rfl m_90 rfl dX5_perform_415 ?_
    refine g_iconst (v := (1)) hF dX5_perform_418 rfl ?_
    refine g_iadd hF dX5_perform_419 ?_
    refine g_put (j := 7) hF 0 rfl rfl (by decide) rfl m_90 rfl (tyX5_ok 7 (by decide)) rfl rfl (Nat.le_of_ble_eq_true rfl) dX5_perform_420 ?_
    try dsimp only [gput, gputA, List.set, stGs, List.cons_append, List.nil_append]
    refine g_regroup (gs' := stGs F.1.2.2 (h, (r1, a1), (r2, a2), (r3, a3), r4, a4) (perfF (rowGet fc nc ((f1, n1), (f2, n2), (f3, n3), (f4, n4), at', status, rd, ck).2.2.2.2.1) (rowGet fn nn ((f1, n1), (f2, n2), (f3, n3), (f4, n4), at', status, rd, ck).2.2.2.2.1) (fi, ni) ((f1, n1), (f2, n2), (f3, n3), (f4, n4), at', status, rd, ck)) ++ [progO p rc rn rt, rowW F.1.2.2 rc ac 80 fc nc, rowW F.1.2.2 rn an 80 fn nn, rowW F.1.2.2 ri ai 20 fi ni]) (by simp only [t28_18]; rfl) ?_
    exact g_vret hF hR dX5_perform_423 ⟨rfl, rfl⟩
  by_cases t28_19 : rowGet fc nc at' = 19
  · refine g_tableIn (off := 316) (tgt := 344) hF dX5_perform_28 (by rw [t28_19]; decide) (by rw [t28_19]; decide) (by rw [t28_19]; rfl) (by decide) ?_
    refine g_aload_n hF dX5_perform_344 rfl ?_
    refine g_get (j := 2) hF 0 rfl rfl (by decide) rfl m_78 rfl dX5_perform_345 ?_
    refine g_callVd hF (c_Row_pop (by first | omega | exact clampI_le | (split <;> omega)) (by omega)) cal_X4_pop rfl m_522 (by decide) (Or.inl rfl) (Nat.zero_le _) (Nat.zero_le _) 3 rfl rfl [3] rfl rfl (Nat.le_of_ble_eq_true rfl) rfl (Nat.le_of_ble_eq_true rfl) dX5_perform_348 ?_
    try dsimp only [gput, gputA, List.set, stGs, List.cons_append, List.nil_append]
    refine g_istore hF dX5_perform_351 (Nat.le_of_ble_eq_true rfl) rfl ?_
    refine g_goto (tgt := 407) hF dX5_perform_353 (by decide) ?_
    refine g_aload_n hF dX5_perform_407 rfl ?_
    refine g_iload hF dX5_perform_408 rfl ?_
    refine g_put (j := 4) hF 0 rfl rfl (by decide) rfl m_82 rfl (tyX5_ok 4 (by decide)) rfl rfl (Nat.le_of_ble_eq_true rfl) dX5_perform_410 ?_
    try dsimp only [gput, gputA, List.set, stGs, List.cons_append, List.nil_append]
    refine g_aload_n hF dX5_perform_413 rfl ?_
    refine g_dup hF dX5_perform_414 rfl ?_
    refine g_get (j := 7) hF 0 rfl rfl (by decide) rfl m_90 rfl dX5_perform_415 ?_
    refine g_iconst (v := (1)) hF dX5_perform_418 rfl ?_
    refine g_iadd hF dX5_perform_419 ?_
    refine g_put (j := 7) hF 0 rfl rfl (by decide) rfl m_90 rfl (tyX5_ok 7 (by decide)) rfl rfl (Nat.le_of_ble_eq_true rfl) dX5_perform_420 ?_
    try dsimp only [gput, gputA, List.set, stGs, List.cons_append, List.nil_append]
    refine g_regroup (gs' := stGs F.1.2.2 (h, (r1, a1), (r2, a2), (r3, a3), r4, a4) (perfF (rowGet fc nc ((f1, n1), (f2, n2), (f3, n3), (f4, n4), at', status, rd, ck).2.2.2.2.1) (rowGet fn nn ((f1, n1), (f2, n2), (f3, n3), (f4, n4), at', status, rd, ck).2.2.2.2.1) (fi, ni) ((f1, n1), (f2, n2), (f3, n3), (f4, n4), at', status, rd, ck)) ++ [progO p rc rn rt, rowW F.1.2.2 rc ac 80 fc nc, rowW F.1.2.2 rn an 80 fn nn, rowW F.1.2.2 ri ai 20 fi ni]) (by simp only [t28_19]; rfl) ?_
    exact g_vret hF hR dX5_perform_423 ⟨rfl, rfl⟩
  by_cases t28_20 : rowGet fc nc at' = 20
  · refine g_tableIn (off := 328) (tgt := 356) hF dX5_perform_28 (by rw [t28_20]; decide) (by rw [t28_20]; decide) (by rw [t28_20]; rfl) (by decide) ?_
    refine g_aload_n hF dX5_perform_356 rfl ?_
    refine g_get (j := 0) hF 0 rfl rfl (by decide) rfl m_73 rfl dX5_perform_357 ?_
    refine g_aload_n hF dX5_perform_360 rfl ?_
    refine g_aload_n hF dX5_perform_361 rfl ?_
    refine g_callVd hF (c_St_readFrom (by omega)) cal_X5_readFrom rfl m_538 (by decide) (Or.inl rfl) (Nat.zero_le _) (Nat.zero_le _) 0 rfl rfl [0, 8] rfl rfl (Nat.le_of_ble_eq_true rfl) rfl (Nat.le_of_ble_eq_true rfl) dX5_perform_362 ?_
    try dsimp only [gput, gputA, List.set, stGs, List.cons_append, List.nil_append]
    refine g_callVd hF (c_Row_push (by first | omega | exact clampI_le | (split <;> omega)) (by omega)) cal_X4_push rfl m_521 (by decide) (Or.inl rfl) (Nat.zero_le _) (Nat.zero_le _) 1 rfl rfl [1] rfl rfl (Nat.le_of_ble_eq_true rfl) rfl (Nat.le_of_ble_eq_true rfl) dX5_perform_365 ?_
    try dsimp only [gput, gputA, List.set, stGs, List.cons_append, List.nil_append]
    refine g_goto (tgt := 407) hF dX5_perform_368 (by decide) ?_
    refine g_aload_n hF dX5_perform_407 rfl ?_
    refine g_iload hF dX5_perform_408 rfl ?_
    refine g_put (j := 4) hF 0 rfl rfl (by decide) rfl m_82 rfl (tyX5_ok 4 (by decide)) rfl rfl (Nat.le_of_ble_eq_true rfl) dX5_perform_410 ?_
    try dsimp only [gput, gputA, List.set, stGs, List.cons_append, List.nil_append]
    refine g_aload_n hF dX5_perform_413 rfl ?_
    refine g_dup hF dX5_perform_414 rfl ?_
    refine g_get (j := 7) hF 0 rfl rfl (by decide) rfl m_90 rfl dX5_perform_415 ?_
    refine g_iconst (v := (1)) hF dX5_perform_418 rfl ?_
    refine g_iadd hF dX5_perform_419 ?_
    refine g_put (j := 7) hF 0 rfl rfl (by decide) rfl m_90 rfl (tyX5_ok 7 (by decide)) rfl rfl (Nat.le_of_ble_eq_true rfl) dX5_perform_420 ?_
    try dsimp only [gput, gputA, List.set, stGs, List.cons_append, List.nil_append]
    refine g_regroup (gs' := stGs F.1.2.2 (h, (r1, a1), (r2, a2), (r3, a3), r4, a4) (perfF (rowGet fc nc ((f1, n1), (f2, n2), (f3, n3), (f4, n4), at', status, rd, ck).2.2.2.2.1) (rowGet fn nn ((f1, n1), (f2, n2), (f3, n3), (f4, n4), at', status, rd, ck).2.2.2.2.1) (fi, ni) ((f1, n1), (f2, n2), (f3, n3), (f4, n4), at', status, rd, ck)) ++ [progO p rc rn rt, rowW F.1.2.2 rc ac 80 fc nc, rowW F.1.2.2 rn an 80 fn nn, rowW F.1.2.2 ri ai 20 fi ni]) (by simp only [t28_20]; rfl) ?_
    exact g_vret hF hR dX5_perform_423 ⟨rfl, rfl⟩
  by_cases t28_21 : rowGet fc nc at' = 21
  · refine g_tableIn (off := 343) (tgt := 371) hF dX5_perform_28 (by rw [t28_21]; decide) (by rw [t28_21]; decide) (by rw [t28_21]; rfl) (by decide) ?_
    refine g_aload_n hF dX5_perform_371 rfl ?_
    refine g_get (j := 3) hF 0 rfl rfl (by decide) rfl m_80 rfl dX5_perform_372 ?_
    refine g_aload_n hF dX5_perform_375 rfl ?_
    refine g_get (j := 0) hF 0 rfl rfl (by decide) rfl m_73 rfl dX5_perform_376 ?_
    refine g_callVd hF (c_Row_pop (by first | omega | exact clampI_le | (split <;> omega)) (by omega)) cal_X4_pop rfl m_522 (by decide) (Or.inl rfl) (Nat.zero_le _) (Nat.zero_le _) 1 rfl rfl [1] rfl rfl (Nat.le_of_ble_eq_true rfl) rfl (Nat.le_of_ble_eq_true rfl) dX5_perform_379 ?_
    try dsimp only [gput, gputA, List.set, stGs, List.cons_append, List.nil_append]
    refine g_callVd hF (c_Row_push (by first | omega | exact clampI_le | (split <;> omega)) (by omega)) cal_X4_push rfl m_521 (by decide) (Or.inl rfl) (Nat.zero_le _) (Nat.zero_le _) 4 rfl rfl [4] rfl rfl (Nat.le_of_ble_eq_true rfl) rfl (Nat.le_of_ble_eq_true rfl) dX5_perform_382 ?_
    try dsimp only [gput, gputA, List.set, stGs, List.cons_append, List.nil_append]
    refine g_goto (tgt := 407) hF dX5_perform_385 (by decide) ?_
    refine g_aload_n hF dX5_perform_407 rfl ?_
    refine g_iload hF dX5_perform_408 rfl ?_
    refine g_put (j := 4) hF 0 rfl rfl (by decide) rfl m_82 rfl (tyX5_ok 4 (by decide)) rfl rfl (Nat.le_of_ble_eq_true rfl) dX5_perform_410 ?_
    try dsimp only [gput, gputA, List.set, stGs, List.cons_append, List.nil_append]
    refine g_aload_n hF dX5_perform_413 rfl ?_
    refine g_dup hF dX5_perform_414 rfl ?_
    refine g_get (j := 7) hF 0 rfl rfl (by decide) rfl m_90 rfl dX5_perform_415 ?_
    refine g_iconst (v := (1)) hF dX5_perform_418 rfl ?_
    refine g_iadd hF dX5_perform_419 ?_
    refine g_put (j := 7) hF 0 rfl rfl (by decide) rfl m_90 rfl (tyX5_ok 7 (by decide)) rfl rfl (Nat.le_of_ble_eq_true rfl) dX5_perform_420 ?_
    try dsimp only [gput, gputA, List.set, stGs, List.cons_append, List.nil_append]
    refine g_regroup (gs' := stGs F.1.2.2 (h, (r1, a1), (r2, a2), (r3, a3), r4, a4) (perfF (rowGet fc nc ((f1, n1), (f2, n2), (f3, n3), (f4, n4), at', status, rd, ck).2.2.2.2.1) (rowGet fn nn ((f1, n1), (f2, n2), (f3, n3), (f4, n4), at', status, rd, ck).2.2.2.2.1) (fi, ni) ((f1, n1), (f2, n2), (f3, n3), (f4, n4), at', status, rd, ck)) ++ [progO p rc rn rt, rowW F.1.2.2 rc ac 80 fc nc, rowW F.1.2.2 rn an 80 fn nn, rowW F.1.2.2 ri ai 20 fi ni]) (by simp only [t28_21]; rfl) ?_
    exact g_vret hF hR dX5_perform_423 ⟨rfl, rfl⟩
  by_cases t28_22 : rowGet fc nc at' = 22
  · refine g_tableIn (off := 360) (tgt := 388) hF dX5_perform_28 (by rw [t28_22]; decide) (by rw [t28_22]; decide) (by rw [t28_22]; rfl) (by decide) ?_
    refine g_aload_n hF dX5_perform_388 rfl ?_
    refine g_iconst (v := (1)) hF dX5_perform_389 rfl ?_
    refine g_put (j := 5) hF 0 rfl rfl (by decide) rfl m_85 rfl (tyX5_ok 5 (by decide)) rfl rfl (Nat.le_of_ble_eq_true rfl) dX5_perform_390 ?_
    try dsimp only [gput, gputA, List.set, stGs, List.cons_append, List.nil_append]
    refine g_aload_n hF dX5_perform_393 rfl ?_
    refine g_get (j := 4) hF 0 rfl rfl (by decide) rfl m_82 rfl dX5_perform_394 ?_
    refine g_istore hF dX5_perform_397 (Nat.le_of_ble_eq_true rfl) rfl ?_
    refine g_goto (tgt := 407) hF dX5_perform_399 (by decide) ?_
    refine g_aload_n hF dX5_perform_407 rfl ?_
    refine g_iload hF dX5_perform_408 rfl ?_
    refine g_put (j := 4) hF 0 rfl rfl (by decide) rfl m_82 rfl (tyX5_ok 4 (by decide)) rfl rfl (Nat.le_of_ble_eq_true rfl) dX5_perform_410 ?_
    try dsimp only [gput, gputA, List.set, stGs, List.cons_append, List.nil_append]
    refine g_aload_n hF dX5_perform_413 rfl ?_
    refine g_dup hF dX5_perform_414 rfl ?_
    refine g_get (j := 7) hF 0 rfl rfl (by decide) rfl m_90 rfl dX5_perform_415 ?_
    refine g_iconst (v := (1)) hF dX5_perform_418 rfl ?_
    refine g_iadd hF dX5_perform_419 ?_
    refine g_put (j := 7) hF 0 rfl rfl (by decide) rfl m_90 rfl (tyX5_ok 7 (by decide)) rfl rfl (Nat.le_of_ble_eq_true rfl) dX5_perform_420 ?_
    try dsimp only [gput, gputA, List.set, stGs, List.cons_append, List.nil_append]
    refine g_regroup (gs' := stGs F.1.2.2 (h, (r1, a1), (r2, a2), (r3, a3), r4, a4) (perfF (rowGet fc nc ((f1, n1), (f2, n2), (f3, n3), (f4, n4), at', status, rd, ck).2.2.2.2.1) (rowGet fn nn ((f1, n1), (f2, n2), (f3, n3), (f4, n4), at', status, rd, ck).2.2.2.2.1) (fi, ni) ((f1, n1), (f2, n2), (f3, n3), (f4, n4), at', status, rd, ck)) ++ [progO p rc rn rt, rowW F.1.2.2 rc ac 80 fc nc, rowW F.1.2.2 rn an 80 fn nn, rowW F.1.2.2 ri ai 20 fi ni]) (by simp only [t28_22]; rfl) ?_
    exact g_vret hF hR dX5_perform_423 ⟨rfl, rfl⟩
  refine g_tableOut (tgt := 402) hF dX5_perform_28 (by have z0 := lv_neT t28_0 (a := 0) rfl; have z1 := lv_neT t28_1 (a := 1) rfl; have z2 := lv_neT t28_2 (a := 2) rfl; have z3 := lv_neT t28_3 (a := 3) rfl; have z4 := lv_neT t28_4 (a := 4) rfl; have z5 := lv_neT t28_5 (a := 5) rfl; have z6 := lv_neT t28_6 (a := 6) rfl; have z7 := lv_neT t28_7 (a := 7) rfl; have z8 := lv_neT t28_8 (a := 8) rfl; have z9 := lv_neT t28_9 (a := 9) rfl; have z10 := lv_neT t28_10 (a := 10) rfl; have z11 := lv_neT t28_11 (a := 11) rfl; have z12 := lv_neT t28_12 (a := 12) rfl; have z13 := lv_neT t28_13 (a := 13) rfl; have z14 := lv_neT t28_14 (a := 14) rfl; have z15 := lv_neT t28_15 (a := 15) rfl; have z16 := lv_neT t28_16 (a := 16) rfl; have z17 := lv_neT t28_17 (a := 17) rfl; have z18 := lv_neT t28_18 (a := 18) rfl; have z19 := lv_neT t28_19 (a := 19) rfl; have z20 := lv_neT t28_20 (a := 20) rfl; have z21 := lv_neT t28_21 (a := 21) rfl; have z22 := lv_neT t28_22 (a := 22) rfl; omega) (by decide) ?_
  refine g_aload_n hF dX5_perform_402 rfl ?_
  refine g_iload_n hF dX5_perform_403 rfl ?_
  refine g_callVd hF (c_St_reckon (by omega)) cal_X5_reckon rfl m_543 (by decide) (Or.inl rfl) (Nat.zero_le _) (Nat.zero_le _) 0 rfl rfl [0, 1] rfl rfl (Nat.le_of_ble_eq_true rfl) rfl (Nat.le_of_ble_eq_true rfl) dX5_perform_404 ?_
  try dsimp only [gput, gputA, List.set, stGs, List.cons_append, List.nil_append]
  refine g_aload_n hF dX5_perform_407 rfl ?_
  refine g_iload hF dX5_perform_408 rfl ?_
  refine g_put (j := 4) hF 0 rfl rfl (by decide) rfl m_82 rfl (tyX5_ok 4 (by decide)) rfl rfl (Nat.le_of_ble_eq_true rfl) dX5_perform_410 ?_
  try dsimp only [gput, gputA, List.set, stGs, List.cons_append, List.nil_append]
  refine g_aload_n hF dX5_perform_413 rfl ?_
  refine g_dup hF dX5_perform_414 rfl ?_
  refine g_get (j := 7) hF 0 rfl rfl (by decide) rfl m_90 rfl dX5_perform_415 ?_
  refine g_iconst (v := (1)) hF dX5_perform_418 rfl ?_
  refine g_iadd hF dX5_perform_419 ?_
  refine g_put (j := 7) hF 0 rfl rfl (by decide) rfl m_90 rfl (tyX5_ok 7 (by decide)) rfl rfl (Nat.le_of_ble_eq_true rfl) dX5_perform_420 ?_
  try dsimp only [gput, gputA, List.set, stGs, List.cons_append, List.nil_append]
  refine g_regroup (gs' := stGs F.1.2.2 (h, (r1, a1), (r2, a2), (r3, a3), r4, a4) (perfF (rowGet fc nc ((f1, n1), (f2, n2), (f3, n3), (f4, n4), at', status, rd, ck).2.2.2.2.1) (rowGet fn nn ((f1, n1), (f2, n2), (f3, n3), (f4, n4), at', status, rd, ck).2.2.2.2.1) (fi, ni) ((f1, n1), (f2, n2), (f3, n3), (f4, n4), at', status, rd, ck)) ++ [progO p rc rn rt, rowW F.1.2.2 rc ac 80 fc nc, rowW F.1.2.2 rn an 80 fn nn, rowW F.1.2.2 ri ai 20 fi ni]) (by simp only [perfF, eq_false t28_0, eq_false t28_1, eq_false t28_2, eq_false t28_3, eq_false t28_4, eq_false t28_11, eq_false t28_12, eq_false t28_13, eq_false t28_14, eq_false t28_15, eq_false t28_16, eq_false t28_17, eq_false t28_18, eq_false t28_19, eq_false t28_20, eq_false t28_21, eq_false t28_22, if_false]; rfl) ?_
  exact g_vret hF hR dX5_perform_423 ⟨rfl, rfl⟩
end
section
/-! Past: a row of 200 moments, of which the first cnt are told (here the ring never turns: first is 0) -/
def pastO (h ma cnt : Nat) : va_W := [(h, .inr (1, [.ref ma, .int 0, .int (nI cnt)]))]
def adF (ad : Nat → Nat) (N : Nat) : Nat → Option Nat := fun j => if j < N then some (ad j) else none
def arrM (cy : Nat → ClassId) (ma : Nat) (ad : Nat → Nat) : va_W := [(ma, .inl (cy 1, 200, .inr (.inr (.inr (.inr (adF ad 200))))))]
def momsR (ad : Nat → Nat) (M : Nat → Nat → Int32) (lo n : Nat) : va_W := ((List.range' lo n).map (fun j => momO (ad j) (M j))).flatten
def momsW (ad : Nat → Nat) (M : Nat → Nat → Int32) : va_W := momsR ad M 0 200
def updM (M : Nat → Nat → Int32) (k : Nat) (μ : Nat → Int32) : Nat → Nat → Int32 := fun j => if j = k then μ else M j
theorem momsR_app (ad : Nat → Nat) (M : Nat → Nat → Int32) (lo n m : Nat) : momsR ad M lo (n + m) = momsR ad M lo n ++ momsR ad M (lo + n) m := by
  unfold momsR
  rw [← List.range'_append_1, List.map_append, List.flatten_append]
theorem momsR_one (ad : Nat → Nat) (M : Nat → Nat → Int32) (lo : Nat) : momsR ad M lo 1 = momO (ad lo) (M lo) := by simp [momsR]
theorem momsR_congr {ad : Nat → Nat} {M M' : Nat → Nat → Int32} {lo n : Nat} (h : ∀ j, lo ≤ j → j < lo + n → M j = M' j) : momsR ad M lo n = momsR ad M' lo n := by
  unfold momsR
  congr 1
  apply List.map_congr_left
  intro j hj
  have := List.mem_range'_1.mp hj
  rw [h j (by omega) (by omega)]
theorem mom_split {ad : Nat → Nat} {M : Nat → Nat → Int32} {k : Nat} (hk : k < 200) : momsW ad M = momsR ad M 0 k ++ (momO (ad k) (M k) ++ momsR ad M (k + 1) (199 - k)) := by
  unfold momsW
  rw [show 200 = k + (1 + (199 - k)) by omega, momsR_app, momsR_app, momsR_one, Nat.zero_add]
theorem mom_join {ad : Nat → Nat} {M : Nat → Nat → Int32} {k : Nat} {μ : Nat → Int32} (hk : k < 200) : momsR ad M 0 k ++ (momO (ad k) μ ++ momsR ad M (k + 1) (199 - k)) = momsW ad (updM M k μ) := by
  rw [mom_split hk]
  rw [momsR_congr (M := M) (M' := updM M k μ) (lo := 0) (fun j _ h2 => by unfold updM; rw [if_neg (by omega)]), momsR_congr (M := M) (M' := updM M k μ) (lo := k + 1) (fun j h1 _ => by unfold updM; rw [if_neg (by omega)])]
  simp [updM]
theorem idx_ago {cnt j : Nat} (h1 : cnt ≤ 200) (h2 : 1 ≤ j) (h3 : j ≤ cnt) : (0 + nI cnt - nI j) - (0 + nI cnt - nI j) / 200 * 200 = nI (cnt - j) := by
  have e0 : (0 : Int32) + nI cnt = nI cnt := by rw [← nI_0, nI_add, Nat.zero_add]
  rw [e0, pk_sub h3, show (200 : Int32) = nI 200 from rfl, pk_rem (by omega) (by omega) (by decide), Nat.mod_eq_of_lt (by omega)]
theorem idx_new {cnt : Nat} (h1 : cnt < 200) : (0 + (nI cnt + 1) - 1) - (0 + (nI cnt + 1) - 1) / 200 * 200 = nI cnt := by
  have e0 : (0 : Int32) + (nI cnt + 1) = nI (cnt + 1) := by rw [← nI_0, nI_1, nI_add, Nat.zero_add]
  rw [e0, nI_pred, show (200 : Int32) = nI 200 from rfl, pk_rem (by omega) (by omega) (by decide), Nat.mod_eq_of_lt (by omega)]
theorem adF_in {ad : Nat → Nat} {N k : Nat} {x : Int32} (e : x = nI k) (hk : k < N) (hN : N < 2 ^ 31) : adF ad N x.toNatClampNeg = some (ad k) := by
  rw [e, nI_clamp (by omega)]
  unfold adF
  rw [if_pos hk]
def cellAgoF (M : Nat → Nat → Int32) (cnt : Nat) (c : Int32) : Nat → Int32 → Int32
  | 0, now => now
  | k + 1, now => if M (cnt - (k + 1)) 8 = c then M (cnt - (k + 1)) 9 else cellAgoF M cnt c k now
def storedD (M : Nat → Nat → Int32) (cnt : Nat) (c : Int32) : Nat → Int32
  | 0 => 0
  | d + 1 => if M d 8 = c then nI (cnt - d) else storedD M cnt c d
def stepsF (M : Nat → Nat → Int32) (f : Nat → Int32) (i : Nat) : Nat → Int32 := fun j => if j < i then M j 0 else f j
set_option maxHeartbeats 4000000 in
set_option maxRecDepth 100000 in
theorem c_Past_size {E : Env3} {h ma cnt : Nat}  : Cd E none 0 yX1_size cX1_size 1 (some .int) [.ref h] [pastO h ma cnt] (some (.int (nI cnt))) [pastO h ma cnt] := by
  refine Ct.of [some (.ref h)] (by decide +kernel) rfl (Nat.le_of_ble_eq_true rfl) (fun F hE hF hR hN => ?_)
  subst hE
  refine g_aload_n hF dX1_size_0 rfl ?_
  refine g_get (j := 2) hF 0 rfl rfl (by decide) rfl m_169 rfl dX1_size_1 ?_
  exact g_iret hF hR dX1_size_4 ⟨rfl, rfl⟩
set_option maxHeartbeats 4000000 in
set_option maxRecDepth 100000 in
theorem c_Past_clear {E : Env3} {h ma cnt : Nat}  : Cd E none 0 yX1_clear cX1_clear 1 none [.ref h] [pastO h ma cnt] none [pastO h ma 0] := by
  refine Ct.of [some (.ref h)] (by decide +kernel) rfl (Nat.le_of_ble_eq_true rfl) (fun F hE hF hR hN => ?_)
  subst hE
  refine g_aload_n hF dX1_clear_0 rfl ?_
  refine g_iconst (v := (0)) hF dX1_clear_1 rfl ?_
  refine g_put (j := 1) hF 0 rfl rfl (by decide) rfl m_168 rfl (tyX1_ok 1 (by decide)) rfl rfl (Nat.le_of_ble_eq_true rfl) dX1_clear_2 ?_
  try dsimp only [gput, gputA, List.set, stGs, List.cons_append, List.nil_append]
  refine g_aload_n hF dX1_clear_5 rfl ?_
  refine g_iconst (v := (0)) hF dX1_clear_6 rfl ?_
  refine g_put (j := 2) hF 0 rfl rfl (by decide) rfl m_169 rfl (tyX1_ok 2 (by decide)) rfl rfl (Nat.le_of_ble_eq_true rfl) dX1_clear_7 ?_
  try dsimp only [gput, gputA, List.set, stGs, List.cons_append, List.nil_append]
  exact g_vret hF hR dX1_clear_10 ⟨rfl, rfl⟩
set_option maxHeartbeats 4000000 in
set_option maxRecDepth 100000 in
theorem c_Past_newest {E : Env3} {h ma cnt : Nat} {ad : Nat → Nat} (hc : cnt < 200) : Cd E none 0 yX1_newest cX1_newest 1 (some (.object "Lantern$Moment")) [.ref h] [pastO h ma cnt, arrM E.2.2 ma ad] (some (.ref (ad cnt))) [pastO h ma (cnt + 1), arrM E.2.2 ma ad] := by
  refine Ct.of [some (.ref h)] (by decide +kernel) rfl (Nat.le_of_ble_eq_true rfl) (fun F hE hF hR hN => ?_)
  subst hE
  refine g_aload_n hF dX1_newest_0 rfl ?_
  refine g_get (j := 2) hF 0 rfl rfl (by decide) rfl m_169 rfl dX1_newest_1 ?_
  refine g_sipush (v := (200)) hF dX1_newest_4 rfl ?_
  refine g_icmp_ge (tgt := 23) hF dX1_newest_7 (by decide) (fun c_7 => absurd c_7 (nI_ge hc (by decide))) (fun c_7 => ?_)
  refine g_aload_n hF dX1_newest_10 rfl ?_
  refine g_dup hF dX1_newest_11 rfl ?_
  refine g_get (j := 2) hF 0 rfl rfl (by decide) rfl m_169 rfl dX1_newest_12 ?_
  refine g_iconst (v := (1)) hF dX1_newest_15 rfl ?_
  refine g_iadd hF dX1_newest_16 ?_
  refine g_put (j := 2) hF 0 rfl rfl (by decide) rfl m_169 rfl (tyX1_ok 2 (by decide)) rfl rfl (Nat.le_of_ble_eq_true rfl) dX1_newest_17 ?_
  try dsimp only [gput, gputA, List.set, stGs, List.cons_append, List.nil_append]
  refine g_goto (tgt := 37) hF dX1_newest_20 (by decide) ?_
  refine g_aload_n hF dX1_newest_37 rfl ?_
  refine g_get (j := 0) hF 0 rfl rfl (by decide) rfl m_167 rfl dX1_newest_38 ?_
  refine g_aload_n hF dX1_newest_41 rfl ?_
  refine g_get (j := 1) hF 0 rfl rfl (by decide) rfl m_168 rfl dX1_newest_42 ?_
  refine g_aload_n hF dX1_newest_45 rfl ?_
  refine g_get (j := 2) hF 0 rfl rfl (by decide) rfl m_169 rfl dX1_newest_46 ?_
  refine g_iadd hF dX1_newest_49 ?_
  refine g_iconst (v := (1)) hF dX1_newest_50 rfl ?_
  refine g_isub hF dX1_newest_51 ?_
  refine g_sipush (v := (200)) hF dX1_newest_52 rfl ?_
  refine g_irem hF dX1_newest_55 (by decide) ?_
  rw [idx_new hc]
  refine g_aald hF rfl 1 1 rfl rfl (vp_in_nI (by omega) (by decide)) (adF_in rfl (by omega) (by decide)) dX1_newest_56 ?_
  refine g_regroup (gs' := [pastO h ma (cnt + 1), arrM F.1.2.2 ma ad]) (by simp only [pastO, nI_succ] <;> rfl) ?_
  exact g_aret hF hR (Or.inl ⟨_, rfl⟩) (Or.inr ⟨_, rfl⟩) dX1_newest_57 ⟨rfl, rfl⟩
set_option maxHeartbeats 4000000 in
set_option maxRecDepth 100000 in
theorem c_Past_dropLatest {E : Env3} {h ma cnt : Nat} (hc : 0 < cnt) (hc2 : cnt ≤ 200) : Cd E none 0 yX1_dropLatest cX1_dropLatest 1 none [.ref h] [pastO h ma cnt] none [pastO h ma (cnt - 1)] := by
  refine Ct.of [some (.ref h)] (by decide +kernel) rfl (Nat.le_of_ble_eq_true rfl) (fun F hE hF hR hN => ?_)
  subst hE
  refine g_aload_n hF dX1_dropLatest_0 rfl ?_
  refine g_get (j := 2) hF 0 rfl rfl (by decide) rfl m_169 rfl dX1_dropLatest_1 ?_
  refine g_if_le (tgt := 17) hF dX1_dropLatest_4 (by decide) (fun c_4 => absurd c_4 (nI_nle hc (by omega))) (fun c_4 => ?_)
  refine g_aload_n hF dX1_dropLatest_7 rfl ?_
  refine g_dup hF dX1_dropLatest_8 rfl ?_
  refine g_get (j := 2) hF 0 rfl rfl (by decide) rfl m_169 rfl dX1_dropLatest_9 ?_
  refine g_iconst (v := (1)) hF dX1_dropLatest_12 rfl ?_
  refine g_isub hF dX1_dropLatest_13 ?_
  refine g_put (j := 2) hF 0 rfl rfl (by decide) rfl m_169 rfl (tyX1_ok 2 (by decide)) rfl rfl (Nat.le_of_ble_eq_true rfl) dX1_dropLatest_14 ?_
  try dsimp only [gput, gputA, List.set, stGs, List.cons_append, List.nil_append]
  refine g_regroup (gs' := [pastO h ma (cnt - 1)]) (by rw [show nI cnt - 1 = nI (cnt - 1) from by obtain ⟨z1, rfl⟩ : ∃ z1, cnt = z1 + 1 := ⟨cnt - 1, by omega⟩; exact nI_pred z1]; rfl) ?_
  exact g_vret hF hR dX1_dropLatest_17 ⟨rfl, rfl⟩
set_option maxHeartbeats 4000000 in
set_option maxRecDepth 100000 in
theorem c_Past_ago {E : Env3} {h ma cnt : Nat} {ad : Nat → Nat} {j : Nat} (hc : cnt ≤ 200) (h1 : 1 ≤ j) (h2 : j ≤ cnt)  : Cd E none 0 yX1_ago cX1_ago 2 (some (.object "Lantern$Moment")) [.ref h, .int (nI j)] [pastO h ma cnt, arrM E.2.2 ma ad] (some (.ref (ad (cnt - j)))) [pastO h ma cnt, arrM E.2.2 ma ad] := by
  refine Ct.of [some (.ref h), some (.int (nI j))] (by decide +kernel) rfl (Nat.le_of_ble_eq_true rfl) (fun F hE hF hR hN => ?_)
  subst hE
  refine g_iload_n hF dX1_ago_0 rfl ?_
  refine g_iconst (v := (1)) hF dX1_ago_1 rfl ?_
  refine g_icmp_lt (tgt := 36) hF dX1_ago_2 (by decide) (fun c_2 => absurd c_2 (fun y => absurd ((nI_ltI (a := j) (b := 1) (by omega) (by decide)).mp y) (by omega))) (fun c_2 => ?_)
  refine g_iload_n hF dX1_ago_5 rfl ?_
  refine g_aload_n hF dX1_ago_6 rfl ?_
  refine g_get (j := 2) hF 0 rfl rfl (by decide) rfl m_169 rfl dX1_ago_7 ?_
  refine g_icmp_gt (tgt := 36) hF dX1_ago_10 (by decide) (fun c_10 => absurd c_10 (fun y => absurd ((nI_ltI (a := cnt) (b := j) (by omega) (by omega)).mp y) (by omega))) (fun c_10 => ?_)
  refine g_aload_n hF dX1_ago_13 rfl ?_
  refine g_get (j := 0) hF 0 rfl rfl (by decide) rfl m_167 rfl dX1_ago_14 ?_
  refine g_aload_n hF dX1_ago_17 rfl ?_
  refine g_get (j := 1) hF 0 rfl rfl (by decide) rfl m_168 rfl dX1_ago_18 ?_
  refine g_aload_n hF dX1_ago_21 rfl ?_
  refine g_get (j := 2) hF 0 rfl rfl (by decide) rfl m_169 rfl dX1_ago_22 ?_
  refine g_iadd hF dX1_ago_25 ?_
  refine g_iload_n hF dX1_ago_26 rfl ?_
  refine g_isub hF dX1_ago_27 ?_
  refine g_sipush (v := (200)) hF dX1_ago_28 rfl ?_
  refine g_irem hF dX1_ago_31 (by decide) ?_
  rw [idx_ago hc h1 h2]
  refine g_aald hF rfl 1 1 rfl rfl (vp_in_nI (by omega) (by decide)) (adF_in rfl (by omega) (by decide)) dX1_ago_32 ?_
  refine g_goto (tgt := 37) hF dX1_ago_33 (by decide) ?_
  exact g_aret hF hR (Or.inl ⟨_, rfl⟩) (Or.inr ⟨_, rfl⟩) dX1_ago_37 ⟨rfl, rfl⟩
set_option maxHeartbeats 4000000 in
set_option maxRecDepth 100000 in
theorem c_Past_ago0 {E : Env3} {h ma cnt : Nat} {ad : Nat → Nat}  : Cd E none 0 yX1_ago cX1_ago 2 (some (.object "Lantern$Moment")) [.ref h, .int 0] [pastO h ma cnt, arrM E.2.2 ma ad] (some .null) [pastO h ma cnt, arrM E.2.2 ma ad] := by
  refine Ct.of [some (.ref h), some (.int 0)] (by decide +kernel) rfl (Nat.le_of_ble_eq_true rfl) (fun F hE hF hR hN => ?_)
  subst hE
  refine g_iload_n hF dX1_ago_0 rfl ?_
  refine g_iconst (v := (1)) hF dX1_ago_1 rfl ?_
  refine g_icmp_lt (tgt := 36) hF dX1_ago_2 (by decide) (fun c_2 => ?_) (fun c_2 => absurd (by decide) c_2)
  refine g_null hF dX1_ago_36 ?_
  exact g_aret hF hR (Or.inl ⟨_, rfl⟩) (Or.inl rfl) dX1_ago_37 ⟨rfl, rfl⟩
set_option maxHeartbeats 4000000 in
set_option maxRecDepth 100000 in
theorem c_Past_stepAt {E : Env3} {h ma cnt : Nat} {ad : Nat → Nat} {M : Nat → Nat → Int32} {j : Nat} (hc : cnt ≤ 200) (h1 : j < cnt)  : Cd E none 1 yX1_stepAt cX1_stepAt 3 (some .int) [.ref h, .int (nI j)] [pastO h ma cnt, arrM E.2.2 ma ad, momsW ad M] (some (.int (M j 0))) [pastO h ma cnt, arrM E.2.2 ma ad, momsW ad M] := by
  refine Ct.of [some (.ref h), some (.int (nI j)), none] (by decide +kernel) rfl (Nat.le_of_ble_eq_true rfl) (fun F hE hF hR hN => ?_)
  subst hE
  refine g_aload_n hF dX1_stepAt_0 rfl ?_
  refine g_aload_n hF dX1_stepAt_1 rfl ?_
  refine g_get (j := 2) hF 0 rfl rfl (by decide) rfl m_169 rfl dX1_stepAt_2 ?_
  refine g_iload_n hF dX1_stepAt_5 rfl ?_
  refine g_isub hF dX1_stepAt_6 ?_
  rw [pk_sub (show j ≤ cnt by omega)]
  refine g_callVq hF (c_Past_ago (cnt := cnt) (j := cnt - j) (by omega) (by omega) (by omega)) cal_X1_ago rfl m_685 (by decide) (Or.inl rfl) (Nat.zero_le _) (Nat.zero_le _) 0 rfl rfl [0, 1] rfl rfl rfl (Nat.le_of_ble_eq_true rfl) dX1_stepAt_7 ?_
  rw [show cnt - (cnt - j) = j by omega]
  refine g_astore_n hF dX1_stepAt_10 (Nat.le_of_ble_eq_true rfl) rfl ?_
  refine g_aload_n hF dX1_stepAt_11 rfl ?_
  refine g_ifnonnull (tgt := 19) hF dX1_stepAt_12 (by decide) ?_
  refine g_aload_n hF dX1_stepAt_19 rfl ?_
  refine g_regroup (gs' := [pastO h ma cnt, arrM F.1.2.2 ma ad, momsR ad M 0 (j), momO (ad (j)) (M j), momsR ad M (j + 1) (199 - (j))]) (by simp only [List.flatten_cons, List.flatten_nil, mom_split (show j < 200 by omega), List.append_assoc, List.append_nil]) ?_
  refine g_getN (j := 0) hF 3 rfl rfl (by decide) rfl m_123 rfl dX1_stepAt_20 ?_
  refine g_regroup (gs' := [pastO h ma cnt, arrM F.1.2.2 ma ad, momsW ad M]) (by simp only [List.flatten_cons, List.flatten_nil, mom_split (show j < 200 by omega), List.append_assoc, List.append_nil]) ?_
  exact g_iret hF hR dX1_stepAt_23 ⟨rfl, rfl⟩
theorem g_forget1 {F : Fix} {k n pc : Nat} {gs : List va_W} {lv : List (Option Value)} {st : List Value} (j : Nat) (kk : G F k n gs pc (lv.set j none) st) : G F k n gs pc lv st := by
  refine g_forget (lv' := lv.set j none) (by rw [List.length_set]) (fun i v h => ?_) kk
  by_cases e : i = j
  · subst e
    by_cases hl : i < lv.length
    · rw [List.getElem?_set_self hl] at h; cases h
    · rw [List.getElem?_eq_none (by rw [List.length_set]; omega)] at h; cases h
  · rwa [List.getElem?_set_ne (Ne.symm e)] at h
theorem stepsF_succ (M : Nat → Nat → Int32) (f : Nat → Int32) (i : Nat) : upd (stepsF M f i) i (M i 0) = stepsF M f (i + 1) := by
  funext j
  unfold upd stepsF
  by_cases h : j = i
  · simp [h]
  · by_cases h2 : j < i
    · simp [h, h2, show j < i + 1 by omega]
    · simp [h, h2, show ¬ j < i + 1 by omega]
theorem stepsF_0 (M : Nat → Nat → Int32) (f : Nat → Int32) : stepsF M f 0 = f := by funext j; simp [stepsF]
set_option maxHeartbeats 4000000 in
set_option maxRecDepth 100000 in
theorem c_Past_cellAgo {E : Env3} {h ma cnt : Nat} {ad : Nat → Nat} {M : Nat → Nat → Int32} {c now : Int32} {g : Nat} (hc : cnt ≤ 200) (hg : g ≤ cnt)  : Cd E none 1 yX1_cellAgo cX1_cellAgo 7 (some .int) [.ref h, .int c, .int (nI g), .int now] [pastO h ma cnt, arrM E.2.2 ma ad, momsW ad M] (some (.int (cellAgoF M cnt c g now))) [pastO h ma cnt, arrM E.2.2 ma ad, momsW ad M] := by
  refine Ct.of [some (.ref h), some (.int c), some (.int (nI g)), some (.int now), none, none, none] (by decide +kernel) rfl (Nat.le_of_ble_eq_true rfl) (fun F hE hF hR hN => ?_)
  subst hE
  have loop : ∀ i, i ≤ g → G F 0 0 [pastO h ma cnt, arrM F.1.2.2 ma ad, momsW ad M] 6 [some (.ref h), some (.int c), some (.int (nI g)), some (.int now), some (.int (cellAgoF M cnt c i now)), some (.int (nI (i + 1))), none] [] := by
    refine up_loop (Q := fun i => G F 0 0 [pastO h ma cnt, arrM F.1.2.2 ma ad, momsW ad M] 6 [some (.ref h), some (.int c), some (.int (nI g)), some (.int now), some (.int (cellAgoF M cnt c i now)), some (.int (nI (i + 1))), none] []) ?_ (fun i hi ih => ?_)
    · refine g_iload hF dX1_cellAgo_6 rfl ?_
      refine g_iload_n hF dX1_cellAgo_8 rfl ?_
      refine g_icmp_gt (tgt := 47) hF dX1_cellAgo_9 (by decide) (fun c_9 => ?_) (fun c_9 => absurd ((nI_ltI (by omega) (by omega)).mpr (Nat.lt_succ_self g)) c_9)
      refine g_iload hF dX1_cellAgo_47 rfl ?_
      exact g_iret hF hR dX1_cellAgo_49 ⟨rfl, rfl⟩
    · refine g_iload hF dX1_cellAgo_6 rfl ?_
      refine g_iload_n hF dX1_cellAgo_8 rfl ?_
      refine g_icmp_gt (tgt := 47) hF dX1_cellAgo_9 (by decide) (fun c_9 => absurd c_9 (fun y => absurd ((nI_ltI (a := g) (b := i + 1) (by omega) (by omega)).mp y) (by omega))) (fun c_9 => ?_)
      refine g_aload_n hF dX1_cellAgo_12 rfl ?_
      refine g_iload hF dX1_cellAgo_13 rfl ?_
      refine g_callVq hF (c_Past_ago (cnt := cnt) (j := (i + 1)) (by omega) (by omega) (by omega)) cal_X1_ago rfl m_685 (by decide) (Or.inl rfl) (Nat.zero_le _) (Nat.zero_le _) 0 rfl rfl [0, 1] rfl rfl rfl (Nat.le_of_ble_eq_true rfl) dX1_cellAgo_15 ?_
      refine g_astore hF dX1_cellAgo_18 (Nat.le_of_ble_eq_true rfl) rfl ?_
      refine g_aload hF dX1_cellAgo_20 rfl ?_
      refine g_ifnull hF dX1_cellAgo_22 ?_
      refine g_regroup (gs' := [pastO h ma cnt, arrM F.1.2.2 ma ad, momsR ad M 0 (cnt - (i + 1)), momO (ad (cnt - (i + 1))) (M (cnt - (i + 1))), momsR ad M (cnt - (i + 1) + 1) (199 - (cnt - (i + 1)))]) (by simp only [List.flatten_cons, List.flatten_nil, mom_split (show cnt - (i + 1) < 200 by omega), List.append_assoc, List.append_nil]) ?_
      refine g_aload hF dX1_cellAgo_25 rfl ?_
      refine g_getN (j := 8) hF 3 rfl rfl (by decide) rfl m_137 rfl dX1_cellAgo_27 ?_
      refine g_iload_n hF dX1_cellAgo_30 rfl ?_
      refine g_icmp_ne (tgt := 41) hF dX1_cellAgo_31 (by decide) (fun c_31 => ?_) (fun c_31 => ?_)
      · refine g_iinc (v := nI (i + 1 + 1)) hF dX1_cellAgo_41 rfl (nI_1 (i + 1)) rfl ?_
        refine g_goto (tgt := 6) hF dX1_cellAgo_44 (by decide) ?_
        refine g_forget1 6 ?_
        try dsimp only [gput, gputA, List.set, stGs, List.cons_append, List.nil_append]
        refine g_regroup (gs' := [pastO h ma cnt, arrM F.1.2.2 ma ad, momsW ad M]) (by simp only [List.flatten_cons, List.flatten_nil, mom_split (show cnt - (i + 1) < 200 by omega), List.append_assoc, List.append_nil]) ?_
        have e : cellAgoF M cnt c (i + 1) now = cellAgoF M cnt c i now := if_neg c_31
        rw [e] at ih
        exact ih
      · refine g_aload hF dX1_cellAgo_34 rfl ?_
        refine g_getN (j := 9) hF 3 rfl rfl (by decide) rfl m_140 rfl dX1_cellAgo_36 ?_
        refine g_istore hF dX1_cellAgo_39 (Nat.le_of_ble_eq_true rfl) rfl ?_
        refine g_iinc (v := nI (i + 1 + 1)) hF dX1_cellAgo_41 rfl (nI_1 (i + 1)) rfl ?_
        refine g_goto (tgt := 6) hF dX1_cellAgo_44 (by decide) ?_
        refine g_forget1 6 ?_
        try dsimp only [gput, gputA, List.set, stGs, List.cons_append, List.nil_append]
        refine g_regroup (gs' := [pastO h ma cnt, arrM F.1.2.2 ma ad, momsW ad M]) (by simp only [List.flatten_cons, List.flatten_nil, mom_split (show cnt - (i + 1) < 200 by omega), List.append_assoc, List.append_nil]) ?_
        have e : cellAgoF M cnt c (i + 1) now = M (cnt - (i + 1)) 9 := if_pos c_31
        rw [e] at ih
        exact ih
  refine g_iload_n hF dX1_cellAgo_0 rfl ?_
  refine g_istore hF dX1_cellAgo_1 (Nat.le_of_ble_eq_true rfl) rfl ?_
  refine g_iconst (v := (1)) hF dX1_cellAgo_3 rfl ?_
  refine g_istore hF dX1_cellAgo_4 (Nat.le_of_ble_eq_true rfl) rfl ?_
  exact loop 0 (Nat.zero_le _)
set_option maxHeartbeats 4000000 in
set_option maxRecDepth 100000 in
theorem c_Past_storedAgo {E : Env3} {h ma cnt : Nat} {ad : Nat → Nat} {M : Nat → Nat → Int32} {c : Int32} (hc : cnt ≤ 200)  : Cd E none 1 yX1_storedAgo cX1_storedAgo 4 (some .int) [.ref h, .int c] [pastO h ma cnt, arrM E.2.2 ma ad, momsW ad M] (some (.int (storedD M cnt c cnt))) [pastO h ma cnt, arrM E.2.2 ma ad, momsW ad M] := by
  refine Ct.of [some (.ref h), some (.int c), none, none] (by decide +kernel) rfl (Nat.le_of_ble_eq_true rfl) (fun F hE hF hR hN => ?_)
  subst hE
  have loop : ∀ i, i ≤ cnt → (storedD M cnt c cnt = storedD M cnt c (cnt - i)) → G F 0 0 [pastO h ma cnt, arrM F.1.2.2 ma ad, momsW ad M] 2 [some (.ref h), some (.int c), some (.int (nI (i + 1))), none] [] := by
    refine up_loop (Q := fun i => (storedD M cnt c cnt = storedD M cnt c (cnt - i)) → G F 0 0 [pastO h ma cnt, arrM F.1.2.2 ma ad, momsW ad M] 2 [some (.ref h), some (.int c), some (.int (nI (i + 1))), none] []) ?_ (fun i hi ih => ?_)
    · intro hq
      refine g_iload_n hF dX1_storedAgo_2 rfl ?_
      refine g_aload_n hF dX1_storedAgo_3 rfl ?_
      refine g_get (j := 2) hF 0 rfl rfl (by decide) rfl m_169 rfl dX1_storedAgo_4 ?_
      refine g_icmp_gt (tgt := 36) hF dX1_storedAgo_7 (by decide) (fun c_7 => ?_) (fun c_7 => absurd ((nI_ltI (by omega) (by omega)).mpr (Nat.lt_succ_self cnt)) c_7)
      refine g_iconst (v := (0)) hF dX1_storedAgo_36 rfl ?_
      exact g_iret hF hR dX1_storedAgo_37 ⟨by rw [hq, Nat.sub_self]; rfl, rfl⟩
    · intro hq
      refine g_iload_n hF dX1_storedAgo_2 rfl ?_
      refine g_aload_n hF dX1_storedAgo_3 rfl ?_
      refine g_get (j := 2) hF 0 rfl rfl (by decide) rfl m_169 rfl dX1_storedAgo_4 ?_
      refine g_icmp_gt (tgt := 36) hF dX1_storedAgo_7 (by decide) (fun c_7 => absurd c_7 (fun y => absurd ((nI_ltI (a := cnt) (b := i + 1) (by omega) (by omega)).mp y) (by omega))) (fun c_7 => ?_)
      refine g_aload_n hF dX1_storedAgo_10 rfl ?_
      refine g_iload_n hF dX1_storedAgo_11 rfl ?_
      refine g_callVq hF (c_Past_ago (cnt := cnt) (j := (i + 1)) (by omega) (by omega) (by omega)) cal_X1_ago rfl m_685 (by decide) (Or.inl rfl) (Nat.zero_le _) (Nat.zero_le _) 0 rfl rfl [0, 1] rfl rfl rfl (Nat.le_of_ble_eq_true rfl) dX1_storedAgo_12 ?_
      refine g_astore_n hF dX1_storedAgo_15 (Nat.le_of_ble_eq_true rfl) rfl ?_
      refine g_aload_n hF dX1_storedAgo_16 rfl ?_
      refine g_ifnull hF dX1_storedAgo_17 ?_
      refine g_regroup (gs' := [pastO h ma cnt, arrM F.1.2.2 ma ad, momsR ad M 0 (cnt - (i + 1)), momO (ad (cnt - (i + 1))) (M (cnt - (i + 1))), momsR ad M (cnt - (i + 1) + 1) (199 - (cnt - (i + 1)))]) (by simp only [List.flatten_cons, List.flatten_nil, mom_split (show cnt - (i + 1) < 200 by omega), List.append_assoc, List.append_nil]) ?_
      refine g_aload_n hF dX1_storedAgo_20 rfl ?_
      refine g_getN (j := 8) hF 3 rfl rfl (by decide) rfl m_137 rfl dX1_storedAgo_21 ?_
      refine g_iload_n hF dX1_storedAgo_24 rfl ?_
      refine g_icmp_ne (tgt := 30) hF dX1_storedAgo_25 (by decide) (fun c_25 => ?_) (fun c_25 => ?_)
      · refine g_iinc (v := nI (i + 1 + 1)) hF dX1_storedAgo_30 rfl (nI_1 (i + 1)) rfl ?_
        refine g_goto (tgt := 2) hF dX1_storedAgo_33 (by decide) ?_
        refine g_forget1 3 ?_
        try dsimp only [gput, gputA, List.set, stGs, List.cons_append, List.nil_append]
        refine g_regroup (gs' := [pastO h ma cnt, arrM F.1.2.2 ma ad, momsW ad M]) (by simp only [List.flatten_cons, List.flatten_nil, mom_split (show cnt - (i + 1) < 200 by omega), List.append_assoc, List.append_nil]) ?_
        exact ih (by rw [hq]; have e : storedD M cnt c (cnt - i) = if M (cnt - (i + 1)) 8 = c then nI (cnt - (cnt - (i + 1))) else storedD M cnt c (cnt - (i + 1)) := (by rw [show cnt - i = cnt - (i + 1) + 1 by omega] <;> rfl); rw [e, if_neg c_25])
      · refine g_iload_n hF dX1_storedAgo_28 rfl ?_
        refine g_regroup (gs' := [pastO h ma cnt, arrM F.1.2.2 ma ad, momsW ad M]) (by simp only [List.flatten_cons, List.flatten_nil, mom_split (show cnt - (i + 1) < 200 by omega), List.append_assoc, List.append_nil]) ?_
        exact g_iret hF hR dX1_storedAgo_29 ⟨by rw [hq]; have e : storedD M cnt c (cnt - i) = if M (cnt - (i + 1)) 8 = c then nI (cnt - (cnt - (i + 1))) else storedD M cnt c (cnt - (i + 1)) := (by rw [show cnt - i = cnt - (i + 1) + 1 by omega] <;> rfl); rw [e, if_pos c_25, show cnt - (cnt - (i + 1)) = i + 1 by omega], rfl⟩
  refine g_iconst (v := (1)) hF dX1_storedAgo_0 rfl ?_
  refine g_istore_n hF dX1_storedAgo_1 (Nat.le_of_ble_eq_true rfl) rfl ?_
  exact loop 0 (Nat.zero_le _) rfl
set_option maxHeartbeats 4000000 in
set_option maxRecDepth 100000 in
theorem c_Past_writeSteps {E : Env3} {h ma cnt : Nat} {ad : Nat → Nat} {M : Nat → Nat → Int32} {rs as ns : Nat} {fs : Nat → Int32} (hc : cnt ≤ 200)  : Cd E none 2 yX1_writeSteps cX1_writeSteps 3 none [.ref h, .ref rs] [pastO h ma cnt, arrM E.2.2 ma ad, momsW ad M, rowW E.2.2 rs as 200 fs ns] none [pastO h ma cnt, arrM E.2.2 ma ad, momsW ad M, rowW E.2.2 rs as 200 (stepsF M fs cnt) cnt] := by
  refine Ct.of [some (.ref h), some (.ref rs), none] (by decide +kernel) rfl (Nat.le_of_ble_eq_true rfl) (fun F hE hF hR hN => ?_)
  subst hE
  refine g_regroup (gs' := [pastO h ma cnt, arrM F.1.2.2 ma ad, momsW ad M, rowW F.1.2.2 rs as 200 (stepsF M fs 0) ns]) (by rw [stepsF_0]) ?_
  have loop : ∀ i, i ≤ cnt → G F 0 0 [pastO h ma cnt, arrM F.1.2.2 ma ad, momsW ad M, rowW F.1.2.2 rs as 200 (stepsF M fs i) i] 7 [some (.ref h), some (.ref rs), some (.int (nI i))] [] := by
    refine up_loop (Q := fun i => G F 0 0 [pastO h ma cnt, arrM F.1.2.2 ma ad, momsW ad M, rowW F.1.2.2 rs as 200 (stepsF M fs i) i] 7 [some (.ref h), some (.ref rs), some (.int (nI i))] []) ?_ (fun i hi ih => ?_)
    · refine g_iload_n hF dX1_writeSteps_7 rfl ?_
      refine g_aload_n hF dX1_writeSteps_8 rfl ?_
      refine g_get (j := 2) hF 0 rfl rfl (by decide) rfl m_169 rfl dX1_writeSteps_9 ?_
      refine g_icmp_ge (tgt := 30) hF dX1_writeSteps_12 (by decide) (fun c_12 => ?_) (fun c_12 => absurd (nI_le (Nat.le_refl cnt) (by omega)) c_12)
      exact g_vret hF hR dX1_writeSteps_30 ⟨rfl, rfl⟩
    · refine g_iload_n hF dX1_writeSteps_7 rfl ?_
      refine g_aload_n hF dX1_writeSteps_8 rfl ?_
      refine g_get (j := 2) hF 0 rfl rfl (by decide) rfl m_169 rfl dX1_writeSteps_9 ?_
      refine g_icmp_ge (tgt := 30) hF dX1_writeSteps_12 (by decide) (fun c_12 => absurd c_12 (nI_ge hi (by omega))) (fun c_12 => ?_)
      refine g_aload_n hF dX1_writeSteps_15 rfl ?_
      refine g_aload_n hF dX1_writeSteps_16 rfl ?_
      refine g_iload_n hF dX1_writeSteps_17 rfl ?_
      refine g_callVq hF (c_Past_stepAt (by omega) (by omega)) cal_X1_stepAt rfl m_729 (by decide) (Or.inl rfl) (Nat.zero_le _) (Nat.zero_le _) 0 rfl rfl [0, 1, 2] rfl rfl rfl (Nat.le_of_ble_eq_true rfl) dX1_writeSteps_18 ?_
      refine g_callVd hF (c_Row_push (by first | omega | exact clampI_le | (split <;> omega)) (by omega)) cal_X4_push rfl m_733 (by decide) (Or.inl rfl) (Nat.zero_le _) (Nat.zero_le _) 3 rfl rfl [3] rfl rfl (Nat.le_of_ble_eq_true rfl) rfl (Nat.le_of_ble_eq_true rfl) dX1_writeSteps_21 ?_
      try dsimp only [gput, gputA, List.set, stGs, List.cons_append, List.nil_append]
      rw [if_pos (show i < 200 by omega), if_pos (show i < 200 by omega), stepsF_succ]
      refine g_iinc (v := nI (i + 1)) hF dX1_writeSteps_24 rfl (nI_1 i) rfl ?_
      refine g_goto (tgt := 7) hF dX1_writeSteps_27 (by decide) ?_
      exact ih
  refine g_aload_n hF dX1_writeSteps_0 rfl ?_
  refine g_iconst (v := (0)) hF dX1_writeSteps_1 rfl ?_
  refine g_callVd hF (c_Row_resize (by omega)) cal_X4_resize rfl m_728 (by decide) (Or.inl rfl) (Nat.zero_le _) (Nat.zero_le _) 3 rfl rfl [3] rfl rfl (Nat.le_of_ble_eq_true rfl) rfl (Nat.le_of_ble_eq_true rfl) dX1_writeSteps_2 ?_
  try dsimp only [gput, gputA, List.set, stGs, List.cons_append, List.nil_append]
  rw [show clampI 0 200 = 0 from rfl]
  refine g_iconst (v := (0)) hF dX1_writeSteps_5 rfl ?_
  refine g_istore_n hF dX1_writeSteps_6 (Nat.le_of_ble_eq_true rfl) rfl ?_
  exact loop 0 (Nat.zero_le _)
theorem rowGet_nI {f : Nat → Int32} {n i : Nat} (hi : i < n) (hn : n < 2 ^ 31) : rowGet f n (nI i) = f i := by
  unfold rowGet
  rw [if_neg (nI_pos (by omega)), if_neg (nI_ge hi (by omega)), nI_clamp (by omega)]
set_option maxHeartbeats 4000000 in
set_option maxRecDepth 100000 in
theorem c_Past_firstOther {E : Env3} {h ma cnt : Nat} {ad : Nat → Nat} {M : Nat → Nat → Int32} {rs as : Nat} {fs : Nat → Int32} (hc : cnt ≤ 200) (hsame : ∀ i, i < cnt → fs i = M i 0)  : Cd E none 2 yX1_firstOther cX1_firstOther 4 (some .int) [.ref h, .ref rs] [pastO h ma cnt, arrM E.2.2 ma ad, momsW ad M, rowW E.2.2 rs as 200 fs cnt] (some (.int (-1))) [pastO h ma cnt, arrM E.2.2 ma ad, momsW ad M, rowW E.2.2 rs as 200 fs cnt] := by
  refine Ct.of [some (.ref h), some (.ref rs), none, none] (by decide +kernel) rfl (Nat.le_of_ble_eq_true rfl) (fun F hE hF hR hN => ?_)
  subst hE
  have loop : ∀ i, i ≤ cnt → G F 0 0 [pastO h ma cnt, arrM F.1.2.2 ma ad, momsW ad M, rowW F.1.2.2 rs as 200 fs cnt] 14 [some (.ref h), some (.ref rs), some (.int (nI cnt)), some (.int (nI i))] [] := by
    refine up_loop (Q := fun i => G F 0 0 [pastO h ma cnt, arrM F.1.2.2 ma ad, momsW ad M, rowW F.1.2.2 rs as 200 fs cnt] 14 [some (.ref h), some (.ref rs), some (.int (nI cnt)), some (.int (nI i))] []) ?_ (fun i hi ih => ?_)
    · refine g_iload_n hF dX1_firstOther_14 rfl ?_
      refine g_iload_n hF dX1_firstOther_15 rfl ?_
      refine g_icmp_ge (tgt := 40) hF dX1_firstOther_16 (by decide) (fun c_16 => ?_) (fun c_16 => absurd (nI_le (Nat.le_refl cnt) (by omega)) c_16)
      refine g_iconst (v := (-1)) hF dX1_firstOther_40 rfl ?_
      exact g_iret hF hR dX1_firstOther_41 ⟨rfl, rfl⟩
    · refine g_iload_n hF dX1_firstOther_14 rfl ?_
      refine g_iload_n hF dX1_firstOther_15 rfl ?_
      refine g_icmp_ge (tgt := 40) hF dX1_firstOther_16 (by decide) (fun c_16 => absurd c_16 (nI_ge hi (by omega))) (fun c_16 => ?_)
      refine g_aload_n hF dX1_firstOther_19 rfl ?_
      refine g_iload_n hF dX1_firstOther_20 rfl ?_
      refine g_callVq hF (c_Past_stepAt (by omega) (by omega)) cal_X1_stepAt rfl m_729 (by decide) (Or.inl rfl) (Nat.zero_le _) (Nat.zero_le _) 0 rfl rfl [0, 1, 2] rfl rfl rfl (Nat.le_of_ble_eq_true rfl) dX1_firstOther_21 ?_
      refine g_aload_n hF dX1_firstOther_24 rfl ?_
      refine g_iload_n hF dX1_firstOther_25 rfl ?_
      refine g_callVq hF (c_Row_get (by first | omega | exact clampI_le | (split <;> omega)) (by omega)) cal_X4_get rfl m_750 (by decide) (Or.inl rfl) (Nat.zero_le _) (Nat.zero_le _) 3 rfl rfl [3] rfl rfl rfl (Nat.le_of_ble_eq_true rfl) dX1_firstOther_26 ?_
      refine g_icmp_eq (tgt := 34) hF dX1_firstOther_29 (by decide) (fun c_29 => ?_) (fun c_29 => absurd (show M i 0 = rowGet fs cnt (nI i) from by rw [rowGet_nI hi (by omega)]; exact (hsame i hi).symm) c_29)
      refine g_iinc (v := nI (i + 1)) hF dX1_firstOther_34 rfl (nI_1 i) rfl ?_
      refine g_goto (tgt := 14) hF dX1_firstOther_37 (by decide) ?_
      exact ih
  refine g_aload_n hF dX1_firstOther_0 rfl ?_
  refine g_get (j := 2) hF 0 rfl rfl (by decide) rfl m_169 rfl dX1_firstOther_1 ?_
  refine g_aload_n hF dX1_firstOther_4 rfl ?_
  refine g_callVq hF (c_Row_size) cal_X4_size rfl m_748 (by decide) (Or.inl rfl) (Nat.zero_le _) (Nat.zero_le _) 3 rfl rfl [3] rfl rfl rfl (Nat.le_of_ble_eq_true rfl) dX1_firstOther_5 ?_
  refine g_min hF m_749 m_388 m_4 m_389 (by decide) (Nat.zero_le _) (Nat.zero_le _) (Nat.le_of_ble_eq_true rfl) dX1_firstOther_8 ?_
  rw [if_neg (show ¬ nI cnt < nI cnt from nI_nlt (Nat.le_refl cnt) (by omega))]
  refine g_istore_n hF dX1_firstOther_11 (Nat.le_of_ble_eq_true rfl) rfl ?_
  refine g_iconst (v := (0)) hF dX1_firstOther_12 rfl ?_
  refine g_istore_n hF dX1_firstOther_13 (Nat.le_of_ble_eq_true rfl) rfl ?_
  exact loop 0 (Nat.zero_le _)
end
section
/-! Point, Tape, and the constructors -/
def poO (h : Nat) (st ps : Int32) (on : Bool) (how ce n stops : Int32) : va_W := [(h, .inr (2, [.int st, .int ps, .int (bI on), .int how, .int ce, .int n, .int stops]))]
def tapeO (h rs rj : Nat) (rec' : Bool) : va_W := [(h, .inr (6, [.ref rs, .ref rj, .int (bI rec')]))]
def holdsB (how n x : Int32) : Bool := if how = 1 then !decide (n ≤ x) else if how = 2 then decide (x = n) else if how = 3 then !decide (x ≤ n) else true
def hitB (on : Bool) (st at' status : Int32) (hb : Bool) : Bool := on && (decide (st = at') && (decide (status = 0) && hb))
theorem bI_true : bI true = 1 := rfl
theorem bI_false : bI false = 0 := rfl
def initS : SV := ((fun _ => 0, 0), (zeroTo (fun _ => 0) 12, 12), (fun _ => 0, 0), (fun _ => 0, 0), 0, 0, 0, 0)
theorem adF_0 (ad : Nat → Nat) : adF ad 0 = fun _ => none := by funext j; simp [adF]
theorem adF_succ (ad : Nat → Nat) (i q : Nat) : va_up (adF ad i) i (some q) = adF (va_up ad i q) (i + 1) := by
  funext j
  unfold va_up adF
  by_cases h : j = i
  · simp [h]
  · by_cases h2 : j < i
    · simp [h, h2, show j < i + 1 by omega]
    · simp [h, h2, show ¬ j < i + 1 by omega]
theorem momsR_push (ad : Nat → Nat) (M : Nat → Nat → Int32) (i q : Nat) : momsR ad M 0 i ++ momO q (M i) = momsR (va_up ad i q) M 0 (i + 1) := by
  rw [momsR_app, momsR_one, Nat.zero_add]
  have e : momsR ad M 0 i = momsR (va_up ad i q) M 0 i := by
    unfold momsR
    congr 1
    apply List.map_congr_left
    intro j hj
    have := List.mem_range'_1.mp hj
    unfold va_up
    rw [if_neg (by omega)]
  rw [e]
  simp [va_up]
set_option maxHeartbeats 4000000 in
set_option maxRecDepth 100000 in
theorem c_Mom_init {E : Env3} {q : Nat} {μ : Nat → Int32} : Ct E none 1 0 0 yX0_init cX0_init 1 none [.ref q] [momO q μ] (fun r g => r = none ∧ g = [momO q μ]) := by
  refine Ct.of [some (.ref q)] (by decide +kernel) rfl (Nat.le_of_ble_eq_true rfl) (fun F hE hF hR hN => ?_)
  subst hE
  refine g_aload_n hF dX0_init_0 rfl ?_
  refine g_objInit hF m_121 m_24 m_25 (by decide) (Nat.le_of_ble_eq_true rfl) dX0_init_1 ?_
  exact g_vret hF hR dX0_init_4 ⟨rfl, rfl⟩
set_option maxHeartbeats 4000000 in
set_option maxRecDepth 100000 in
theorem c_Point_init {E : Env3} {q : Nat} {st ps how ce m stops : Int32} {on : Bool} : Ct E none 1 0 0 yX2_init cX2_init 1 none [.ref q] [poO q st ps on how ce m stops] (fun r g => r = none ∧ g = [poO q st ps on how ce m stops]) := by
  refine Ct.of [some (.ref q)] (by decide +kernel) rfl (Nat.le_of_ble_eq_true rfl) (fun F hE hF hR hN => ?_)
  subst hE
  refine g_aload_n hF dX2_init_0 rfl ?_
  refine g_objInit hF m_183 m_24 m_25 (by decide) (Nat.le_of_ble_eq_true rfl) dX2_init_1 ?_
  exact g_vret hF hR dX2_init_4 ⟨rfl, rfl⟩
set_option maxHeartbeats 4000000 in
set_option maxRecDepth 100000 in
theorem c_Watch_init {E : Env3} {q : Nat} {x y z : Int32} : Ct E none 1 0 0 yX7_init cX7_init 1 none [.ref q] [[(q, .inr (7, [.int x, .int y, .int z]))]] (fun r g => r = none ∧ g = [[(q, .inr (7, [.int x, .int y, .int z]))]]) := by
  refine Ct.of [some (.ref q)] (by decide +kernel) rfl (Nat.le_of_ble_eq_true rfl) (fun F hE hF hR hN => ?_)
  subst hE
  refine g_aload_n hF dX7_init_0 rfl ?_
  refine g_objInit hF m_215 m_24 m_25 (by decide) (Nat.le_of_ble_eq_true rfl) dX7_init_1 ?_
  exact g_vret hF hR dX7_init_4 ⟨rfl, rfl⟩
set_option maxHeartbeats 4000000 in
set_option maxRecDepth 100000 in
theorem c_Point_place {E : Env3} {q : Nat} {st ps how ce m stops : Int32} {on : Bool} {s2 p2 : Int32} : Cd E none 0 yX2_place cX2_place 3 none [.ref q, .int s2, .int p2] [poO q st ps on how ce m stops] none [poO q s2 p2 true how ce m stops] := by
  refine Ct.of [some (.ref q), some (.int s2), some (.int p2)] (by decide +kernel) rfl (Nat.le_of_ble_eq_true rfl) (fun F hE hF hR hN => ?_)
  subst hE
  refine g_aload_n hF dX2_place_0 rfl ?_
  refine g_iload_n hF dX2_place_1 rfl ?_
  refine g_put (j := 0) hF 0 rfl rfl (by decide) rfl m_184 rfl (tyX2_ok 0 (by decide)) rfl rfl (Nat.le_of_ble_eq_true rfl) dX2_place_2 ?_
  try dsimp only [gput, gputA, List.set, stGs, List.cons_append, List.nil_append]
  refine g_aload_n hF dX2_place_5 rfl ?_
  refine g_iload_n hF dX2_place_6 rfl ?_
  refine g_put (j := 1) hF 0 rfl rfl (by decide) rfl m_186 rfl (tyX2_ok 1 (by decide)) rfl rfl (Nat.le_of_ble_eq_true rfl) dX2_place_7 ?_
  try dsimp only [gput, gputA, List.set, stGs, List.cons_append, List.nil_append]
  refine g_aload_n hF dX2_place_10 rfl ?_
  refine g_iconst (v := (1)) hF dX2_place_11 rfl ?_
  refine g_put (j := 2) hF 0 rfl rfl (by decide) rfl m_188 rfl (tyX2_ok 2 (by decide)) rfl rfl (Nat.le_of_ble_eq_true rfl) dX2_place_12 ?_
  try dsimp only [gput, gputA, List.set, stGs, List.cons_append, List.nil_append]
  exact g_vret hF hR dX2_place_15 ⟨rfl, rfl⟩
set_option maxHeartbeats 4000000 in
set_option maxRecDepth 100000 in
theorem c_Point_holds {E : Env3} {q : Nat} {st ps how ce m stops : Int32} {on : Bool} {x : Int32} : Cd E none 0 yX2_holds cX2_holds 2 (some .boolean) [.ref q, .int x] [poO q st ps on how ce m stops] (some (.int (bI (holdsB how m x)))) [poO q st ps on how ce m stops] := by
  refine Ct.of [some (.ref q), some (.int x)] (by decide +kernel) rfl (Nat.le_of_ble_eq_true rfl) (fun F hE hF hR hN => ?_)
  subst hE
  refine g_aload_n hF dX2_holds_0 rfl ?_
  refine g_get (j := 3) hF 0 rfl rfl (by decide) rfl m_190 rfl dX2_holds_1 ?_
  by_cases t4_1 : how = 1
  · refine g_tableIn (off := 28) (tgt := 32) hF dX2_holds_4 (by rw [t4_1]; decide) (by rw [t4_1]; decide) (by rw [t4_1]; rfl) (by decide) ?_
    refine g_iload_n hF dX2_holds_32 rfl ?_
    refine g_aload_n hF dX2_holds_33 rfl ?_
    refine g_get (j := 5) hF 0 rfl rfl (by decide) rfl m_192 rfl dX2_holds_34 ?_
    refine g_icmp_ge (tgt := 44) hF dX2_holds_37 (by decide) (fun c_37 => ?_) (fun c_37 => ?_)
    · refine g_iconst (v := (0)) hF dX2_holds_44 rfl ?_
      exact g_zret hF hR dX2_holds_45 rfl ⟨(by simp only [holdsB, bI_true, bI_false, eq_true t4_1, eq_true c_37, if_true, if_false, true_and, and_true, false_and, and_false, true_or, or_true, false_or, or_false, not_true_eq_false, not_false_eq_true, Bool.true_eq_false, Bool.false_eq_true, ite_true, ite_false, reduceIte, decide_true, decide_false, Bool.not_true, Bool.not_false]), rfl⟩
    · refine g_iconst (v := (1)) hF dX2_holds_40 rfl ?_
      refine g_goto (tgt := 45) hF dX2_holds_41 (by decide) ?_
      exact g_zret hF hR dX2_holds_45 rfl ⟨(by simp only [holdsB, bI_true, bI_false, eq_true t4_1, eq_false c_37, if_true, if_false, true_and, and_true, false_and, and_false, true_or, or_true, false_or, or_false, not_true_eq_false, not_false_eq_true, Bool.true_eq_false, Bool.false_eq_true, ite_true, ite_false, reduceIte, decide_true, decide_false, Bool.not_true, Bool.not_false]), rfl⟩
  by_cases t4_2 : how = 2
  · refine g_tableIn (off := 42) (tgt := 46) hF dX2_holds_4 (by rw [t4_2]; decide) (by rw [t4_2]; decide) (by rw [t4_2]; rfl) (by decide) ?_
    refine g_iload_n hF dX2_holds_46 rfl ?_
    refine g_aload_n hF dX2_holds_47 rfl ?_
    refine g_get (j := 5) hF 0 rfl rfl (by decide) rfl m_192 rfl dX2_holds_48 ?_
    refine g_icmp_ne (tgt := 58) hF dX2_holds_51 (by decide) (fun c_51 => ?_) (fun c_51 => ?_)
    · refine g_iconst (v := (0)) hF dX2_holds_58 rfl ?_
      exact g_zret hF hR dX2_holds_59 rfl ⟨(by simp only [holdsB, bI_true, bI_false, eq_false t4_1, eq_true t4_2, eq_false c_51, if_true, if_false, true_and, and_true, false_and, and_false, true_or, or_true, false_or, or_false, not_true_eq_false, not_false_eq_true, Bool.true_eq_false, Bool.false_eq_true, ite_true, ite_false, reduceIte, decide_true, decide_false, Bool.not_true, Bool.not_false]), rfl⟩
    · refine g_iconst (v := (1)) hF dX2_holds_54 rfl ?_
      refine g_goto (tgt := 59) hF dX2_holds_55 (by decide) ?_
      exact g_zret hF hR dX2_holds_59 rfl ⟨(by simp only [holdsB, bI_true, bI_false, eq_false t4_1, eq_true t4_2, eq_true c_51, if_true, if_false, true_and, and_true, false_and, and_false, true_or, or_true, false_or, or_false, not_true_eq_false, not_false_eq_true, Bool.true_eq_false, Bool.false_eq_true, ite_true, ite_false, reduceIte, decide_true, decide_false, Bool.not_true, Bool.not_false]), rfl⟩
  by_cases t4_3 : how = 3
  · refine g_tableIn (off := 56) (tgt := 60) hF dX2_holds_4 (by rw [t4_3]; decide) (by rw [t4_3]; decide) (by rw [t4_3]; rfl) (by decide) ?_
    refine g_iload_n hF dX2_holds_60 rfl ?_
    refine g_aload_n hF dX2_holds_61 rfl ?_
    refine g_get (j := 5) hF 0 rfl rfl (by decide) rfl m_192 rfl dX2_holds_62 ?_
    refine g_icmp_le (tgt := 72) hF dX2_holds_65 (by decide) (fun c_65 => ?_) (fun c_65 => ?_)
    · refine g_iconst (v := (0)) hF dX2_holds_72 rfl ?_
      exact g_zret hF hR dX2_holds_73 rfl ⟨(by simp only [holdsB, bI_true, bI_false, eq_false t4_1, eq_false t4_2, eq_true t4_3, eq_true c_65, if_true, if_false, true_and, and_true, false_and, and_false, true_or, or_true, false_or, or_false, not_true_eq_false, not_false_eq_true, Bool.true_eq_false, Bool.false_eq_true, ite_true, ite_false, reduceIte, decide_true, decide_false, Bool.not_true, Bool.not_false]), rfl⟩
    · refine g_iconst (v := (1)) hF dX2_holds_68 rfl ?_
      refine g_goto (tgt := 73) hF dX2_holds_69 (by decide) ?_
      exact g_zret hF hR dX2_holds_73 rfl ⟨(by simp only [holdsB, bI_true, bI_false, eq_false t4_1, eq_false t4_2, eq_true t4_3, eq_false c_65, if_true, if_false, true_and, and_true, false_and, and_false, true_or, or_true, false_or, or_false, not_true_eq_false, not_false_eq_true, Bool.true_eq_false, Bool.false_eq_true, ite_true, ite_false, reduceIte, decide_true, decide_false, Bool.not_true, Bool.not_false]), rfl⟩
  refine g_tableOut (tgt := 74) hF dX2_holds_4 (by have z0 := lv_neT t4_1 (a := 1) rfl; have z1 := lv_neT t4_2 (a := 2) rfl; have z2 := lv_neT t4_3 (a := 3) rfl; omega) (by decide) ?_
  refine g_iconst (v := (1)) hF dX2_holds_74 rfl ?_
  exact g_zret hF hR dX2_holds_75 rfl ⟨(by simp only [holdsB, bI_true, bI_false, eq_false t4_1, eq_false t4_2, eq_false t4_3, if_true, if_false, true_and, and_true, false_and, and_false, true_or, or_true, false_or, or_false, not_true_eq_false, not_false_eq_true, Bool.true_eq_false, Bool.false_eq_true, ite_true, ite_false, reduceIte, decide_true, decide_false, Bool.not_true, Bool.not_false]), rfl⟩
set_option maxHeartbeats 4000000 in
set_option maxRecDepth 100000 in
theorem c_Point_isHit {E : Env3} {q : Nat} {st ps how ce m stops : Int32} {on : Bool} {h r1 r2 r3 r4 a2 n2 : Nat} {at' status rd ck : Int32} {f2 : Nat → Int32} (hn : n2 ≤ 12)  : Cd E none 1 yX2_isHit cX2_isHit 2 (some .boolean) [.ref q, .ref h] [poO q st ps on how ce m stops, stO h r1 r2 r3 r4 at' status rd ck, rowW E.2.2 r2 a2 12 f2 n2] (some (.int (bI (hitB on st at' status (holdsB how m (rowGet f2 n2 ce)))))) [poO q st ps on how ce m stops, stO h r1 r2 r3 r4 at' status rd ck, rowW E.2.2 r2 a2 12 f2 n2] := by
  refine Ct.of [some (.ref q), some (.ref h)] (by decide +kernel) rfl (Nat.le_of_ble_eq_true rfl) (fun F hE hF hR hN => ?_)
  subst hE
  refine g_aload_n hF dX2_isHit_0 rfl ?_
  refine g_get (j := 2) hF 0 rfl rfl (by decide) rfl m_188 rfl dX2_isHit_1 ?_
  refine g_if_eq (tgt := 47) hF dX2_isHit_4 (by decide) (fun c_4 => ?_) (fun c_4 => ?_)
  · refine g_iconst (v := (0)) hF dX2_isHit_47 rfl ?_
    exact g_zret hF hR dX2_isHit_48 rfl ⟨(by simp only [hitB, bI_true, bI_false, bI_0.mp c_4, Bool.and_true, Bool.true_and, Bool.and_false, Bool.false_and, if_true, if_false, true_and, and_true, false_and, and_false, true_or, or_true, false_or, or_false, not_true_eq_false, not_false_eq_true, Bool.true_eq_false, Bool.false_eq_true, ite_true, ite_false, reduceIte, decide_true, decide_false, Bool.not_true, Bool.not_false]), rfl⟩
  · refine g_aload_n hF dX2_isHit_7 rfl ?_
    refine g_get (j := 0) hF 0 rfl rfl (by decide) rfl m_184 rfl dX2_isHit_8 ?_
    refine g_aload_n hF dX2_isHit_11 rfl ?_
    refine g_getN (j := 4) hF 1 rfl rfl (by decide) rfl m_83 rfl dX2_isHit_12 ?_
    refine g_icmp_ne (tgt := 47) hF dX2_isHit_15 (by decide) (fun c_15 => ?_) (fun c_15 => ?_)
    · refine g_iconst (v := (0)) hF dX2_isHit_47 rfl ?_
      exact g_zret hF hR dX2_isHit_48 rfl ⟨(by simp only [hitB, bI_true, bI_false, bI_n.mp c_4, eq_false c_15, Bool.and_true, Bool.true_and, Bool.and_false, Bool.false_and, if_true, if_false, true_and, and_true, false_and, and_false, true_or, or_true, false_or, or_false, not_true_eq_false, not_false_eq_true, Bool.true_eq_false, Bool.false_eq_true, ite_true, ite_false, reduceIte, decide_true, decide_false, Bool.not_true, Bool.not_false]), rfl⟩
    · refine g_aload_n hF dX2_isHit_18 rfl ?_
      refine g_getN (j := 5) hF 1 rfl rfl (by decide) rfl m_86 rfl dX2_isHit_19 ?_
      refine g_if_ne (tgt := 47) hF dX2_isHit_22 (by decide) (fun c_22 => ?_) (fun c_22 => ?_)
      · refine g_iconst (v := (0)) hF dX2_isHit_47 rfl ?_
        exact g_zret hF hR dX2_isHit_48 rfl ⟨(by simp only [hitB, bI_true, bI_false, bI_n.mp c_4, eq_true c_15, eq_false c_22, Bool.and_true, Bool.true_and, Bool.and_false, Bool.false_and, if_true, if_false, true_and, and_true, false_and, and_false, true_or, or_true, false_or, or_false, not_true_eq_false, not_false_eq_true, Bool.true_eq_false, Bool.false_eq_true, ite_true, ite_false, reduceIte, decide_true, decide_false, Bool.not_true, Bool.not_false]), rfl⟩
      · refine g_aload_n hF dX2_isHit_25 rfl ?_
        refine g_aload_n hF dX2_isHit_26 rfl ?_
        refine g_getN (j := 1) hF 1 rfl rfl (by decide) rfl m_76 rfl dX2_isHit_27 ?_
        refine g_aload_n hF dX2_isHit_30 rfl ?_
        refine g_get (j := 4) hF 0 rfl rfl (by decide) rfl m_191 rfl dX2_isHit_31 ?_
        refine g_callVq hF (c_Row_get (by first | omega | exact clampI_le | (split <;> omega)) (by omega)) cal_X4_get rfl m_586 (by decide) (Or.inl rfl) (Nat.zero_le _) (Nat.zero_le _) 2 rfl rfl [2] rfl rfl rfl (Nat.le_of_ble_eq_true rfl) dX2_isHit_34 ?_
        refine g_callVq hF (c_Point_holds) cal_X2_holds rfl m_587 (by decide) (Or.inl rfl) (Nat.zero_le _) (Nat.zero_le _) 0 rfl rfl [0] rfl rfl rfl (Nat.le_of_ble_eq_true rfl) dX2_isHit_37 ?_
        refine g_if_eq (tgt := 47) hF dX2_isHit_40 (by decide) (fun c_40 => ?_) (fun c_40 => ?_)
        · refine g_iconst (v := (0)) hF dX2_isHit_47 rfl ?_
          exact g_zret hF hR dX2_isHit_48 rfl ⟨(by simp only [hitB, bI_true, bI_false, bI_n.mp c_4, eq_true c_15, eq_true c_22, bI_0.mp c_40, Bool.and_true, Bool.true_and, Bool.and_false, Bool.false_and, if_true, if_false, true_and, and_true, false_and, and_false, true_or, or_true, false_or, or_false, not_true_eq_false, not_false_eq_true, Bool.true_eq_false, Bool.false_eq_true, ite_true, ite_false, reduceIte, decide_true, decide_false, Bool.not_true, Bool.not_false]), rfl⟩
        · refine g_iconst (v := (1)) hF dX2_isHit_43 rfl ?_
          refine g_goto (tgt := 48) hF dX2_isHit_44 (by decide) ?_
          exact g_zret hF hR dX2_isHit_48 rfl ⟨(by simp only [hitB, bI_true, bI_false, bI_n.mp c_4, eq_true c_15, eq_true c_22, bI_n.mp c_40, Bool.and_true, Bool.true_and, Bool.and_false, Bool.false_and, if_true, if_false, true_and, and_true, false_and, and_false, true_or, or_true, false_or, or_false, not_true_eq_false, not_false_eq_true, Bool.true_eq_false, Bool.false_eq_true, ite_true, ite_false, reduceIte, decide_true, decide_false, Bool.not_true, Bool.not_false]), rfl⟩
set_option maxHeartbeats 4000000 in
set_option maxRecDepth 100000 in
theorem c_Point_letsPass {E : Env3} {q : Nat} {st how ce m stops : Int32} {on : Bool}  : Cd E none 0 yX2_letsPass cX2_letsPass 1 (some .boolean) [.ref q] [poO q st 0 on how ce m stops] (some (.int 0)) [poO q st 0 on how ce m stops] := by
  refine Ct.of [some (.ref q)] (by decide +kernel) rfl (Nat.le_of_ble_eq_true rfl) (fun F hE hF hR hN => ?_)
  subst hE
  refine g_aload_n hF dX2_letsPass_0 rfl ?_
  refine g_get (j := 1) hF 0 rfl rfl (by decide) rfl m_186 rfl dX2_letsPass_1 ?_
  refine g_if_ne (tgt := 9) hF dX2_letsPass_4 (by decide) (fun c_4 => absurd rfl c_4) (fun c_4 => ?_)
  refine g_iconst (v := (0)) hF dX2_letsPass_7 rfl ?_
  exact g_zret hF hR dX2_letsPass_8 rfl ⟨rfl, rfl⟩
set_option maxHeartbeats 4000000 in
set_option maxRecDepth 100000 in
theorem c_Tape_init {E : Env3} {h : Nat} : Ct E none 2 4 224 yX6_init cX6_init 1 none [.ref h] [[(h, .inr (6, [.null, .null, .int 0]))]] (fun r g => ∃ rs as rj aj : Nat, r = none ∧ g = [tapeO h rs rj false, rowW E.2.2 rs as 200 (fun _ => 0) 0, rowW E.2.2 rj aj 20 (fun _ => 0) 0]) := by
  refine Ct.of [some (.ref h)] (by decide +kernel) rfl (Nat.le_of_ble_eq_true rfl) (fun F hE hF hR hN => ?_)
  subst hE
  refine g_aload_n hF dX6_init_0 rfl ?_
  refine g_objInit hF m_232 m_24 m_25 (by decide) (Nat.le_of_ble_eq_true rfl) dX6_init_1 ?_
  refine g_aload_n hF dX6_init_4 rfl ?_
  refine g_new (ci := 4) (fs := [.null, .int 0]) hF rfl tyX4 tyX4_ok m_233 m_33 m_3 (fun j hj => by rcases (show j = 0 ∨ j = 1 by omega) with rfl | rfl <;> rfl) (Nat.le_of_ble_eq_true rfl) (Nat.le_of_ble_eq_true rfl) dX6_init_5 (fun q1 => ?_)
  refine g_dup hF dX6_init_8 rfl ?_
  refine g_sipush (v := (200)) hF dX6_init_9 rfl ?_
  refine g_callI hF (c_Row_init (cap := 200) (by decide)) cal_X4_init rfl m_234 (by decide) (Or.inl rfl) (Nat.le_of_ble_eq_true rfl) (Nat.le_of_ble_eq_true rfl) [1] rfl rfl rfl (Nat.le_of_ble_eq_true rfl) dX6_init_12 (fun r gs1 hpo => ?_)
  obtain ⟨a1, rfl, rfl⟩ := hpo
  refine ⟨Nat.le_refl _, ?_⟩
  refine g_putF (j := 0) hF hN 0 rfl rfl (by decide) rfl m_235 rfl (tyX6_ok 0 (by decide)) rfl rfl (Nat.le_of_ble_eq_true rfl) dX6_init_15 ?_
  try dsimp only [gput, gputA, List.set, stGs, List.cons_append, List.nil_append]
  refine g_aload_n hF dX6_init_18 rfl ?_
  refine g_new (ci := 4) (fs := [.null, .int 0]) hF rfl tyX4 tyX4_ok m_233 m_33 m_3 (fun j hj => by rcases (show j = 0 ∨ j = 1 by omega) with rfl | rfl <;> rfl) (Nat.le_of_ble_eq_true rfl) (Nat.le_of_ble_eq_true rfl) dX6_init_19 (fun q2 => ?_)
  refine g_dup hF dX6_init_22 rfl ?_
  refine g_bipush (v := (20)) hF dX6_init_23 rfl ?_
  refine g_callI hF (c_Row_init (cap := 20) (by decide)) cal_X4_init rfl m_234 (by decide) (Or.inl rfl) (Nat.le_of_ble_eq_true rfl) (Nat.le_of_ble_eq_true rfl) [2] rfl rfl rfl (Nat.le_of_ble_eq_true rfl) dX6_init_25 (fun r gs1 hpo => ?_)
  obtain ⟨a2, rfl, rfl⟩ := hpo
  refine ⟨Nat.le_refl _, ?_⟩
  refine g_putF (j := 1) hF hN 0 rfl rfl (by decide) rfl m_237 rfl (tyX6_ok 1 (by decide)) rfl rfl (Nat.le_of_ble_eq_true rfl) dX6_init_28 ?_
  try dsimp only [gput, gputA, List.set, stGs, List.cons_append, List.nil_append]
  exact g_vret hF hR dX6_init_31 ⟨q1, a1, q2, a2, rfl, rfl⟩
set_option maxHeartbeats 4000000 in
set_option maxRecDepth 100000 in
theorem c_S_init {E : Env3} {h : Nat} : Ct E none 2 8 82 yX5_init cX5_init 1 none [.ref h] [[(h, .inr (5, [.null, .null, .null, .null, .int 0, .int 0, .int 0, .int 0]))]] (fun r g => ∃ A : AV, A.1 = h ∧ r = none ∧ g = stGs E.2.2 A initS) := by
  refine Ct.of [some (.ref h)] (by decide +kernel) rfl (Nat.le_of_ble_eq_true rfl) (fun F hE hF hR hN => ?_)
  subst hE
  refine g_aload_n hF dX5_init_0 rfl ?_
  refine g_objInit hF m_66 m_24 m_25 (by decide) (Nat.le_of_ble_eq_true rfl) dX5_init_1 ?_
  refine g_aload_n hF dX5_init_4 rfl ?_
  refine g_new (ci := 4) (fs := [.null, .int 0]) hF rfl tyX4 tyX4_ok m_67 m_33 m_3 (fun j hj => by rcases (show j = 0 ∨ j = 1 by omega) with rfl | rfl <;> rfl) (Nat.le_of_ble_eq_true rfl) (Nat.le_of_ble_eq_true rfl) dX5_init_5 (fun q1 => ?_)
  refine g_dup hF dX5_init_8 rfl ?_
  refine g_bipush (v := (24)) hF dX5_init_9 rfl ?_
  refine g_callI hF (c_Row_init (cap := 24) (by decide)) cal_X4_init rfl m_68 (by decide) (Or.inl rfl) (Nat.le_of_ble_eq_true rfl) (Nat.le_of_ble_eq_true rfl) [1] rfl rfl rfl (Nat.le_of_ble_eq_true rfl) dX5_init_11 (fun r gs1 hpo => ?_)
  obtain ⟨a1, rfl, rfl⟩ := hpo
  refine ⟨Nat.le_refl _, ?_⟩
  refine g_putF (j := 0) hF hN 0 rfl rfl (by decide) rfl m_73 rfl (tyX5_ok 0 (by decide)) rfl rfl (Nat.le_of_ble_eq_true rfl) dX5_init_14 ?_
  try dsimp only [gput, gputA, List.set, stGs, List.cons_append, List.nil_append]
  refine g_aload_n hF dX5_init_17 rfl ?_
  refine g_new (ci := 4) (fs := [.null, .int 0]) hF rfl tyX4 tyX4_ok m_67 m_33 m_3 (fun j hj => by rcases (show j = 0 ∨ j = 1 by omega) with rfl | rfl <;> rfl) (Nat.le_of_ble_eq_true rfl) (Nat.le_of_ble_eq_true rfl) dX5_init_18 (fun q2 => ?_)
  refine g_dup hF dX5_init_21 rfl ?_
  refine g_bipush (v := (12)) hF dX5_init_22 rfl ?_
  refine g_callI hF (c_Row_init (cap := 12) (by decide)) cal_X4_init rfl m_68 (by decide) (Or.inl rfl) (Nat.le_of_ble_eq_true rfl) (Nat.le_of_ble_eq_true rfl) [2] rfl rfl rfl (Nat.le_of_ble_eq_true rfl) dX5_init_24 (fun r gs1 hpo => ?_)
  obtain ⟨a2, rfl, rfl⟩ := hpo
  refine ⟨Nat.le_refl _, ?_⟩
  refine g_putF (j := 1) hF hN 0 rfl rfl (by decide) rfl m_75 rfl (tyX5_ok 1 (by decide)) rfl rfl (Nat.le_of_ble_eq_true rfl) dX5_init_27 ?_
  try dsimp only [gput, gputA, List.set, stGs, List.cons_append, List.nil_append]
  refine g_aload_n hF dX5_init_30 rfl ?_
  refine g_new (ci := 4) (fs := [.null, .int 0]) hF rfl tyX4 tyX4_ok m_67 m_33 m_3 (fun j hj => by rcases (show j = 0 ∨ j = 1 by omega) with rfl | rfl <;> rfl) (Nat.le_of_ble_eq_true rfl) (Nat.le_of_ble_eq_true rfl) dX5_init_31 (fun q3 => ?_)
  refine g_dup hF dX5_init_34 rfl ?_
  refine g_bipush (v := (8)) hF dX5_init_35 rfl ?_
  refine g_callI hF (c_Row_init (cap := 8) (by decide)) cal_X4_init rfl m_68 (by decide) (Or.inl rfl) (Nat.le_of_ble_eq_true rfl) (Nat.le_of_ble_eq_true rfl) [3] rfl rfl rfl (Nat.le_of_ble_eq_true rfl) dX5_init_37 (fun r gs1 hpo => ?_)
  obtain ⟨a3, rfl, rfl⟩ := hpo
  refine ⟨Nat.le_refl _, ?_⟩
  refine g_putF (j := 2) hF hN 0 rfl rfl (by decide) rfl m_78 rfl (tyX5_ok 2 (by decide)) rfl rfl (Nat.le_of_ble_eq_true rfl) dX5_init_40 ?_
  try dsimp only [gput, gputA, List.set, stGs, List.cons_append, List.nil_append]
  refine g_aload_n hF dX5_init_43 rfl ?_
  refine g_new (ci := 4) (fs := [.null, .int 0]) hF rfl tyX4 tyX4_ok m_67 m_33 m_3 (fun j hj => by rcases (show j = 0 ∨ j = 1 by omega) with rfl | rfl <;> rfl) (Nat.le_of_ble_eq_true rfl) (Nat.le_of_ble_eq_true rfl) dX5_init_44 (fun q4 => ?_)
  refine g_dup hF dX5_init_47 rfl ?_
  refine g_bipush (v := (30)) hF dX5_init_48 rfl ?_
  refine g_callI hF (c_Row_init (cap := 30) (by decide)) cal_X4_init rfl m_68 (by decide) (Or.inl rfl) (Nat.le_of_ble_eq_true rfl) (Nat.le_of_ble_eq_true rfl) [4] rfl rfl rfl (Nat.le_of_ble_eq_true rfl) dX5_init_50 (fun r gs1 hpo => ?_)
  obtain ⟨a4, rfl, rfl⟩ := hpo
  refine ⟨Nat.le_refl _, ?_⟩
  refine g_putF (j := 3) hF hN 0 rfl rfl (by decide) rfl m_80 rfl (tyX5_ok 3 (by decide)) rfl rfl (Nat.le_of_ble_eq_true rfl) dX5_init_53 ?_
  try dsimp only [gput, gputA, List.set, stGs, List.cons_append, List.nil_append]
  refine g_aload_n hF dX5_init_56 rfl ?_
  refine g_get (j := 1) hF 0 rfl rfl (by decide) rfl m_75 rfl dX5_init_57 ?_
  refine g_callVd hF (c_Row_fillWithZeros (by omega)) cal_X4_fillWithZeros rfl m_69 (by decide) (Or.inl rfl) (Nat.le_of_ble_eq_true rfl) (Nat.le_of_ble_eq_true rfl) 2 rfl rfl [2] rfl rfl (Nat.le_of_ble_eq_true rfl) rfl (Nat.le_of_ble_eq_true rfl) dX5_init_60 ?_
  try dsimp only [gput, gputA, List.set, stGs, List.cons_append, List.nil_append]
  exact g_vret hF hR dX5_init_63 ⟨(h, (q1, a1), (q2, a2), (q3, a3), q4, a4), rfl, rfl, rfl⟩
set_option maxHeartbeats 4000000 in
set_option maxRecDepth 100000 in
theorem c_Past_init {E : Env3} {h : Nat} : Ct E none 2 201 2400 yX1_init cX1_init 2 none [.ref h] [[(h, .inr (1, [.null, .int 0, .int 0]))]] (fun r g => ∃ (ma : Nat) (ad : Nat → Nat), r = none ∧ g = [pastO h ma 0, arrM E.2.2 ma ad, momsW ad (fun _ _ => 0)]) := by
  refine Ct.of [some (.ref h), none] (by decide +kernel) rfl (Nat.le_of_ble_eq_true rfl) (fun F hE hF hR hN => ?_)
  subst hE
  refine g_aload_n hF dX1_init_0 rfl ?_
  refine g_objInit hF m_114 m_24 m_25 (by decide) (Nat.le_of_ble_eq_true rfl) dX1_init_1 ?_
  refine g_aload_n hF dX1_init_4 rfl ?_
  refine g_sipush (v := (200)) hF dX1_init_5 rfl ?_
  refine g_newq (N := 200) hF rfl 1 rfl m_115 m_116 (by decide) rfl (by decide) (Nat.le_of_ble_eq_true rfl) (Nat.le_of_ble_eq_true rfl) dX1_init_8 (fun r1 => ?_)
  refine g_putF (j := 0) hF hN 0 rfl rfl (by decide) rfl m_167 rfl (tyX1_ok 0 (by decide)) rfl rfl (Nat.le_of_ble_eq_true rfl) dX1_init_11 ?_
  try dsimp only [gput, gputA, List.set, stGs, List.cons_append, List.nil_append]
  refine g_iconst (v := (0)) hF dX1_init_14 rfl ?_
  refine g_istore_n hF dX1_init_15 (Nat.le_of_ble_eq_true rfl) rfl ?_
  have loop : ∀ i, i ≤ 200 → ∀ ad : Nat → Nat, G F (1 + i) (200 + 11 * i) [[(h, .inr (1, [.ref r1, .int 0, .int 0]))], [(r1, .inl (F.1.2.2 1, 200, .inr (.inr (.inr (.inr (adF ad i))))))], momsR ad (fun _ _ => 0) 0 i] 16 [some (.ref h), some (.int (nI i))] [] := by
    refine up_loop (Q := fun i => ∀ ad : Nat → Nat, G F (1 + i) (200 + 11 * i) [[(h, .inr (1, [.ref r1, .int 0, .int 0]))], [(r1, .inl (F.1.2.2 1, 200, .inr (.inr (.inr (.inr (adF ad i))))))], momsR ad (fun _ _ => 0) 0 i] 16 [some (.ref h), some (.int (nI i))] []) ?_ (fun i hi ih => ?_)
    · intro ad
      refine g_iload_n hF dX1_init_16 rfl ?_
      refine g_aload_n hF dX1_init_17 rfl ?_
      refine g_get (j := 0) hF 0 rfl rfl (by decide) rfl m_167 rfl dX1_init_18 ?_
      refine g_alen hF rfl 1 1 rfl rfl rfl dX1_init_21 ?_
      refine g_icmp_ge (tgt := 44) hF dX1_init_22 (by decide) (fun c_22 => ?_) (fun c_22 => absurd (nI_le (Nat.le_refl 200) (show (200 : Nat) < 2 ^ 31 by decide)) c_22)
      exact g_vret hF hR dX1_init_44 ⟨r1, ad, rfl, rfl⟩
    · intro ad
      refine g_iload_n hF dX1_init_16 rfl ?_
      refine g_aload_n hF dX1_init_17 rfl ?_
      refine g_get (j := 0) hF 0 rfl rfl (by decide) rfl m_167 rfl dX1_init_18 ?_
      refine g_alen hF rfl 1 1 rfl rfl rfl dX1_init_21 ?_
      refine g_icmp_ge (tgt := 44) hF dX1_init_22 (by decide) (fun c_22 => absurd c_22 (nI_ge hi (show (200 : Nat) < 2 ^ 31 by decide))) (fun c_22 => ?_)
      refine g_aload_n hF dX1_init_25 rfl ?_
      refine g_get (j := 0) hF 0 rfl rfl (by decide) rfl m_167 rfl dX1_init_26 ?_
      refine g_iload_n hF dX1_init_29 rfl ?_
      refine g_new (ci := 0) (fs := [.int 0, .int 0, .int 0, .int 0, .int 0, .int 0, .int 0, .int 0, .int 0, .int 0, .int 0]) hF rfl tyX0 tyX0_ok m_115 m_117 m_7 (fun j hj => by rcases (show j = 0 ∨ j = 1 ∨ j = 2 ∨ j = 3 ∨ j = 4 ∨ j = 5 ∨ j = 6 ∨ j = 7 ∨ j = 8 ∨ j = 9 ∨ j = 10 by omega) with rfl | rfl | rfl | rfl | rfl | rfl | rfl | rfl | rfl | rfl | rfl <;> rfl) (by omega) (by omega) dX1_init_30 (fun q1 => ?_)
      refine g_dup hF dX1_init_33 rfl ?_
      refine g_callIN hF (c_Mom_init (μ := fun _ => 0)) cal_X0_init rfl m_118 (by decide) (Or.inl rfl) (by omega) (by omega) [3] rfl rfl rfl (Nat.le_of_ble_eq_true rfl) dX1_init_34 (fun r gs1 hpo => ?_)
      obtain ⟨rfl, rfl⟩ := hpo
      refine ⟨Nat.le_refl _, ?_⟩
      try dsimp only [gput, gputA, List.set, stGs, List.cons_append, List.nil_append]
      refine g_aast hF rfl 1 1 3 i rfl rfl rfl rfl (vp_in_nI hi (show (200 : Nat) < 2 ^ 31 by decide)) (nI_clamp (by omega)) dX1_init_37 ?_
      try dsimp only [gput, gputA, List.set, stGs, List.cons_append, List.nil_append]
      refine g_iinc (v := nI (i + 1)) hF dX1_init_38 rfl (nI_1 i) rfl ?_
      refine g_goto (tgt := 16) hF dX1_init_41 (by decide) ?_
      refine g_regroup (gs' := [[(h, .inr (1, [.ref r1, .int 0, .int 0]))], [(r1, .inl (F.1.2.2 1, 200, .inr (.inr (.inr (.inr (adF (va_up ad i q1) (i + 1)))))))], momsR (va_up ad i q1) (fun _ _ => 0) 0 (i + 1)]) (by rw [adF_succ, ← momsR_push]; simp only [List.flatten_cons, List.flatten_nil, List.append_assoc, List.append_nil] <;> rfl) ?_
      refine g_widen (k' := 1 + (i + 1)) (n' := 200 + 11 * (i + 1)) (by omega) (by omega) ?_
      exact ih (va_up ad i q1)
  refine g_regroup (gs' := [[(h, .inr (1, [.ref r1, .int 0, .int 0]))], [(r1, .inl (F.1.2.2 1, 200, .inr (.inr (.inr (.inr (adF (fun _ => 0) 0))))))], momsR (fun _ => 0) (fun _ _ => 0) 0 0]) (by rw [adF_0]; rfl) ?_
  exact loop 0 (Nat.zero_le _) (fun _ => 0)
end
section
/-! Lantern: its picture -/
def stOv (A : AV) (v : SV) : va_W := stO A.1 A.2.1.1 A.2.2.1.1 A.2.2.2.1.1 A.2.2.2.2.1 v.2.2.2.2.1 v.2.2.2.2.2.1 v.2.2.2.2.2.2.1 v.2.2.2.2.2.2.2
def rw1 (cy : Nat → ClassId) (A : AV) (v : SV) : va_W := rowW cy A.2.1.1 A.2.1.2 24 v.1.1 v.1.2
def rw2 (cy : Nat → ClassId) (A : AV) (v : SV) : va_W := rowW cy A.2.2.1.1 A.2.2.1.2 12 v.2.1.1 v.2.1.2
def rw3 (cy : Nat → ClassId) (A : AV) (v : SV) : va_W := rowW cy A.2.2.2.1.1 A.2.2.2.1.2 8 v.2.2.1.1 v.2.2.1.2
def rw4 (cy : Nat → ClassId) (A : AV) (v : SV) : va_W := rowW cy A.2.2.2.2.1 A.2.2.2.2.2 30 v.2.2.2.1.1 v.2.2.2.1.2
def lanO (h p ri hs hp pts : Nat) (pc : Int32) (wts tps : Nat) (reason cause : Int32) (hT ti : Nat) : va_W := [(h, .inr (8, [.ref p, .ref ri, .ref hs, .ref hp, .ref pts, .int pc, .ref wts, .int 0, .ref tps, .int reason, .int cause, .ref hT, .ref ti]))]
def ptsA (cy : Nat → ClassId) (pts : Nat) (ap : Nat → Nat) : va_W := [(pts, .inl (cy 2, 6, .inr (.inr (.inr (.inr (adF ap 6))))))]
def tpsA (cy : Nat → ClassId) (tps : Nat) (tp : Nat → Nat) : va_W := [(tps, .inl (cy 4, 3, .inr (.inr (.inr (.inr (adF tp 3))))))]
theorem okS_ready {pc : RV} {v : SV} (h : okS v) : okS (readyF pc v) := by
  unfold readyF
  by_cases e : v.2.2.2.2.2.1 = 0
  · rw [if_pos e]; exact h
  · rw [if_neg e]; exact h
theorem pushR_le {cap : Nat} {r : RV} {x : Int32} (h : r.2 ≤ cap) : (pushR cap r x).2 ≤ cap := by
  show (if r.2 < cap then r.2 + 1 else r.2) ≤ cap
  split <;> omega
theorem popR_le {cap : Nat} {r : RV} (h : r.2 ≤ cap) : (popR r).2 ≤ cap := by
  show r.2 - 1 ≤ cap
  omega
theorem okS_ite {p : Prop} [Decidable p] {a b : SV} (ha : okS a) (hb : okS b) : okS (if p then a else b) := by
  by_cases h : p
  · rw [if_pos h]; exact ha
  · rw [if_neg h]; exact hb
theorem okS_mk {s c f u : RV} {a b r k : Int32} (h1 : s.2 ≤ 24) (h2 : c.2 ≤ 12) (h3 : f.2 ≤ 8) (h4 : u.2 ≤ 30) : okS (s, c, f, u, a, b, r, k) := ⟨h1, h2, h3, h4⟩
theorem okS_at {v : SV} {s c f u : RV} {a r : Int32} (h1 : s.2 ≤ 24) (h2 : c.2 ≤ 12) (h3 : f.2 ≤ 8) (h4 : u.2 ≤ 30) : okS (withAt v s c f u a r) := ⟨h1, h2, h3, h4⟩
theorem okS_perf {c m : Int32} {inp : RV} {v : SV} (h : okS v) : okS (perfF c m inp v) := by
  obtain ⟨h1, h2, h3, h4⟩ := h
  unfold perfF
  refine okS_ite (okS_at (pushR_le h1) h2 h3 h4) ?_
  refine okS_ite (okS_at (popR_le h1) h2 h3 h4) ?_
  refine okS_ite (okS_at (pushR_le h1) h2 h3 h4) ?_
  refine okS_ite (okS_at (pushR_le (pushR_le (popR_le (popR_le h1)))) h2 h3 h4) ?_
  refine okS_ite (okS_at (pushR_le h1) h2 h3 h4) ?_
  refine okS_ite (okS_at (pushR_le (popR_le h1)) h2 h3 h4) ?_
  refine okS_ite (okS_at (pushR_le h1) h2 h3 h4) ?_
  refine okS_ite (okS_at (popR_le h1) h2 h3 h4) ?_
  refine okS_ite (okS_at (pushR_le (popR_le h1)) h2 h3 h4) ?_
  refine okS_ite (okS_at (popR_le (popR_le h1)) h2 h3 h4) ?_
  refine okS_ite (okS_at h1 h2 h3 h4) ?_
  refine okS_ite (okS_at (popR_le h1) h2 h3 h4) ?_
  refine okS_ite (okS_at h1 h2 (pushR_le h3) h4) ?_
  refine okS_ite (okS_at h1 h2 (popR_le h3) h4) ?_
  refine okS_ite (okS_at (pushR_le h1) h2 h3 h4) ?_
  refine okS_ite (okS_at (popR_le h1) h2 h3 (pushR_le h4)) ?_
  refine okS_ite (okS_mk h1 h2 h3 h4) ?_
  exact okS_at (pushR_le (popR_le (popR_le h1))) h2 h3 h4
theorem okS_back {μ : Nat → Int32} {v : SV} (h : okS v) : okS (backF μ v) := okS_mk (show clampI (μ 1) 24 ≤ 24 from clampI_le) h.2.1 (show clampI (μ 4) 8 ≤ 8 from clampI_le) (show clampI (μ 7) 30 ≤ 30 from clampI_le)
theorem okS_clear {v : SV} : okS (clearF v) := okS_mk (show clampI 0 24 ≤ 24 from clampI_le) (Nat.le_refl 12) (show clampI 0 8 ≤ 8 from clampI_le) (show clampI 0 30 ≤ 30 from clampI_le)
theorem okS_copy {t v : SV} : okS (copyF t v) := okS_mk (Nat.min_le_right v.1.2 24) (Nat.min_le_right v.2.1.2 12) (Nat.min_le_right v.2.2.1.2 8) (Nat.min_le_right v.2.2.2.1.2 30)
theorem okS_init : okS initS := ⟨Nat.zero_le _, Nat.le_refl _, Nat.zero_le _, Nat.zero_le _⟩
set_option maxHeartbeats 4000000 in
set_option maxRecDepth 100000 in
theorem c_stopBy {E : Env3} {h p ri hp pts wts tps ti : Nat} {A : AV} {B : AV} {reason : Int32} {cause : Int32} {pc : Int32} {x y : Int32} : Cd E none 0 yX8_stopBy cX8_stopBy 3 none [.ref h, .int x, .int y] [lanO h p ri A.1 hp pts pc wts tps reason cause B.1 ti] none [lanO h p ri A.1 hp pts pc wts tps x y B.1 ti] := by
  refine Ct.of [some (.ref h), some (.int x), some (.int y)] (by decide +kernel) rfl (Nat.le_of_ble_eq_true rfl) (fun F hE hF hR hN => ?_)
  subst hE
  refine g_aload_n hF dX8_stopBy_0 rfl ?_
  refine g_iload_n hF dX8_stopBy_1 rfl ?_
  refine g_put (j := 9) hF 0 rfl rfl (by decide) rfl m_256 rfl (tyX8_ok 9 (by decide)) rfl rfl (Nat.le_of_ble_eq_true rfl) dX8_stopBy_2 ?_
  try dsimp only [gput, gputA, List.set]
  refine g_aload_n hF dX8_stopBy_5 rfl ?_
  refine g_iload_n hF dX8_stopBy_6 rfl ?_
  refine g_put (j := 10) hF 0 rfl rfl (by decide) rfl m_257 rfl (tyX8_ok 10 (by decide)) rfl rfl (Nat.le_of_ble_eq_true rfl) dX8_stopBy_7 ?_
  try dsimp only [gput, gputA, List.set]
  exact g_vret hF hR dX8_stopBy_10 ⟨rfl, rfl⟩
set_option maxHeartbeats 4000000 in
set_option maxRecDepth 100000 in
theorem c_pointNumbered_m1 {E : Env3} {h p ri hp pts wts tps ti : Nat} {A : AV} {B : AV} {reason : Int32} {cause : Int32} {pc : Int32}  : Cd E none 0 yX8_pointNumbered cX8_pointNumbered 2 (some (.object "Lantern$Point")) [.ref h, .int (-1)] [lanO h p ri A.1 hp pts pc wts tps reason cause B.1 ti] (some .null) [lanO h p ri A.1 hp pts pc wts tps reason cause B.1 ti] := by
  refine Ct.of [some (.ref h), some (.int (-1))] (by decide +kernel) rfl (Nat.le_of_ble_eq_true rfl) (fun F hE hF hR hN => ?_)
  subst hE
  refine g_iload_n hF dX8_pointNumbered_0 rfl ?_
  refine g_if_lt (tgt := 30) hF dX8_pointNumbered_1 (by decide) (fun c_1 => ?_) (fun c_1 => absurd (by decide) c_1)
  refine g_null hF dX8_pointNumbered_30 ?_
  exact g_aret hF hR (Or.inl ⟨_, rfl⟩) (Or.inl rfl) dX8_pointNumbered_31 ⟨rfl, rfl⟩
set_option maxHeartbeats 4000000 in
set_option maxRecDepth 100000 in
theorem c_pointNumbered_0 {E : Env3} {h p ri hp pts wts tps ti : Nat} {A : AV} {B : AV} {ap : Nat → Nat} {reason : Int32} {cause : Int32}  : Cd E none 0 yX8_pointNumbered cX8_pointNumbered 2 (some (.object "Lantern$Point")) [.ref h, .int 0] [lanO h p ri A.1 hp pts 1 wts tps reason cause B.1 ti, ptsA E.2.2 pts ap] (some (.ref (ap 0))) [lanO h p ri A.1 hp pts 1 wts tps reason cause B.1 ti, ptsA E.2.2 pts ap] := by
  refine Ct.of [some (.ref h), some (.int 0)] (by decide +kernel) rfl (Nat.le_of_ble_eq_true rfl) (fun F hE hF hR hN => ?_)
  subst hE
  refine g_iload_n hF dX8_pointNumbered_0 rfl ?_
  refine g_if_lt (tgt := 30) hF dX8_pointNumbered_1 (by decide) (fun c_1 => absurd c_1 (by decide)) (fun c_1 => ?_)
  refine g_iload_n hF dX8_pointNumbered_4 rfl ?_
  refine g_aload_n hF dX8_pointNumbered_5 rfl ?_
  refine g_get (j := 5) hF 0 rfl rfl (by decide) rfl m_252 rfl dX8_pointNumbered_6 ?_
  refine g_icmp_ge (tgt := 30) hF dX8_pointNumbered_9 (by decide) (fun c_9 => absurd c_9 (show ¬ (1 : Int32) ≤ 0 by decide)) (fun c_9 => ?_)
  refine g_iload_n hF dX8_pointNumbered_12 rfl ?_
  refine g_aload_n hF dX8_pointNumbered_13 rfl ?_
  refine g_get (j := 4) hF 0 rfl rfl (by decide) rfl m_251 rfl dX8_pointNumbered_14 ?_
  refine g_alen hF rfl 1 2 rfl rfl rfl dX8_pointNumbered_17 ?_
  refine g_icmp_ge (tgt := 30) hF dX8_pointNumbered_18 (by decide) (fun c_18 => absurd c_18 (show ¬ (6 : Int32) ≤ 0 by decide)) (fun c_18 => ?_)
  refine g_aload_n hF dX8_pointNumbered_21 rfl ?_
  refine g_get (j := 4) hF 0 rfl rfl (by decide) rfl m_251 rfl dX8_pointNumbered_22 ?_
  refine g_iload_n hF dX8_pointNumbered_25 rfl ?_
  refine g_aald hF rfl 1 2 rfl rfl (vp_in_nI (n := 0) (by decide) (by decide)) (adF_in (k := 0) rfl (by decide) (by decide)) dX8_pointNumbered_26 ?_
  refine g_goto (tgt := 31) hF dX8_pointNumbered_27 (by decide) ?_
  exact g_aret hF hR (Or.inl ⟨_, rfl⟩) (Or.inr ⟨_, rfl⟩) dX8_pointNumbered_31 ⟨rfl, rfl⟩
set_option maxHeartbeats 4000000 in
set_option maxRecDepth 100000 in
theorem c_watchMet {E : Env3} {h p ri hp pts wts tps ti ma cnt : Nat} {A : AV} {B : AV} {ad : Nat → Nat} {reason : Int32} {cause : Int32} {pc : Int32} (hc : cnt ≤ 200) (h1 : 1 ≤ cnt)  : Cd E none 1 yX8_watchMet cX8_watchMet 4 (some .int) [.ref h] [lanO h p ri A.1 hp pts pc wts tps reason cause B.1 ti, pastO hp ma cnt, arrM E.2.2 ma ad] (some (.int (-1))) [lanO h p ri A.1 hp pts pc wts tps reason cause B.1 ti, pastO hp ma cnt, arrM E.2.2 ma ad] := by
  refine Ct.of [some (.ref h), none, none, none] (by decide +kernel) rfl (Nat.le_of_ble_eq_true rfl) (fun F hE hF hR hN => ?_)
  subst hE
  refine g_aload_n hF dX8_watchMet_0 rfl ?_
  refine g_get (j := 3) hF 0 rfl rfl (by decide) rfl m_250 rfl dX8_watchMet_1 ?_
  refine g_iconst (v := (1)) hF dX8_watchMet_4 rfl ?_
  refine g_callVq hF (c_Past_ago (cnt := cnt) (j := 1) (by omega) (by omega) (by omega)) cal_X1_ago rfl m_558 (by decide) (Or.inl rfl) (Nat.zero_le _) (Nat.zero_le _) 1 rfl rfl [1, 2] rfl rfl rfl (Nat.le_of_ble_eq_true rfl) dX8_watchMet_5 ?_
  refine g_astore_n hF dX8_watchMet_8 (Nat.le_of_ble_eq_true rfl) rfl ?_
  refine g_aload_n hF dX8_watchMet_9 rfl ?_
  refine g_ifnonnull (tgt := 15) hF dX8_watchMet_10 (by decide) ?_
  refine g_iconst (v := (0)) hF dX8_watchMet_15 rfl ?_
  refine g_istore_n hF dX8_watchMet_16 (Nat.le_of_ble_eq_true rfl) rfl ?_
  refine g_iload_n hF dX8_watchMet_17 rfl ?_
  refine g_aload_n hF dX8_watchMet_18 rfl ?_
  refine g_get (j := 7) hF 0 rfl rfl (by decide) rfl m_254 rfl dX8_watchMet_19 ?_
  refine g_icmp_ge (tgt := 51) hF dX8_watchMet_22 (by decide) (fun c_22 => ?_) (fun c_22 => absurd (by decide) c_22)
  refine g_iconst (v := (-1)) hF dX8_watchMet_51 rfl ?_
  exact g_iret hF hR dX8_watchMet_52 ⟨rfl, rfl⟩
def toldF (reason cause : Int32) (cnt : Nat) (v : SV) (k : Int32) : Int32 := if k = 0 then v.2.2.2.2.1 else if k = 1 then v.2.2.2.2.2.1 else if k = 2 then v.2.2.2.2.2.2.2 else if k = 3 then nI v.1.2 else if k = 4 then nI v.2.2.1.2 else if k = 5 then v.2.2.2.2.2.2.1 else if k = 6 then nI v.2.2.2.1.2 else if k = 7 then nI cnt else if k = 8 then reason else cause
theorem told_out {k : Int32} (h : ¬ k < 0) (t0 : ¬ k = 0) (t1 : ¬ k = 1) (t2 : ¬ k = 2) (t3 : ¬ k = 3) (t4 : ¬ k = 4) (t5 : ¬ k = 5) (t6 : ¬ k = 6) (t7 : ¬ k = 7) (t8 : ¬ k = 8) (t9 : ¬ k = 9) : ¬ k < 10 := by
  obtain ⟨j, hj, rfl⟩ := nI_of h
  intro h2
  have h3 := (nI_ltI hj (show 10 < 2 ^ 31 by decide)).mp h2
  have : j = 0 ∨ j = 1 ∨ j = 2 ∨ j = 3 ∨ j = 4 ∨ j = 5 ∨ j = 6 ∨ j = 7 ∨ j = 8 ∨ j = 9 := by omega
  rcases this with rfl | rfl | rfl | rfl | rfl | rfl | rfl | rfl | rfl | rfl
  · exact t0 rfl
  · exact t1 rfl
  · exact t2 rfl
  · exact t3 rfl
  · exact t4 rfl
  · exact t5 rfl
  · exact t6 rfl
  · exact t7 rfl
  · exact t8 rfl
  · exact t9 rfl
set_option maxHeartbeats 4000000 in
set_option maxRecDepth 100000 in
theorem c_told {E : Env3} {h p ri hp pts wts tps ti ma cnt : Nat} {A : AV} {B : AV} {v : SV} {reason : Int32} {cause : Int32} {pc : Int32} {k : Int32} (hk : ¬ k < 0) (hk2 : k < 10)  : Cd E none 1 yX8_told cX8_told 2 (some .int) [.ref h, .int k] [lanO h p ri A.1 hp pts pc wts tps reason cause B.1 ti, stOv A v, rw1 E.2.2 A v, rw3 E.2.2 A v, rw4 E.2.2 A v, pastO hp ma cnt] (some (.int (toldF reason cause cnt v k))) [lanO h p ri A.1 hp pts pc wts tps reason cause B.1 ti, stOv A v, rw1 E.2.2 A v, rw3 E.2.2 A v, rw4 E.2.2 A v, pastO hp ma cnt] := by
  refine Ct.of [some (.ref h), some (.int k)] (by decide +kernel) rfl (Nat.le_of_ble_eq_true rfl) (fun F hE hF hR hN => ?_)
  subst hE
  refine g_iload_n hF dX8_told_0 rfl ?_
  by_cases t1_0 : k = 0
  · refine g_tableIn (off := 55) (tgt := 56) hF dX8_told_1 (by rw [t1_0]; decide) (by rw [t1_0]; decide) (by rw [t1_0]; rfl) (by decide) ?_
    refine g_aload_n hF dX8_told_56 rfl ?_
    refine g_get (j := 2) hF 0 rfl rfl (by decide) rfl m_249 rfl dX8_told_57 ?_
    refine g_getN (j := 4) hF 1 rfl rfl (by decide) rfl m_84 rfl dX8_told_60 ?_
    exact g_iret hF hR dX8_told_63 ⟨(by rw [t1_0]; rfl), rfl⟩
  by_cases t1_1 : k = 1
  · refine g_tableIn (off := 63) (tgt := 64) hF dX8_told_1 (by rw [t1_1]; decide) (by rw [t1_1]; decide) (by rw [t1_1]; rfl) (by decide) ?_
    refine g_aload_n hF dX8_told_64 rfl ?_
    refine g_get (j := 2) hF 0 rfl rfl (by decide) rfl m_249 rfl dX8_told_65 ?_
    refine g_getN (j := 5) hF 1 rfl rfl (by decide) rfl m_87 rfl dX8_told_68 ?_
    exact g_iret hF hR dX8_told_71 ⟨(by rw [t1_1]; rfl), rfl⟩
  by_cases t1_2 : k = 2
  · refine g_tableIn (off := 71) (tgt := 72) hF dX8_told_1 (by rw [t1_2]; decide) (by rw [t1_2]; decide) (by rw [t1_2]; rfl) (by decide) ?_
    refine g_aload_n hF dX8_told_72 rfl ?_
    refine g_get (j := 2) hF 0 rfl rfl (by decide) rfl m_249 rfl dX8_told_73 ?_
    refine g_getN (j := 7) hF 1 rfl rfl (by decide) rfl m_91 rfl dX8_told_76 ?_
    exact g_iret hF hR dX8_told_79 ⟨(by rw [t1_2]; rfl), rfl⟩
  by_cases t1_3 : k = 3
  · refine g_tableIn (off := 79) (tgt := 80) hF dX8_told_1 (by rw [t1_3]; decide) (by rw [t1_3]; decide) (by rw [t1_3]; rfl) (by decide) ?_
    refine g_aload_n hF dX8_told_80 rfl ?_
    refine g_get (j := 2) hF 0 rfl rfl (by decide) rfl m_249 rfl dX8_told_81 ?_
    refine g_getN (j := 0) hF 1 rfl rfl (by decide) rfl m_74 rfl dX8_told_84 ?_
    refine g_callVq hF (c_Row_size) cal_X4_size rfl m_367 (by decide) (Or.inl rfl) (Nat.zero_le _) (Nat.zero_le _) 2 rfl rfl [2] rfl rfl rfl (Nat.le_of_ble_eq_true rfl) dX8_told_87 ?_
    exact g_iret hF hR dX8_told_90 ⟨(by rw [t1_3]; rfl), rfl⟩
  by_cases t1_4 : k = 4
  · refine g_tableIn (off := 90) (tgt := 91) hF dX8_told_1 (by rw [t1_4]; decide) (by rw [t1_4]; decide) (by rw [t1_4]; rfl) (by decide) ?_
    refine g_aload_n hF dX8_told_91 rfl ?_
    refine g_get (j := 2) hF 0 rfl rfl (by decide) rfl m_249 rfl dX8_told_92 ?_
    refine g_getN (j := 2) hF 1 rfl rfl (by decide) rfl m_79 rfl dX8_told_95 ?_
    refine g_callVq hF (c_Row_size) cal_X4_size rfl m_367 (by decide) (Or.inl rfl) (Nat.zero_le _) (Nat.zero_le _) 3 rfl rfl [3] rfl rfl rfl (Nat.le_of_ble_eq_true rfl) dX8_told_98 ?_
    exact g_iret hF hR dX8_told_101 ⟨(by rw [t1_4]; rfl), rfl⟩
  by_cases t1_5 : k = 5
  · refine g_tableIn (off := 101) (tgt := 102) hF dX8_told_1 (by rw [t1_5]; decide) (by rw [t1_5]; decide) (by rw [t1_5]; rfl) (by decide) ?_
    refine g_aload_n hF dX8_told_102 rfl ?_
    refine g_get (j := 2) hF 0 rfl rfl (by decide) rfl m_249 rfl dX8_told_103 ?_
    refine g_getN (j := 6) hF 1 rfl rfl (by decide) rfl m_89 rfl dX8_told_106 ?_
    exact g_iret hF hR dX8_told_109 ⟨(by rw [t1_5]; rfl), rfl⟩
  by_cases t1_6 : k = 6
  · refine g_tableIn (off := 109) (tgt := 110) hF dX8_told_1 (by rw [t1_6]; decide) (by rw [t1_6]; decide) (by rw [t1_6]; rfl) (by decide) ?_
    refine g_aload_n hF dX8_told_110 rfl ?_
    refine g_get (j := 2) hF 0 rfl rfl (by decide) rfl m_249 rfl dX8_told_111 ?_
    refine g_getN (j := 3) hF 1 rfl rfl (by decide) rfl m_81 rfl dX8_told_114 ?_
    refine g_callVq hF (c_Row_size) cal_X4_size rfl m_367 (by decide) (Or.inl rfl) (Nat.zero_le _) (Nat.zero_le _) 4 rfl rfl [4] rfl rfl rfl (Nat.le_of_ble_eq_true rfl) dX8_told_117 ?_
    exact g_iret hF hR dX8_told_120 ⟨(by rw [t1_6]; rfl), rfl⟩
  by_cases t1_7 : k = 7
  · refine g_tableIn (off := 120) (tgt := 121) hF dX8_told_1 (by rw [t1_7]; decide) (by rw [t1_7]; decide) (by rw [t1_7]; rfl) (by decide) ?_
    refine g_aload_n hF dX8_told_121 rfl ?_
    refine g_get (j := 3) hF 0 rfl rfl (by decide) rfl m_250 rfl dX8_told_122 ?_
    refine g_callVq hF (c_Past_size) cal_X1_size rfl m_621 (by decide) (Or.inl rfl) (Nat.zero_le _) (Nat.zero_le _) 5 rfl rfl [5] rfl rfl rfl (Nat.le_of_ble_eq_true rfl) dX8_told_125 ?_
    exact g_iret hF hR dX8_told_128 ⟨(by rw [t1_7]; rfl), rfl⟩
  by_cases t1_8 : k = 8
  · refine g_tableIn (off := 128) (tgt := 129) hF dX8_told_1 (by rw [t1_8]; decide) (by rw [t1_8]; decide) (by rw [t1_8]; rfl) (by decide) ?_
    refine g_aload_n hF dX8_told_129 rfl ?_
    refine g_get (j := 9) hF 0 rfl rfl (by decide) rfl m_256 rfl dX8_told_130 ?_
    exact g_iret hF hR dX8_told_133 ⟨(by rw [t1_8]; rfl), rfl⟩
  by_cases t1_9 : k = 9
  · refine g_tableIn (off := 133) (tgt := 134) hF dX8_told_1 (by rw [t1_9]; decide) (by rw [t1_9]; decide) (by rw [t1_9]; rfl) (by decide) ?_
    refine g_aload_n hF dX8_told_134 rfl ?_
    refine g_get (j := 10) hF 0 rfl rfl (by decide) rfl m_257 rfl dX8_told_135 ?_
    exact g_iret hF hR dX8_told_138 ⟨(by rw [t1_9]; rfl), rfl⟩
  exact absurd hk2 (by have z := told_out hk t1_0 t1_1 t1_2 t1_3 t1_4 t1_5 t1_6 t1_7 t1_8 t1_9; exact z)
set_option maxHeartbeats 4000000 in
set_option maxRecDepth 100000 in
theorem c_stack {E : Env3} {h p ri hp pts wts tps ti : Nat} {A : AV} {B : AV} {v : SV} {reason : Int32} {cause : Int32} {pc : Int32} {i : Int32} (hn : v.1.2 ≤ 24) (hi : rowHas v.1.2 i = true)  : Cd E none 2 yX8_stack cX8_stack 2 (some .int) [.ref h, .int i] [lanO h p ri A.1 hp pts pc wts tps reason cause B.1 ti, stOv A v, rw1 E.2.2 A v] (some (.int (topR v.1 i))) [lanO h p ri A.1 hp pts pc wts tps reason cause B.1 ti, stOv A v, rw1 E.2.2 A v] := by
  refine Ct.of [some (.ref h), some (.int i)] (by decide +kernel) rfl (Nat.le_of_ble_eq_true rfl) (fun F hE hF hR hN => ?_)
  subst hE
  refine g_aload_n hF dX8_stack_0 rfl ?_
  refine g_get (j := 2) hF 0 rfl rfl (by decide) rfl m_249 rfl dX8_stack_1 ?_
  refine g_getN (j := 0) hF 1 rfl rfl (by decide) rfl m_74 rfl dX8_stack_4 ?_
  refine g_iload_n hF dX8_stack_7 rfl ?_
  refine g_callVq hF (c_Row_has) cal_X4_has rfl m_630 (by decide) (Or.inl rfl) (Nat.zero_le _) (Nat.zero_le _) 2 rfl rfl [2] rfl rfl rfl (Nat.le_of_ble_eq_true rfl) dX8_stack_8 ?_
  refine g_if_ne (tgt := 25) hF dX8_stack_11 (by decide) (fun c_11 => ?_) (fun c_11 => absurd c_11 (bI_n.mpr hi))
  refine g_aload_n hF dX8_stack_25 rfl ?_
  refine g_get (j := 2) hF 0 rfl rfl (by decide) rfl m_249 rfl dX8_stack_26 ?_
  refine g_getN (j := 0) hF 1 rfl rfl (by decide) rfl m_74 rfl dX8_stack_29 ?_
  refine g_iload_n hF dX8_stack_32 rfl ?_
  refine g_callVq hF (c_Row_fromTop (by first | omega | exact clampI_le | (split <;> omega)) (by omega)) cal_X4_fromTop rfl m_647 (by decide) (Or.inl rfl) (Nat.zero_le _) (Nat.zero_le _) 2 rfl rfl [2] rfl rfl rfl (Nat.le_of_ble_eq_true rfl) dX8_stack_33 ?_
  exact g_iret hF hR dX8_stack_36 ⟨rfl, rfl⟩
set_option maxHeartbeats 4000000 in
set_option maxRecDepth 100000 in
theorem c_frame {E : Env3} {h p ri hp pts wts tps ti : Nat} {A : AV} {B : AV} {v : SV} {reason : Int32} {cause : Int32} {pc : Int32} {i : Int32} (hn : v.2.2.1.2 ≤ 8) (hi : rowHas v.2.2.1.2 i = true)  : Cd E none 2 yX8_frame cX8_frame 2 (some .int) [.ref h, .int i] [lanO h p ri A.1 hp pts pc wts tps reason cause B.1 ti, stOv A v, rw3 E.2.2 A v] (some (.int (topR v.2.2.1 i))) [lanO h p ri A.1 hp pts pc wts tps reason cause B.1 ti, stOv A v, rw3 E.2.2 A v] := by
  refine Ct.of [some (.ref h), some (.int i)] (by decide +kernel) rfl (Nat.le_of_ble_eq_true rfl) (fun F hE hF hR hN => ?_)
  subst hE
  refine g_aload_n hF dX8_frame_0 rfl ?_
  refine g_get (j := 2) hF 0 rfl rfl (by decide) rfl m_249 rfl dX8_frame_1 ?_
  refine g_getN (j := 2) hF 1 rfl rfl (by decide) rfl m_79 rfl dX8_frame_4 ?_
  refine g_iload_n hF dX8_frame_7 rfl ?_
  refine g_callVq hF (c_Row_has) cal_X4_has rfl m_630 (by decide) (Or.inl rfl) (Nat.zero_le _) (Nat.zero_le _) 2 rfl rfl [2] rfl rfl rfl (Nat.le_of_ble_eq_true rfl) dX8_frame_8 ?_
  refine g_if_ne (tgt := 25) hF dX8_frame_11 (by decide) (fun c_11 => ?_) (fun c_11 => absurd c_11 (bI_n.mpr hi))
  refine g_aload_n hF dX8_frame_25 rfl ?_
  refine g_get (j := 2) hF 0 rfl rfl (by decide) rfl m_249 rfl dX8_frame_26 ?_
  refine g_getN (j := 2) hF 1 rfl rfl (by decide) rfl m_79 rfl dX8_frame_29 ?_
  refine g_iload_n hF dX8_frame_32 rfl ?_
  refine g_callVq hF (c_Row_fromTop (by first | omega | exact clampI_le | (split <;> omega)) (by omega)) cal_X4_fromTop rfl m_647 (by decide) (Or.inl rfl) (Nat.zero_le _) (Nat.zero_le _) 2 rfl rfl [2] rfl rfl rfl (Nat.le_of_ble_eq_true rfl) dX8_frame_33 ?_
  exact g_iret hF hR dX8_frame_36 ⟨rfl, rfl⟩
set_option maxHeartbeats 4000000 in
set_option maxRecDepth 100000 in
theorem c_output {E : Env3} {h p ri hp pts wts tps ti : Nat} {A : AV} {B : AV} {v : SV} {reason : Int32} {cause : Int32} {pc : Int32} {i : Int32} (hn : v.2.2.2.1.2 ≤ 30) (hi : rowHas v.2.2.2.1.2 i = true)  : Cd E none 2 yX8_output cX8_output 2 (some .int) [.ref h, .int i] [lanO h p ri A.1 hp pts pc wts tps reason cause B.1 ti, stOv A v, rw4 E.2.2 A v] (some (.int (getR v.2.2.2.1 i))) [lanO h p ri A.1 hp pts pc wts tps reason cause B.1 ti, stOv A v, rw4 E.2.2 A v] := by
  refine Ct.of [some (.ref h), some (.int i)] (by decide +kernel) rfl (Nat.le_of_ble_eq_true rfl) (fun F hE hF hR hN => ?_)
  subst hE
  refine g_aload_n hF dX8_output_0 rfl ?_
  refine g_get (j := 2) hF 0 rfl rfl (by decide) rfl m_249 rfl dX8_output_1 ?_
  refine g_getN (j := 3) hF 1 rfl rfl (by decide) rfl m_81 rfl dX8_output_4 ?_
  refine g_iload_n hF dX8_output_7 rfl ?_
  refine g_callVq hF (c_Row_has) cal_X4_has rfl m_630 (by decide) (Or.inl rfl) (Nat.zero_le _) (Nat.zero_le _) 2 rfl rfl [2] rfl rfl rfl (Nat.le_of_ble_eq_true rfl) dX8_output_8 ?_
  refine g_if_ne (tgt := 25) hF dX8_output_11 (by decide) (fun c_11 => ?_) (fun c_11 => absurd c_11 (bI_n.mpr hi))
  refine g_aload_n hF dX8_output_25 rfl ?_
  refine g_get (j := 2) hF 0 rfl rfl (by decide) rfl m_249 rfl dX8_output_26 ?_
  refine g_getN (j := 3) hF 1 rfl rfl (by decide) rfl m_81 rfl dX8_output_29 ?_
  refine g_iload_n hF dX8_output_32 rfl ?_
  refine g_callVq hF (c_Row_get (by first | omega | exact clampI_le | (split <;> omega)) (by omega)) cal_X4_get rfl m_654 (by decide) (Or.inl rfl) (Nat.zero_le _) (Nat.zero_le _) 2 rfl rfl [2] rfl rfl rfl (Nat.le_of_ble_eq_true rfl) dX8_output_33 ?_
  exact g_iret hF hR dX8_output_36 ⟨rfl, rfl⟩
set_option maxHeartbeats 4000000 in
set_option maxRecDepth 100000 in
theorem c_cell {E : Env3} {h p ri hp pts wts tps ti : Nat} {A : AV} {B : AV} {v : SV} {reason : Int32} {cause : Int32} {pc : Int32} {i : Int32} (hn : v.2.1.2 ≤ 12) (hi : isCellB i = true)  : Cd E none 1 yX8_cell cX8_cell 2 (some .int) [.ref h, .int i] [lanO h p ri A.1 hp pts pc wts tps reason cause B.1 ti, stOv A v, rw2 E.2.2 A v] (some (.int (getR v.2.1 i))) [lanO h p ri A.1 hp pts pc wts tps reason cause B.1 ti, stOv A v, rw2 E.2.2 A v] := by
  refine Ct.of [some (.ref h), some (.int i)] (by decide +kernel) rfl (Nat.le_of_ble_eq_true rfl) (fun F hE hF hR hN => ?_)
  subst hE
  refine g_iload_n hF dX8_cell_0 rfl ?_
  refine g_callSq hF (c_isCell) cal_X8_isCell rfl m_652 (by decide) (Or.inl rfl) (Nat.zero_le _) (Nat.zero_le _) [] rfl rfl rfl (Nat.le_of_ble_eq_true rfl) dX8_cell_1 ?_
  refine g_if_ne (tgt := 18) hF dX8_cell_4 (by decide) (fun c_4 => ?_) (fun c_4 => absurd c_4 (bI_n.mpr hi))
  refine g_aload_n hF dX8_cell_18 rfl ?_
  refine g_get (j := 2) hF 0 rfl rfl (by decide) rfl m_249 rfl dX8_cell_19 ?_
  refine g_getN (j := 1) hF 1 rfl rfl (by decide) rfl m_77 rfl dX8_cell_22 ?_
  refine g_iload_n hF dX8_cell_25 rfl ?_
  refine g_callVq hF (c_Row_get (by first | omega | exact clampI_le | (split <;> omega)) (by omega)) cal_X4_get rfl m_654 (by decide) (Or.inl rfl) (Nat.zero_le _) (Nat.zero_le _) 2 rfl rfl [2] rfl rfl rfl (Nat.le_of_ble_eq_true rfl) dX8_cell_26 ?_
  exact g_iret hF hR dX8_cell_29 ⟨rfl, rfl⟩
set_option maxHeartbeats 4000000 in
set_option maxRecDepth 100000 in
theorem c_ofStep_2 {E : Env3} {h p ri hp pts wts tps ti rc rn rt ac at0 np : Nat} {A : AV} {B : AV} {fc : Nat → Int32} {ft : Nat → Int32} {reason : Int32} {cause : Int32} {pc : Int32} {i : Int32} (hi : rowHas np i = true) (hn : np ≤ 80)  : Cd E none 2 yX8_ofStep cX8_ofStep 3 (some .int) [.ref h, .int i, .int 2] [lanO h p ri A.1 hp pts pc wts tps reason cause B.1 ti, progO p rc rn rt, rowW E.2.2 rc ac 80 fc np, rowW E.2.2 rt at0 80 ft np] (some (.int (rowGet ft np i))) [lanO h p ri A.1 hp pts pc wts tps reason cause B.1 ti, progO p rc rn rt, rowW E.2.2 rc ac 80 fc np, rowW E.2.2 rt at0 80 ft np] := by
  refine Ct.of [some (.ref h), some (.int i), some (.int 2)] (by decide +kernel) rfl (Nat.le_of_ble_eq_true rfl) (fun F hE hF hR hN => ?_)
  subst hE
  refine g_aload_n hF dX8_ofStep_0 rfl ?_
  refine g_get (j := 0) hF 0 rfl rfl (by decide) rfl m_247 rfl dX8_ofStep_1 ?_
  refine g_iload_n hF dX8_ofStep_4 rfl ?_
  refine g_callVq hF (c_Prog_has) cal_X3_has rfl m_659 (by decide) (Or.inl rfl) (Nat.zero_le _) (Nat.zero_le _) 1 rfl rfl [1, 2] rfl rfl rfl (Nat.le_of_ble_eq_true rfl) dX8_ofStep_5 ?_
  refine g_if_ne (tgt := 21) hF dX8_ofStep_8 (by decide) (fun c_8 => ?_) (fun c_8 => absurd c_8 (bI_n.mpr hi))
  refine g_iload_n hF dX8_ofStep_21 rfl ?_
  refine g_tableIn (off := 44) (tgt := 66) hF dX8_ofStep_22 (by rw [show (2 : Int32) = 2 from rfl]; decide) (by rw [show (2 : Int32) = 2 from rfl]; decide) (by rw [show (2 : Int32) = 2 from rfl]; rfl) (by decide) ?_
  refine g_aload_n hF dX8_ofStep_66 rfl ?_
  refine g_get (j := 0) hF 0 rfl rfl (by decide) rfl m_247 rfl dX8_ofStep_67 ?_
  refine g_iload_n hF dX8_ofStep_70 rfl ?_
  refine g_callVq hF (c_Prog_timesAt (by omega)) cal_X3_timesAt rfl m_663 (by decide) (Or.inl rfl) (Nat.zero_le _) (Nat.zero_le _) 1 rfl rfl [1, 3] rfl rfl rfl (Nat.le_of_ble_eq_true rfl) dX8_ofStep_71 ?_
  exact g_iret hF hR dX8_ofStep_74 ⟨rfl, rfl⟩
set_option maxHeartbeats 4000000 in
set_option maxRecDepth 100000 in
theorem c_wroteAgo {E : Env3} {h p ri hp pts wts tps ti ma cnt : Nat} {A : AV} {B : AV} {ad : Nat → Nat} {M : Nat → Nat → Int32} {reason : Int32} {cause : Int32} {pc : Int32} {c : Int32} (hi : isCellB c = true) (hc : cnt ≤ 200)  : Cd E none 2 yX8_wroteAgo cX8_wroteAgo 2 (some .int) [.ref h, .int c] [lanO h p ri A.1 hp pts pc wts tps reason cause B.1 ti, pastO hp ma cnt, arrM E.2.2 ma ad, momsW ad M] (some (.int (storedD M cnt c cnt))) [lanO h p ri A.1 hp pts pc wts tps reason cause B.1 ti, pastO hp ma cnt, arrM E.2.2 ma ad, momsW ad M] := by
  refine Ct.of [some (.ref h), some (.int c)] (by decide +kernel) rfl (Nat.le_of_ble_eq_true rfl) (fun F hE hF hR hN => ?_)
  subst hE
  refine g_iload_n hF dX8_wroteAgo_0 rfl ?_
  refine g_callSq hF (c_isCell) cal_X8_isCell rfl m_652 (by decide) (Or.inl rfl) (Nat.zero_le _) (Nat.zero_le _) [] rfl rfl rfl (Nat.le_of_ble_eq_true rfl) dX8_wroteAgo_1 ?_
  refine g_if_ne (tgt := 18) hF dX8_wroteAgo_4 (by decide) (fun c_4 => ?_) (fun c_4 => absurd c_4 (bI_n.mpr hi))
  refine g_aload_n hF dX8_wroteAgo_18 rfl ?_
  refine g_get (j := 3) hF 0 rfl rfl (by decide) rfl m_250 rfl dX8_wroteAgo_19 ?_
  refine g_iload_n hF dX8_wroteAgo_22 rfl ?_
  refine g_callVq hF (c_Past_storedAgo (by omega)) cal_X1_storedAgo rfl m_698 (by decide) (Or.inl rfl) (Nat.zero_le _) (Nat.zero_le _) 1 rfl rfl [1, 2, 3] rfl rfl rfl (Nat.le_of_ble_eq_true rfl) dX8_wroteAgo_23 ?_
  exact g_iret hF hR dX8_wroteAgo_26 ⟨rfl, rfl⟩
set_option maxHeartbeats 4000000 in
set_option maxRecDepth 100000 in
theorem c_beginsAtStart {E : Env3} {h p ri hp pts wts tps ti ma cnt : Nat} {A : AV} {B : AV} {v : SV} {reason : Int32} {cause : Int32} {pc : Int32} (hck : v.2.2.2.2.2.2.2 = nI cnt)  : Cd E none 1 yX8_beginsAtStart cX8_beginsAtStart 1 (some .boolean) [.ref h] [lanO h p ri A.1 hp pts pc wts tps reason cause B.1 ti, stOv A v, pastO hp ma cnt] (some (.int 1)) [lanO h p ri A.1 hp pts pc wts tps reason cause B.1 ti, stOv A v, pastO hp ma cnt] := by
  refine Ct.of [some (.ref h)] (by decide +kernel) rfl (Nat.le_of_ble_eq_true rfl) (fun F hE hF hR hN => ?_)
  subst hE
  refine g_aload_n hF dX8_beginsAtStart_0 rfl ?_
  refine g_get (j := 2) hF 0 rfl rfl (by decide) rfl m_249 rfl dX8_beginsAtStart_1 ?_
  refine g_getN (j := 7) hF 1 rfl rfl (by decide) rfl m_91 rfl dX8_beginsAtStart_4 ?_
  refine g_aload_n hF dX8_beginsAtStart_7 rfl ?_
  refine g_get (j := 3) hF 0 rfl rfl (by decide) rfl m_250 rfl dX8_beginsAtStart_8 ?_
  refine g_callVq hF (c_Past_size) cal_X1_size rfl m_621 (by decide) (Or.inl rfl) (Nat.zero_le _) (Nat.zero_le _) 2 rfl rfl [2] rfl rfl rfl (Nat.le_of_ble_eq_true rfl) dX8_beginsAtStart_11 ?_
  refine g_icmp_ne (tgt := 21) hF dX8_beginsAtStart_14 (by decide) (fun c_14 => absurd hck c_14) (fun c_14 => ?_)
  refine g_iconst (v := (1)) hF dX8_beginsAtStart_17 rfl ?_
  refine g_goto (tgt := 22) hF dX8_beginsAtStart_18 (by decide) ?_
  exact g_zret hF hR dX8_beginsAtStart_22 rfl ⟨rfl, rfl⟩
set_option maxHeartbeats 4000000 in
set_option maxRecDepth 100000 in
theorem c_tapeAt {E : Env3} {h p ri hp pts wts tps ti : Nat} {A : AV} {B : AV} {tp : Nat → Nat} {reason : Int32} {cause : Int32} {pc : Int32}  : Cd E none 0 yX8_tapeAt cX8_tapeAt 2 (some (.object "Lantern$Tape")) [.ref h, .int 1] [lanO h p ri A.1 hp pts pc wts tps reason cause B.1 ti, tpsA E.2.2 tps tp] (some (.ref (tp 1))) [lanO h p ri A.1 hp pts pc wts tps reason cause B.1 ti, tpsA E.2.2 tps tp] := by
  refine Ct.of [some (.ref h), some (.int 1)] (by decide +kernel) rfl (Nat.le_of_ble_eq_true rfl) (fun F hE hF hR hN => ?_)
  subst hE
  refine g_iload_n hF dX8_tapeAt_0 rfl ?_
  refine g_if_lt (tgt := 22) hF dX8_tapeAt_1 (by decide) (fun c_1 => absurd c_1 (by decide)) (fun c_1 => ?_)
  refine g_iload_n hF dX8_tapeAt_4 rfl ?_
  refine g_aload_n hF dX8_tapeAt_5 rfl ?_
  refine g_get (j := 8) hF 0 rfl rfl (by decide) rfl m_255 rfl dX8_tapeAt_6 ?_
  refine g_alen hF rfl 1 4 rfl rfl rfl dX8_tapeAt_9 ?_
  refine g_icmp_ge (tgt := 22) hF dX8_tapeAt_10 (by decide) (fun c_10 => absurd c_10 (show ¬ (3 : Int32) ≤ 1 by decide)) (fun c_10 => ?_)
  refine g_aload_n hF dX8_tapeAt_13 rfl ?_
  refine g_get (j := 8) hF 0 rfl rfl (by decide) rfl m_255 rfl dX8_tapeAt_14 ?_
  refine g_iload_n hF dX8_tapeAt_17 rfl ?_
  refine g_aald hF rfl 1 4 rfl rfl (vp_in_nI (n := 1) (by decide) (by decide)) (adF_in (k := 1) rfl (by decide) (by decide)) dX8_tapeAt_18 ?_
  refine g_goto (tgt := 23) hF dX8_tapeAt_19 (by decide) ?_
  exact g_aret hF hR (Or.inl ⟨_, rfl⟩) (Or.inr ⟨_, rfl⟩) dX8_tapeAt_23 ⟨rfl, rfl⟩
end
section
/-! Lantern: steps, runs, going back, trying out -/
section GSJ
variable {F : Fix} {k n pc : Nat} {gs : List va_W} {lv : List (Option Value)} {st : List Value}
theorem g_split3 (j : Nat) {x y z w : va_W} (hg : gs[j]? = some w) (e : w = x ++ (y ++ z)) (kk : G F k n (gs.take j ++ (x :: y :: z :: gs.drop (j + 1))) pc lv st) : G F k n gs pc lv st := by
  refine g_regroup ?_ kk
  obtain ⟨hl, hw⟩ := List.getElem?_eq_some_iff.mp hg
  have h1 : gs = gs.take j ++ (w :: gs.drop (j + 1)) := by rw [← hw, ← List.drop_eq_getElem_cons hl, List.take_append_drop]
  rw [List.flatten_append, List.flatten_cons, List.flatten_cons, List.flatten_cons]
  conv => lhs; rw [h1, List.flatten_append, List.flatten_cons, e]
  simp only [List.append_assoc]
theorem g_join3 (j : Nat) {x y z w : va_W} {rest : List va_W} (hg : gs.drop j = x :: y :: z :: rest) (e : x ++ (y ++ z) = w) (kk : G F k n (gs.take j ++ (w :: rest)) pc lv st) : G F k n gs pc lv st := by
  refine g_regroup ?_ kk
  have h1 : gs = gs.take j ++ (x :: y :: z :: rest) := by rw [← hg, List.take_append_drop]
  rw [List.flatten_append, List.flatten_cons, ← e]
  conv => lhs; rw [h1, List.flatten_append, List.flatten_cons, List.flatten_cons, List.flatten_cons]
  simp only [List.append_assoc]
end GSJ
abbrev RS : Type := (Nat → Int32) × SV × Nat × (Nat → Nat → Int32)
def stepR (pc pn inp : RV) (x : RS) : RS := (rowPut x.1 pc.2 (readyF pc x.2.1).2.2.2.2.1 (rowGet x.1 pc.2 (readyF pc x.2.1).2.2.2.2.1 + 1), perfF (rowGet pc.1 pc.2 (readyF pc x.2.1).2.2.2.2.1) (rowGet pn.1 pn.2 (readyF pc x.2.1).2.2.2.2.1) inp (readyF pc x.2.1), x.2.2.1 + 1, updM x.2.2.2 x.2.2.1 (descM (rowGet pc.1 pc.2 (readyF pc x.2.1).2.2.2.2.1) (rowGet pn.1 pn.2 (readyF pc x.2.1).2.2.2.2.1) (x.2.2.2 x.2.2.1) (readyF pc x.2.1)))
def readR (pc : RV) (x : RS) : RS := (x.1, readyF pc x.2.1, x.2.2.1, x.2.2.2)
def runR (pc pn inp : RV) (hit : SV → Bool) : Nat → RS → Nat × RS × Int32
  | 0, x => (0, x, 6)
  | k + 1, x => if ¬ (readyF pc x.2.1).2.2.2.2.2.1 = 0 then (0, readR pc x, if (readyF pc x.2.1).2.2.2.2.2.1 = 1 then 1 else 2) else if (stepR pc pn inp x).2.1.2.2.2.2.2.1 = 1 then (1, stepR pc pn inp x, 1) else if hit (stepR pc pn inp x).2.1 = true then (1, stepR pc pn inp x, 5) else ((runR pc pn inp hit k (stepR pc pn inp x)).1 + 1, (runR pc pn inp hit k (stepR pc pn inp x)).2)
def tryF (pc pn inp : RV) : Nat → SV → Nat × SV
  | 0, v => (0, v)
  | k + 1, v => if ¬ (readyF pc v).2.2.2.2.2.1 = 0 then (0, readyF pc v) else ((tryF pc pn inp k (perfF (rowGet pc.1 pc.2 (readyF pc v).2.2.2.2.1) (rowGet pn.1 pn.2 (readyF pc v).2.2.2.2.1) inp (readyF pc v))).1 + 1, (tryF pc pn inp k (perfF (rowGet pc.1 pc.2 (readyF pc v).2.2.2.2.1) (rowGet pn.1 pn.2 (readyF pc v).2.2.2.2.1) inp (readyF pc v))).2)
set_option maxHeartbeats 4000000 in
set_option maxRecDepth 100000 in
theorem c_doStep_yes {E : Env3} {h p ri hp pts wts tps ti rc rn rt ac an at0 np ai ni ma cnt : Nat} {A : AV} {B : AV} {v : SV} {ad : Nat → Nat} {fc : Nat → Int32} {fn : Nat → Int32} {ft : Nat → Int32} {fi : Nat → Int32} {M : Nat → Nat → Int32} {reason : Int32} {cause : Int32} {pc : Int32} (hv : okS v) (hnp : np ≤ 80) (hni : ni ≤ 20) (hc : cnt < 200) (hr : (readyF (fc, np) v).2.2.2.2.2.1 = 0)  : Cd E none 4 yX8_doStep cX8_doStep 1 (some .boolean) [.ref h] [lanO h p ri A.1 hp pts pc wts tps reason cause B.1 ti, progO p rc rn rt, rowW E.2.2 rc ac 80 fc np, rowW E.2.2 rn an 80 fn np, rowW E.2.2 rt at0 80 ft np, rowW E.2.2 ri ai 20 fi ni, stOv A v, rw1 E.2.2 A v, rw2 E.2.2 A v, rw3 E.2.2 A v, rw4 E.2.2 A v, pastO hp ma cnt, arrM E.2.2 ma ad, momsW ad M] (some (.int 1)) [lanO h p ri A.1 hp pts pc wts tps reason cause B.1 ti, progO p rc rn rt, rowW E.2.2 rc ac 80 fc np, rowW E.2.2 rn an 80 fn np, rowW E.2.2 rt at0 80 (rowPut ft np (readyF (fc, np) v).2.2.2.2.1 (rowGet ft np (readyF (fc, np) v).2.2.2.2.1 + 1)) np, rowW E.2.2 ri ai 20 fi ni, stOv A (perfF (rowGet fc np (readyF (fc, np) v).2.2.2.2.1) (rowGet fn np (readyF (fc, np) v).2.2.2.2.1) (fi, ni) (readyF (fc, np) v)), rw1 E.2.2 A (perfF (rowGet fc np (readyF (fc, np) v).2.2.2.2.1) (rowGet fn np (readyF (fc, np) v).2.2.2.2.1) (fi, ni) (readyF (fc, np) v)), rw2 E.2.2 A (perfF (rowGet fc np (readyF (fc, np) v).2.2.2.2.1) (rowGet fn np (readyF (fc, np) v).2.2.2.2.1) (fi, ni) (readyF (fc, np) v)), rw3 E.2.2 A (perfF (rowGet fc np (readyF (fc, np) v).2.2.2.2.1) (rowGet fn np (readyF (fc, np) v).2.2.2.2.1) (fi, ni) (readyF (fc, np) v)), rw4 E.2.2 A (perfF (rowGet fc np (readyF (fc, np) v).2.2.2.2.1) (rowGet fn np (readyF (fc, np) v).2.2.2.2.1) (fi, ni) (readyF (fc, np) v)), pastO hp ma (cnt + 1), arrM E.2.2 ma ad, momsW ad (updM M cnt (descM (rowGet fc np (readyF (fc, np) v).2.2.2.2.1) (rowGet fn np (readyF (fc, np) v).2.2.2.2.1) (M cnt) (readyF (fc, np) v)))] := by
  refine Ct.of [some (.ref h)] (by decide +kernel) rfl (Nat.le_of_ble_eq_true rfl) (fun F hE hF hR hN => ?_)
  subst hE
  refine g_aload_n hF dX8_doStep_0 rfl ?_
  refine g_get (j := 2) hF 0 rfl rfl (by decide) rfl m_249 rfl dX8_doStep_1 ?_
  refine g_aload_n hF dX8_doStep_4 rfl ?_
  refine g_get (j := 0) hF 0 rfl rfl (by decide) rfl m_247 rfl dX8_doStep_5 ?_
  refine g_callVd hF (c_S_readies (by first | assumption | exact okS_ready (by assumption) | exact okS_perf (okS_ready (by assumption)) | exact okS_perf (by assumption) | exact okS_copy | exact okS_clear | exact okS_back (by assumption)) (by omega)) cal_X5_readies rfl m_455 (by decide) (Or.inl rfl) (Nat.zero_le _) (Nat.zero_le _) 6 rfl rfl [6, 7, 8, 9, 10, 1, 2] rfl rfl (Nat.le_of_ble_eq_true rfl) rfl (Nat.le_of_ble_eq_true rfl) dX8_doStep_8 ?_
  try dsimp only [gput, gputA, List.set, stGs, List.cons_append, List.nil_append]
  refine g_if_ne (tgt := 16) hF dX8_doStep_11 (by decide) (fun c_11 => ?_) (fun c_11 => absurd c_11 (bI_n.mpr (decide_eq_true hr)))
  refine g_aload_n hF dX8_doStep_16 rfl ?_
  refine g_get (j := 0) hF 0 rfl rfl (by decide) rfl m_247 rfl dX8_doStep_17 ?_
  refine g_aload_n hF dX8_doStep_20 rfl ?_
  refine g_get (j := 2) hF 0 rfl rfl (by decide) rfl m_249 rfl dX8_doStep_21 ?_
  refine g_getN (j := 4) hF 6 rfl rfl (by decide) rfl m_84 rfl dX8_doStep_24 ?_
  refine g_callVd hF (c_Prog_countTime (by omega)) cal_X3_countTime rfl m_496 (by decide) (Or.inl rfl) (Nat.zero_le _) (Nat.zero_le _) 1 rfl rfl [1, 4] rfl rfl (Nat.le_of_ble_eq_true rfl) rfl (Nat.le_of_ble_eq_true rfl) dX8_doStep_27 ?_
  try dsimp only [gput, gputA, List.set, stGs, List.cons_append, List.nil_append]
  refine g_aload_n hF dX8_doStep_30 rfl ?_
  refine g_get (j := 2) hF 0 rfl rfl (by decide) rfl m_249 rfl dX8_doStep_31 ?_
  refine g_aload_n hF dX8_doStep_34 rfl ?_
  refine g_get (j := 3) hF 0 rfl rfl (by decide) rfl m_250 rfl dX8_doStep_35 ?_
  refine g_callVd hF (c_Past_newest (by omega)) cal_X1_newest rfl m_500 (by decide) (Or.inl rfl) (Nat.zero_le _) (Nat.zero_le _) 11 rfl rfl [11, 12] rfl rfl (Nat.le_of_ble_eq_true rfl) rfl (Nat.le_of_ble_eq_true rfl) dX8_doStep_38 ?_
  try dsimp only [gput, gputA, List.set, stGs, List.cons_append, List.nil_append]
  refine g_split3 13 rfl (mom_split (k := cnt) (by omega)) ?_
  try dsimp only [List.take, List.drop, List.cons_append, List.nil_append]
  refine g_aload_n hF dX8_doStep_41 rfl ?_
  refine g_get (j := 0) hF 0 rfl rfl (by decide) rfl m_247 rfl dX8_doStep_42 ?_
  refine g_callVd hF (c_S_describe (by first | assumption | exact okS_ready (by assumption) | exact okS_perf (okS_ready (by assumption)) | exact okS_perf (by assumption) | exact okS_copy | exact okS_clear | exact okS_back (by assumption)) (by omega) (by omega)) cal_X5_describe rfl m_504 (by decide) (Or.inl rfl) (Nat.zero_le _) (Nat.zero_le _) 6 rfl rfl [6, 7, 8, 9, 10, 14, 1, 2, 3] rfl rfl (Nat.le_of_ble_eq_true rfl) rfl (Nat.le_of_ble_eq_true rfl) dX8_doStep_45 ?_
  try dsimp only [gput, gputA, List.set, stGs, List.cons_append, List.nil_append]
  refine g_join3 13 rfl (mom_join (k := cnt) (by omega)) ?_
  try dsimp only [List.take, List.drop, List.cons_append, List.nil_append]
  refine g_aload_n hF dX8_doStep_48 rfl ?_
  refine g_get (j := 2) hF 0 rfl rfl (by decide) rfl m_249 rfl dX8_doStep_49 ?_
  refine g_aload_n hF dX8_doStep_52 rfl ?_
  refine g_get (j := 0) hF 0 rfl rfl (by decide) rfl m_247 rfl dX8_doStep_53 ?_
  refine g_aload_n hF dX8_doStep_56 rfl ?_
  refine g_get (j := 1) hF 0 rfl rfl (by decide) rfl m_248 rfl dX8_doStep_57 ?_
  refine g_callVd hF (c_S_perform (by first | assumption | exact okS_ready (by assumption) | exact okS_perf (okS_ready (by assumption)) | exact okS_perf (by assumption) | exact okS_copy | exact okS_clear | exact okS_back (by assumption)) (by omega) (by omega) (by omega)) cal_X5_perform rfl m_517 (by decide) (Or.inl rfl) (Nat.zero_le _) (Nat.zero_le _) 6 rfl rfl [6, 7, 8, 9, 10, 1, 2, 3, 5] rfl rfl (Nat.le_of_ble_eq_true rfl) rfl (Nat.le_of_ble_eq_true rfl) dX8_doStep_60 ?_
  try dsimp only [gput, gputA, List.set, stGs, List.cons_append, List.nil_append]
  refine g_iconst (v := (1)) hF dX8_doStep_63 rfl ?_
  exact g_zret hF hR dX8_doStep_64 rfl ⟨rfl, rfl⟩
set_option maxHeartbeats 4000000 in
set_option maxRecDepth 100000 in
theorem c_doStep_no {E : Env3} {h p ri hp pts wts tps ti rc rn rt ac an at0 np ai ni ma cnt : Nat} {A : AV} {B : AV} {v : SV} {ad : Nat → Nat} {fc : Nat → Int32} {fn : Nat → Int32} {ft : Nat → Int32} {fi : Nat → Int32} {M : Nat → Nat → Int32} {reason : Int32} {cause : Int32} {pc : Int32} (hv : okS v) (hnp : np ≤ 80) (hni : ni ≤ 20) (hr : ¬ (readyF (fc, np) v).2.2.2.2.2.1 = 0)  : Cd E none 4 yX8_doStep cX8_doStep 1 (some .boolean) [.ref h] [lanO h p ri A.1 hp pts pc wts tps reason cause B.1 ti, progO p rc rn rt, rowW E.2.2 rc ac 80 fc np, rowW E.2.2 rn an 80 fn np, rowW E.2.2 rt at0 80 ft np, rowW E.2.2 ri ai 20 fi ni, stOv A v, rw1 E.2.2 A v, rw2 E.2.2 A v, rw3 E.2.2 A v, rw4 E.2.2 A v, pastO hp ma cnt, arrM E.2.2 ma ad, momsW ad M] (some (.int 0)) [lanO h p ri A.1 hp pts pc wts tps reason cause B.1 ti, progO p rc rn rt, rowW E.2.2 rc ac 80 fc np, rowW E.2.2 rn an 80 fn np, rowW E.2.2 rt at0 80 ft np, rowW E.2.2 ri ai 20 fi ni, stOv A (readyF (fc, np) v), rw1 E.2.2 A (readyF (fc, np) v), rw2 E.2.2 A (readyF (fc, np) v), rw3 E.2.2 A (readyF (fc, np) v), rw4 E.2.2 A (readyF (fc, np) v), pastO hp ma cnt, arrM E.2.2 ma ad, momsW ad M] := by
  refine Ct.of [some (.ref h)] (by decide +kernel) rfl (Nat.le_of_ble_eq_true rfl) (fun F hE hF hR hN => ?_)
  subst hE
  refine g_aload_n hF dX8_doStep_0 rfl ?_
  refine g_get (j := 2) hF 0 rfl rfl (by decide) rfl m_249 rfl dX8_doStep_1 ?_
  refine g_aload_n hF dX8_doStep_4 rfl ?_
  refine g_get (j := 0) hF 0 rfl rfl (by decide) rfl m_247 rfl dX8_doStep_5 ?_
  refine g_callVd hF (c_S_readies (by first | assumption | exact okS_ready (by assumption) | exact okS_perf (okS_ready (by assumption)) | exact okS_perf (by assumption) | exact okS_copy | exact okS_clear | exact okS_back (by assumption)) (by omega)) cal_X5_readies rfl m_455 (by decide) (Or.inl rfl) (Nat.zero_le _) (Nat.zero_le _) 6 rfl rfl [6, 7, 8, 9, 10, 1, 2] rfl rfl (Nat.le_of_ble_eq_true rfl) rfl (Nat.le_of_ble_eq_true rfl) dX8_doStep_8 ?_
  try dsimp only [gput, gputA, List.set, stGs, List.cons_append, List.nil_append]
  refine g_if_ne (tgt := 16) hF dX8_doStep_11 (by decide) (fun c_11 => absurd (bI_0.mpr (decide_eq_false hr)) c_11) (fun c_11 => ?_)
  refine g_iconst (v := (0)) hF dX8_doStep_14 rfl ?_
  exact g_zret hF hR dX8_doStep_15 rfl ⟨rfl, rfl⟩
end
section
/-! runs without points, going back, trying out -/
theorem neg1_lt {n : Nat} (h : n < 2 ^ 31) : (-1 : Int32) < nI n := by
  rw [Int32.lt_iff_toInt_lt, nI_toInt h]
  have e : (-1 : Int32).toInt = -1 := by decide
  rw [e]
  omega
theorem runR_stop {pc pn inp : RV} {hit : SV → Bool} {k : Nat} {x : RS} (h : ¬ (readyF pc x.2.1).2.2.2.2.2.1 = 0) : runR pc pn inp hit (k + 1) x = (0, readR pc x, if (readyF pc x.2.1).2.2.2.2.2.1 = 1 then 1 else 2) := by
  show (if _ then _ else _) = _
  rw [if_pos h]
theorem runR_halt {pc pn inp : RV} {hit : SV → Bool} {k : Nat} {x : RS} (h : (readyF pc x.2.1).2.2.2.2.2.1 = 0) (h1 : (stepR pc pn inp x).2.1.2.2.2.2.2.1 = 1) : runR pc pn inp hit (k + 1) x = (1, stepR pc pn inp x, 1) := by
  show (if _ then _ else _) = _
  rw [if_neg (fun y => y h), if_pos h1]
theorem runR_hit {pc pn inp : RV} {hit : SV → Bool} {k : Nat} {x : RS} (h : (readyF pc x.2.1).2.2.2.2.2.1 = 0) (h1 : ¬ (stepR pc pn inp x).2.1.2.2.2.2.2.1 = 1) (h2 : hit (stepR pc pn inp x).2.1 = true) : runR pc pn inp hit (k + 1) x = (1, stepR pc pn inp x, 5) := by
  show (if _ then _ else _) = _
  rw [if_neg (fun y => y h), if_neg h1, if_pos h2]
theorem runR_go {pc pn inp : RV} {hit : SV → Bool} {k : Nat} {x : RS} (h : (readyF pc x.2.1).2.2.2.2.2.1 = 0) (h1 : ¬ (stepR pc pn inp x).2.1.2.2.2.2.2.1 = 1) (h2 : hit (stepR pc pn inp x).2.1 = false) : runR pc pn inp hit (k + 1) x = ((runR pc pn inp hit k (stepR pc pn inp x)).1 + 1, (runR pc pn inp hit k (stepR pc pn inp x)).2) := by
  show (if _ then _ else _) = _
  rw [if_neg (fun y => y h), if_neg h1, if_neg (by rw [h2]; decide)]
theorem tryF_stop {pc pn inp : RV} {k : Nat} {v : SV} (h : ¬ (readyF pc v).2.2.2.2.2.1 = 0) : tryF pc pn inp (k + 1) v = (0, readyF pc v) := by
  show (if _ then _ else _) = _
  rw [if_pos h]
theorem tryF_go {pc pn inp : RV} {k : Nat} {v : SV} (h : (readyF pc v).2.2.2.2.2.1 = 0) : tryF pc pn inp (k + 1) v = ((tryF pc pn inp k (perfF (rowGet pc.1 pc.2 (readyF pc v).2.2.2.2.1) (rowGet pn.1 pn.2 (readyF pc v).2.2.2.2.1) inp (readyF pc v))).1 + 1, (tryF pc pn inp k (perfF (rowGet pc.1 pc.2 (readyF pc v).2.2.2.2.1) (rowGet pn.1 pn.2 (readyF pc v).2.2.2.2.1) inp (readyF pc v))).2) := by
  show (if _ then _ else _) = _
  rw [if_neg (fun y => y h)]
set_option maxHeartbeats 4000000 in
set_option maxRecDepth 100000 in
theorem c_pointStopping_0 {E : Env3} {h p ri hp pts wts tps ti : Nat} {A : AV} {B : AV} {reason : Int32} {cause : Int32}  : Cd E none 0 yX8_pointStopping cX8_pointStopping 4 (some .int) [.ref h] [lanO h p ri A.1 hp pts 0 wts tps reason cause B.1 ti] (some (.int (-1))) [lanO h p ri A.1 hp pts 0 wts tps reason cause B.1 ti] := by
  refine Ct.of [some (.ref h), none, none, none] (by decide +kernel) rfl (Nat.le_of_ble_eq_true rfl) (fun F hE hF hR hN => ?_)
  subst hE
  refine g_iconst (v := (-1)) hF dX8_pointStopping_0 rfl ?_
  refine g_istore_n hF dX8_pointStopping_1 (Nat.le_of_ble_eq_true rfl) rfl ?_
  refine g_iconst (v := (0)) hF dX8_pointStopping_2 rfl ?_
  refine g_istore_n hF dX8_pointStopping_3 (Nat.le_of_ble_eq_true rfl) rfl ?_
  refine g_iload_n hF dX8_pointStopping_4 rfl ?_
  refine g_aload_n hF dX8_pointStopping_5 rfl ?_
  refine g_get (j := 5) hF 0 rfl rfl (by decide) rfl m_252 rfl dX8_pointStopping_6 ?_
  refine g_icmp_ge (tgt := 53) hF dX8_pointStopping_9 (by decide) (fun c_9 => ?_) (fun c_9 => absurd (show (0 : Int32) ≤ 0 by decide) c_9)
  refine g_iload_n hF dX8_pointStopping_53 rfl ?_
  exact g_iret hF hR dX8_pointStopping_54 ⟨rfl, rfl⟩
set_option maxHeartbeats 4000000 in
set_option maxRecDepth 100000 in
theorem c_stopsRun_0y {E : Env3} {h p ri hp pts wts tps ti ma cnt : Nat} {A : AV} {B : AV} {v : SV} {ad : Nat → Nat} {reason : Int32} {cause : Int32} (hs : v.2.2.2.2.2.1 = 1)  : Cd E none 3 yX8_stopsRun cX8_stopsRun 5 (some .boolean) [.ref h, .int (-1)] [lanO h p ri A.1 hp pts 0 wts tps reason cause B.1 ti, stOv A v, rw3 E.2.2 A v, pastO hp ma cnt, arrM E.2.2 ma ad] (some (.int 1)) [lanO h p ri A.1 hp pts 0 wts tps 1 (-1) B.1 ti, stOv A v, rw3 E.2.2 A v, pastO hp ma cnt, arrM E.2.2 ma ad] := by
  refine Ct.of [some (.ref h), some (.int (-1)), none, none, none] (by decide +kernel) rfl (Nat.le_of_ble_eq_true rfl) (fun F hE hF hR hN => ?_)
  subst hE
  refine g_aload_n hF dX8_stopsRun_0 rfl ?_
  refine g_get (j := 2) hF 0 rfl rfl (by decide) rfl m_249 rfl dX8_stopsRun_1 ?_
  refine g_getN (j := 5) hF 1 rfl rfl (by decide) rfl m_87 rfl dX8_stopsRun_4 ?_
  refine g_iconst (v := (1)) hF dX8_stopsRun_7 rfl ?_
  refine g_icmp_ne (tgt := 19) hF dX8_stopsRun_8 (by decide) (fun c_8 => absurd hs c_8) (fun c_8 => ?_)
  refine g_aload_n hF dX8_stopsRun_11 rfl ?_
  refine g_iconst (v := (1)) hF dX8_stopsRun_12 rfl ?_
  refine g_iconst (v := (-1)) hF dX8_stopsRun_13 rfl ?_
  refine g_callVd hF (c_stopBy) cal_X8_stopBy rfl m_403 (by decide) (Or.inl rfl) (Nat.zero_le _) (Nat.zero_le _) 0 rfl rfl [0] rfl rfl (Nat.le_of_ble_eq_true rfl) rfl (Nat.le_of_ble_eq_true rfl) dX8_stopsRun_14 ?_
  try dsimp only [gput, gputA, List.set, stGs, List.cons_append, List.nil_append]
  refine g_iconst (v := (1)) hF dX8_stopsRun_17 rfl ?_
  exact g_zret hF hR dX8_stopsRun_18 rfl ⟨rfl, rfl⟩
set_option maxHeartbeats 4000000 in
set_option maxRecDepth 100000 in
theorem c_stopsRun_0n {E : Env3} {h p ri hp pts wts tps ti ma cnt : Nat} {A : AV} {B : AV} {v : SV} {ad : Nat → Nat} {reason : Int32} {cause : Int32} (hs : ¬ v.2.2.2.2.2.1 = 1) (hc : cnt ≤ 200) (h1 : 1 ≤ cnt) (h3 : v.2.2.1.2 ≤ 8)  : Cd E none 3 yX8_stopsRun cX8_stopsRun 5 (some .boolean) [.ref h, .int (-1)] [lanO h p ri A.1 hp pts 0 wts tps reason cause B.1 ti, stOv A v, rw3 E.2.2 A v, pastO hp ma cnt, arrM E.2.2 ma ad] (some (.int 0)) [lanO h p ri A.1 hp pts 0 wts tps reason cause B.1 ti, stOv A v, rw3 E.2.2 A v, pastO hp ma cnt, arrM E.2.2 ma ad] := by
  refine Ct.of [some (.ref h), some (.int (-1)), none, none, none] (by decide +kernel) rfl (Nat.le_of_ble_eq_true rfl) (fun F hE hF hR hN => ?_)
  subst hE
  refine g_aload_n hF dX8_stopsRun_0 rfl ?_
  refine g_get (j := 2) hF 0 rfl rfl (by decide) rfl m_249 rfl dX8_stopsRun_1 ?_
  refine g_getN (j := 5) hF 1 rfl rfl (by decide) rfl m_87 rfl dX8_stopsRun_4 ?_
  refine g_iconst (v := (1)) hF dX8_stopsRun_7 rfl ?_
  refine g_icmp_ne (tgt := 19) hF dX8_stopsRun_8 (by decide) (fun c_8 => ?_) (fun c_8 => absurd c_8 hs)
  refine g_aload_n hF dX8_stopsRun_19 rfl ?_
  refine g_callVq hF (c_watchMet (by omega) (by omega)) cal_X8_watchMet rfl m_554 (by decide) (Or.inl rfl) (Nat.zero_le _) (Nat.zero_le _) 0 rfl rfl [0, 3, 4] rfl rfl rfl (Nat.le_of_ble_eq_true rfl) dX8_stopsRun_20 ?_
  refine g_istore_n hF dX8_stopsRun_23 (Nat.le_of_ble_eq_true rfl) rfl ?_
  refine g_iload_n hF dX8_stopsRun_24 rfl ?_
  refine g_iconst (v := (-1)) hF dX8_stopsRun_25 rfl ?_
  refine g_icmp_eq (tgt := 37) hF dX8_stopsRun_26 (by decide) (fun c_26 => ?_) (fun c_26 => absurd rfl c_26)
  refine g_aload_n hF dX8_stopsRun_37 rfl ?_
  refine g_get (j := 2) hF 0 rfl rfl (by decide) rfl m_249 rfl dX8_stopsRun_38 ?_
  refine g_getN (j := 2) hF 1 rfl rfl (by decide) rfl m_79 rfl dX8_stopsRun_41 ?_
  refine g_callVq hF (c_Row_size) cal_X4_size rfl m_367 (by decide) (Or.inl rfl) (Nat.zero_le _) (Nat.zero_le _) 2 rfl rfl [2] rfl rfl rfl (Nat.le_of_ble_eq_true rfl) dX8_stopsRun_44 ?_
  refine g_iload_n hF dX8_stopsRun_47 rfl ?_
  refine g_icmp_gt (tgt := 59) hF dX8_stopsRun_48 (by decide) (fun c_48 => ?_) (fun c_48 => absurd (neg1_lt (by omega)) c_48)
  refine g_aload_n hF dX8_stopsRun_59 rfl ?_
  refine g_callVq hF (c_pointStopping_0) cal_X8_pointStopping rfl m_574 (by decide) (Or.inl rfl) (Nat.zero_le _) (Nat.zero_le _) 0 rfl rfl [0] rfl rfl rfl (Nat.le_of_ble_eq_true rfl) dX8_stopsRun_60 ?_
  refine g_istore_n hF dX8_stopsRun_63 (Nat.le_of_ble_eq_true rfl) rfl ?_
  refine g_aload_n hF dX8_stopsRun_64 rfl ?_
  refine g_iload_n hF dX8_stopsRun_65 rfl ?_
  refine g_callVq hF (c_pointNumbered_m1) cal_X8_pointNumbered rfl m_578 (by decide) (Or.inl rfl) (Nat.zero_le _) (Nat.zero_le _) 0 rfl rfl [0] rfl rfl rfl (Nat.le_of_ble_eq_true rfl) dX8_stopsRun_66 ?_
  refine g_astoreN hF dX8_stopsRun_69 (Nat.le_of_ble_eq_true rfl) rfl ?_
  refine g_aloadN hF dX8_stopsRun_71 rfl ?_
  refine g_ifnullN (tgt := 95) hF dX8_stopsRun_73 (by decide) ?_
  refine g_iconst (v := (0)) hF dX8_stopsRun_95 rfl ?_
  exact g_zret hF hR dX8_stopsRun_96 rfl ⟨rfl, rfl⟩
set_option maxHeartbeats 4000000 in
set_option maxRecDepth 100000 in
theorem c_runTill_0 {E : Env3} {h p ri hp pts wts tps ti rc rn rt ac an at0 np ai ni ma cnt : Nat} {A : AV} {B : AV} {v : SV} {ad : Nat → Nat} {fc : Nat → Int32} {fn : Nat → Int32} {ft : Nat → Int32} {fi : Nat → Int32} {M : Nat → Nat → Int32} {reason : Int32} {cause : Int32} (hv : okS v) (hnp : np ≤ 80) (hni : ni ≤ 20) {k : Nat} (hk : k < 2 ^ 31) (hcn : cnt + k ≤ 200)  : Cd E none 5 yX8_runTill cX8_runTill 4 (some .int) [.ref h, .int (nI k), .int (-1)] [lanO h p ri A.1 hp pts 0 wts tps reason cause B.1 ti, progO p rc rn rt, rowW E.2.2 rc ac 80 fc np, rowW E.2.2 rn an 80 fn np, rowW E.2.2 rt at0 80 ft np, rowW E.2.2 ri ai 20 fi ni, stOv A v, rw1 E.2.2 A v, rw2 E.2.2 A v, rw3 E.2.2 A v, rw4 E.2.2 A v, pastO hp ma cnt, arrM E.2.2 ma ad, momsW ad M] (some (.int (nI (runR (fc, np) (fn, np) (fi, ni) (fun _ => false) k (ft, v, cnt, M)).1))) [lanO h p ri A.1 hp pts 0 wts tps (runR (fc, np) (fn, np) (fi, ni) (fun _ => false) k (ft, v, cnt, M)).2.2 (-1) B.1 ti, progO p rc rn rt, rowW E.2.2 rc ac 80 fc np, rowW E.2.2 rn an 80 fn np, rowW E.2.2 rt at0 80 (runR (fc, np) (fn, np) (fi, ni) (fun _ => false) k (ft, v, cnt, M)).2.1.1 np, rowW E.2.2 ri ai 20 fi ni, stOv A ((runR (fc, np) (fn, np) (fi, ni) (fun _ => false) k (ft, v, cnt, M)).2.1.2.1), rw1 E.2.2 A ((runR (fc, np) (fn, np) (fi, ni) (fun _ => false) k (ft, v, cnt, M)).2.1.2.1), rw2 E.2.2 A ((runR (fc, np) (fn, np) (fi, ni) (fun _ => false) k (ft, v, cnt, M)).2.1.2.1), rw3 E.2.2 A ((runR (fc, np) (fn, np) (fi, ni) (fun _ => false) k (ft, v, cnt, M)).2.1.2.1), rw4 E.2.2 A ((runR (fc, np) (fn, np) (fi, ni) (fun _ => false) k (ft, v, cnt, M)).2.1.2.1), pastO hp ma (runR (fc, np) (fn, np) (fi, ni) (fun _ => false) k (ft, v, cnt, M)).2.1.2.2.1, arrM E.2.2 ma ad, momsW ad (runR (fc, np) (fn, np) (fi, ni) (fun _ => false) k (ft, v, cnt, M)).2.1.2.2.2] := by
  refine Ct.of [some (.ref h), some (.int (nI k)), some (.int (-1)), none] (by decide +kernel) rfl (Nat.le_of_ble_eq_true rfl) (fun F hE hF hR hN => ?_)
  subst hE
  generalize hE : runR (fc, np) (fn, np) (fi, ni) (fun _ => false) k (ft, v, cnt, M) = Z at hR
  have loop : ∀ (r i : Nat) (ft : Nat → Int32) (v : SV) (cnt : Nat) (M : Nat → Nat → Int32), i + r = k → okS v → cnt + r ≤ 200 → (i + (runR (fc, np) (fn, np) (fi, ni) (fun _ => false) r (ft, v, cnt, M)).1, (runR (fc, np) (fn, np) (fi, ni) (fun _ => false) r (ft, v, cnt, M)).2) = Z → G F 0 0 [lanO h p ri A.1 hp pts 0 wts tps reason cause B.1 ti, progO p rc rn rt, rowW F.1.2.2 rc ac 80 fc np, rowW F.1.2.2 rn an 80 fn np, rowW F.1.2.2 rt at0 80 ft np, rowW F.1.2.2 ri ai 20 fi ni, stOv A v, rw1 F.1.2.2 A v, rw2 F.1.2.2 A v, rw3 F.1.2.2 A v, rw4 F.1.2.2 A v, pastO hp ma cnt, arrM F.1.2.2 ma ad, momsW ad M] 2 [some (.ref h), some (.int (nI k)), some (.int (-1)), some (.int (nI i))] [] := by
    intro r
    induction r with
    | zero =>
      intro i ft v cnt M hi hv hcn hZ
      refine g_iload_n hF dX8_runTill_2 rfl ?_
      refine g_iload_n hF dX8_runTill_3 rfl ?_
      refine g_icmp_ge (tgt := 55) hF dX8_runTill_4 (by decide) (fun c_4 => ?_) (fun c_4 => absurd (nI_le (show k ≤ i by omega) (by omega)) c_4)
      refine g_aload_n hF dX8_runTill_55 rfl ?_
      refine g_bipush (v := (6)) hF dX8_runTill_56 rfl ?_
      refine g_iconst (v := (-1)) hF dX8_runTill_58 rfl ?_
      refine g_callVd hF (c_stopBy) cal_X8_stopBy rfl m_403 (by decide) (Or.inl rfl) (Nat.zero_le _) (Nat.zero_le _) 0 rfl rfl [0] rfl rfl (Nat.le_of_ble_eq_true rfl) rfl (Nat.le_of_ble_eq_true rfl) dX8_runTill_59 ?_
      try dsimp only [gput, gputA, List.set, stGs, List.cons_append, List.nil_append]
      refine g_iload_n hF dX8_runTill_62 rfl ?_
      subst hZ
      exact g_iret hF hR dX8_runTill_63 ⟨by rw [← hi] <;> rfl, rfl⟩
    | succ r ih =>
      intro i ft v cnt M hi hv hcn hZ
      by_cases hr : (readyF (fc, np) v).2.2.2.2.2.1 = 0
      · refine g_iload_n hF dX8_runTill_2 rfl ?_
        refine g_iload_n hF dX8_runTill_3 rfl ?_
        refine g_icmp_ge (tgt := 55) hF dX8_runTill_4 (by decide) (fun c_4 => absurd c_4 (nI_ge (show i < k by omega) (by omega))) (fun c_4 => ?_)
        refine g_aload_n hF dX8_runTill_7 rfl ?_
        refine g_callVd hF (c_doStep_yes (by assumption) (by assumption) (by assumption) (by omega) hr) cal_X8_doStep rfl m_451 (by decide) (Or.inl rfl) (Nat.zero_le _) (Nat.zero_le _) 0 rfl rfl [0, 1, 2, 3, 4, 5, 6, 7, 8, 9, 10, 11, 12, 13] rfl rfl (Nat.le_of_ble_eq_true rfl) rfl (Nat.le_of_ble_eq_true rfl) dX8_runTill_8 ?_
        try dsimp only [gput, gputA, List.set, stGs, List.cons_append, List.nil_append]
        refine g_if_ne (tgt := 37) hF dX8_runTill_11 (by decide) (fun c_11 => ?_) (fun c_11 => absurd c_11 (by decide))
        have hvy : okS (stepR (fc, np) (fn, np) (fi, ni) (ft, v, cnt, M)).2.1 := okS_perf (okS_ready hv)
        have h3y := hvy.2.2.1
        refine g_regroup (gs' := [lanO h p ri A.1 hp pts 0 wts tps reason cause B.1 ti, progO p rc rn rt, rowW F.1.2.2 rc ac 80 fc np, rowW F.1.2.2 rn an 80 fn np, rowW F.1.2.2 rt at0 80 (stepR (fc, np) (fn, np) (fi, ni) (ft, v, cnt, M)).1 np, rowW F.1.2.2 ri ai 20 fi ni, stOv A ((stepR (fc, np) (fn, np) (fi, ni) (ft, v, cnt, M)).2.1), rw1 F.1.2.2 A ((stepR (fc, np) (fn, np) (fi, ni) (ft, v, cnt, M)).2.1), rw2 F.1.2.2 A ((stepR (fc, np) (fn, np) (fi, ni) (ft, v, cnt, M)).2.1), rw3 F.1.2.2 A ((stepR (fc, np) (fn, np) (fi, ni) (ft, v, cnt, M)).2.1), rw4 F.1.2.2 A ((stepR (fc, np) (fn, np) (fi, ni) (ft, v, cnt, M)).2.1), pastO hp ma (stepR (fc, np) (fn, np) (fi, ni) (ft, v, cnt, M)).2.2.1, arrM F.1.2.2 ma ad, momsW ad (stepR (fc, np) (fn, np) (fi, ni) (ft, v, cnt, M)).2.2.2]) rfl ?_
        by_cases hs : (stepR (fc, np) (fn, np) (fi, ni) (ft, v, cnt, M)).2.1.2.2.2.2.2.1 = 1
        · refine g_aload_n hF dX8_runTill_37 rfl ?_
          refine g_iload_n hF dX8_runTill_38 rfl ?_
          refine g_callVd hF (c_stopsRun_0y hs) cal_X8_stopsRun rfl m_550 (by decide) (Or.inl rfl) (Nat.zero_le _) (Nat.zero_le _) 0 rfl rfl [0, 6, 9, 11, 12] rfl rfl (Nat.le_of_ble_eq_true rfl) rfl (Nat.le_of_ble_eq_true rfl) dX8_runTill_39 ?_
          try dsimp only [gput, gputA, List.set, stGs, List.cons_append, List.nil_append]
          refine g_if_eq (tgt := 49) hF dX8_runTill_42 (by decide) (fun c_42 => absurd c_42 (by decide)) (fun c_42 => ?_)
          refine g_iload_n hF dX8_runTill_45 rfl ?_
          refine g_iconst (v := (1)) hF dX8_runTill_46 rfl ?_
          refine g_iadd hF dX8_runTill_47 ?_
          rw [runR_halt hr hs] at hZ
          subst hZ
          exact g_iret hF hR dX8_runTill_48 ⟨by rw [← nI_1] <;> rfl, rfl⟩
        · refine g_aload_n hF dX8_runTill_37 rfl ?_
          refine g_iload_n hF dX8_runTill_38 rfl ?_
          refine g_callVq hF (c_stopsRun_0n hs (by show cnt + 1 ≤ 200; omega) (by show 1 ≤ cnt + 1; omega) h3y) cal_X8_stopsRun rfl m_550 (by decide) (Or.inl rfl) (Nat.zero_le _) (Nat.zero_le _) 0 rfl rfl [0, 6, 9, 11, 12] rfl rfl rfl (Nat.le_of_ble_eq_true rfl) dX8_runTill_39 ?_
          refine g_if_eq (tgt := 49) hF dX8_runTill_42 (by decide) (fun c_42 => ?_) (fun c_42 => absurd rfl c_42)
          refine g_iinc (v := nI (i + 1)) hF dX8_runTill_49 rfl (nI_1 i) rfl ?_
          refine g_goto (tgt := 2) hF dX8_runTill_52 (by decide) ?_
          refine ih (i + 1) _ _ _ _ (by omega) hvy (by show cnt + 1 + r ≤ 200; omega) ?_
          rw [← hZ, runR_go hr hs rfl, show i + 1 + (runR (fc, np) (fn, np) (fi, ni) (fun _ => false) r (stepR (fc, np) (fn, np) (fi, ni) (ft, v, cnt, M))).1 = i + ((runR (fc, np) (fn, np) (fi, ni) (fun _ => false) r (stepR (fc, np) (fn, np) (fi, ni) (ft, v, cnt, M))).1 + 1) by omega]
      · refine g_iload_n hF dX8_runTill_2 rfl ?_
        refine g_iload_n hF dX8_runTill_3 rfl ?_
        refine g_icmp_ge (tgt := 55) hF dX8_runTill_4 (by decide) (fun c_4 => absurd c_4 (nI_ge (show i < k by omega) (by omega))) (fun c_4 => ?_)
        refine g_aload_n hF dX8_runTill_7 rfl ?_
        refine g_callVd hF (c_doStep_no (by assumption) (by assumption) (by assumption) hr) cal_X8_doStep rfl m_451 (by decide) (Or.inl rfl) (Nat.zero_le _) (Nat.zero_le _) 0 rfl rfl [0, 1, 2, 3, 4, 5, 6, 7, 8, 9, 10, 11, 12, 13] rfl rfl (Nat.le_of_ble_eq_true rfl) rfl (Nat.le_of_ble_eq_true rfl) dX8_runTill_8 ?_
        try dsimp only [gput, gputA, List.set, stGs, List.cons_append, List.nil_append]
        refine g_if_ne (tgt := 37) hF dX8_runTill_11 (by decide) (fun c_11 => absurd c_11 (by decide)) (fun c_11 => ?_)
        refine g_aload_n hF dX8_runTill_14 rfl ?_
        refine g_aload_n hF dX8_runTill_15 rfl ?_
        refine g_get (j := 2) hF 0 rfl rfl (by decide) rfl m_249 rfl dX8_runTill_16 ?_
        refine g_getN (j := 5) hF 6 rfl rfl (by decide) rfl m_87 rfl dX8_runTill_19 ?_
        refine g_iconst (v := (1)) hF dX8_runTill_22 rfl ?_
        refine g_icmp_ne (tgt := 30) hF dX8_runTill_23 (by decide) (fun c_23 => ?_) (fun c_23 => ?_)
        · refine g_iconst (v := (2)) hF dX8_runTill_30 rfl ?_
          refine g_iconst (v := (-1)) hF dX8_runTill_31 rfl ?_
          refine g_callVd hF (c_stopBy) cal_X8_stopBy rfl m_403 (by decide) (Or.inl rfl) (Nat.zero_le _) (Nat.zero_le _) 0 rfl rfl [0] rfl rfl (Nat.le_of_ble_eq_true rfl) rfl (Nat.le_of_ble_eq_true rfl) dX8_runTill_32 ?_
          try dsimp only [gput, gputA, List.set, stGs, List.cons_append, List.nil_append]
          refine g_iload_n hF dX8_runTill_35 rfl ?_
          rw [runR_stop hr] at hZ
          subst hZ
          exact g_iret hF hR dX8_runTill_36 ⟨rfl, by simp only [if_neg c_23]; rfl⟩
        · refine g_iconst (v := (1)) hF dX8_runTill_26 rfl ?_
          refine g_goto (tgt := 31) hF dX8_runTill_27 (by decide) ?_
          refine g_iconst (v := (-1)) hF dX8_runTill_31 rfl ?_
          refine g_callVd hF (c_stopBy) cal_X8_stopBy rfl m_403 (by decide) (Or.inl rfl) (Nat.zero_le _) (Nat.zero_le _) 0 rfl rfl [0] rfl rfl (Nat.le_of_ble_eq_true rfl) rfl (Nat.le_of_ble_eq_true rfl) dX8_runTill_32 ?_
          try dsimp only [gput, gputA, List.set, stGs, List.cons_append, List.nil_append]
          refine g_iload_n hF dX8_runTill_35 rfl ?_
          rw [runR_stop hr] at hZ
          subst hZ
          exact g_iret hF hR dX8_runTill_36 ⟨rfl, by simp only [if_pos c_23]; rfl⟩
  refine g_iconst (v := (0)) hF dX8_runTill_0 rfl ?_
  refine g_istore_n hF dX8_runTill_1 (Nat.le_of_ble_eq_true rfl) rfl ?_
  exact loop k 0 ft v cnt M (by omega) hv hcn (by rw [Nat.zero_add]; exact hE)
end
section
/-! run without points, going back, trying out, foreseeing -/
def backN (M : Nat → Nat → Int32) (cnt : Nat) (v : SV) : Nat → SV
  | 0 => v
  | i + 1 => backF (M (cnt - (i + 1))) (backN M cnt v i)
theorem okS_backN {M : Nat → Nat → Int32} {cnt : Nat} {v : SV} (h : okS v) : ∀ i, okS (backN M cnt v i)
  | 0 => h
  | i + 1 => okS_back (okS_backN h i)
def endsV (k : Nat) (t : Nat × SV) : Int32 := if nI t.1 < nI k then nI t.1 else if t.2.2.2.2.2.2.1 = 1 then nI t.1 else -1
theorem okS_try {pc pn inp : RV} : ∀ (k : Nat) {v : SV}, okS v → okS (tryF pc pn inp k v).2
  | 0, _, h => h
  | k + 1, v, h => by
    by_cases hr : (readyF pc v).2.2.2.2.2.1 = 0
    · rw [tryF_go hr]; exact okS_try k (okS_perf (okS_ready h))
    · rw [tryF_stop hr]; exact okS_ready h
set_option maxHeartbeats 4000000 in
set_option maxRecDepth 100000 in
theorem c_run_0 {E : Env3} {h p ri hp pts wts tps ti rc rn rt ac an at0 np ai ni ma cnt : Nat} {A : AV} {B : AV} {v : SV} {ad : Nat → Nat} {fc : Nat → Int32} {fn : Nat → Int32} {ft : Nat → Int32} {fi : Nat → Int32} {M : Nat → Nat → Int32} {reason : Int32} {cause : Int32} (hv : okS v) (hnp : np ≤ 80) (hni : ni ≤ 20) {k : Nat} (hl : isLenB (nI k) = true) (hk : k < 2 ^ 31) (hcn : cnt + k ≤ 200)  : Cd E none 6 yX8_run cX8_run 2 (some .int) [.ref h, .int (nI k)] [lanO h p ri A.1 hp pts 0 wts tps reason cause B.1 ti, progO p rc rn rt, rowW E.2.2 rc ac 80 fc np, rowW E.2.2 rn an 80 fn np, rowW E.2.2 rt at0 80 ft np, rowW E.2.2 ri ai 20 fi ni, stOv A v, rw1 E.2.2 A v, rw2 E.2.2 A v, rw3 E.2.2 A v, rw4 E.2.2 A v, pastO hp ma cnt, arrM E.2.2 ma ad, momsW ad M] (some (.int (nI (runR (fc, np) (fn, np) (fi, ni) (fun _ => false) k (ft, v, cnt, M)).1))) [lanO h p ri A.1 hp pts 0 wts tps (runR (fc, np) (fn, np) (fi, ni) (fun _ => false) k (ft, v, cnt, M)).2.2 (-1) B.1 ti, progO p rc rn rt, rowW E.2.2 rc ac 80 fc np, rowW E.2.2 rn an 80 fn np, rowW E.2.2 rt at0 80 (runR (fc, np) (fn, np) (fi, ni) (fun _ => false) k (ft, v, cnt, M)).2.1.1 np, rowW E.2.2 ri ai 20 fi ni, stOv A ((runR (fc, np) (fn, np) (fi, ni) (fun _ => false) k (ft, v, cnt, M)).2.1.2.1), rw1 E.2.2 A ((runR (fc, np) (fn, np) (fi, ni) (fun _ => false) k (ft, v, cnt, M)).2.1.2.1), rw2 E.2.2 A ((runR (fc, np) (fn, np) (fi, ni) (fun _ => false) k (ft, v, cnt, M)).2.1.2.1), rw3 E.2.2 A ((runR (fc, np) (fn, np) (fi, ni) (fun _ => false) k (ft, v, cnt, M)).2.1.2.1), rw4 E.2.2 A ((runR (fc, np) (fn, np) (fi, ni) (fun _ => false) k (ft, v, cnt, M)).2.1.2.1), pastO hp ma (runR (fc, np) (fn, np) (fi, ni) (fun _ => false) k (ft, v, cnt, M)).2.1.2.2.1, arrM E.2.2 ma ad, momsW ad (runR (fc, np) (fn, np) (fi, ni) (fun _ => false) k (ft, v, cnt, M)).2.1.2.2.2] := by
  refine Ct.of [some (.ref h), some (.int (nI k))] (by decide +kernel) rfl (Nat.le_of_ble_eq_true rfl) (fun F hE hF hR hN => ?_)
  subst hE
  refine g_iload_n hF dX8_run_0 rfl ?_
  refine g_callSq hF (c_isRunLength) cal_X8_isRunLength rfl m_443 (by decide) (Or.inl rfl) (Nat.zero_le _) (Nat.zero_le _) [] rfl rfl rfl (Nat.le_of_ble_eq_true rfl) dX8_run_1 ?_
  refine g_if_ne (tgt := 17) hF dX8_run_4 (by decide) (fun c_4 => ?_) (fun c_4 => absurd c_4 (bI_n.mpr hl))
  refine g_aload_n hF dX8_run_17 rfl ?_
  refine g_iload_n hF dX8_run_18 rfl ?_
  refine g_iconst (v := (-1)) hF dX8_run_19 rfl ?_
  refine g_callVd hF (c_runTill_0 (by assumption) (by assumption) (by assumption) (by omega) (by omega)) cal_X8_runTill rfl m_447 (by decide) (Or.inl rfl) (Nat.zero_le _) (Nat.zero_le _) 0 rfl rfl [0, 1, 2, 3, 4, 5, 6, 7, 8, 9, 10, 11, 12, 13] rfl rfl (Nat.le_of_ble_eq_true rfl) rfl (Nat.le_of_ble_eq_true rfl) dX8_run_20 ?_
  try dsimp only [gput, gputA, List.set, stGs, List.cons_append, List.nil_append]
  exact g_iret hF hR dX8_run_23 ⟨rfl, rfl⟩
set_option maxHeartbeats 4000000 in
set_option maxRecDepth 100000 in
theorem c_goBack {E : Env3} {h p ri hp pts wts tps ti ma cnt : Nat} {A : AV} {B : AV} {v : SV} {ad : Nat → Nat} {M : Nat → Nat → Int32} {reason : Int32} {cause : Int32} {pc : Int32} (hv : okS v) (hc : cnt ≤ 200) (h1 : 1 ≤ cnt)  : Cd E none 3 yX8_goBack cX8_goBack 2 (some (.object "Lantern$Moment")) [.ref h] [lanO h p ri A.1 hp pts pc wts tps reason cause B.1 ti, stOv A v, rw1 E.2.2 A v, rw2 E.2.2 A v, rw3 E.2.2 A v, rw4 E.2.2 A v, pastO hp ma cnt, arrM E.2.2 ma ad, momsW ad M] (some (.ref (ad (cnt - 1)))) [lanO h p ri A.1 hp pts pc wts tps reason cause B.1 ti, stOv A (backF (M (cnt - 1)) v), rw1 E.2.2 A (backF (M (cnt - 1)) v), rw2 E.2.2 A (backF (M (cnt - 1)) v), rw3 E.2.2 A (backF (M (cnt - 1)) v), rw4 E.2.2 A (backF (M (cnt - 1)) v), pastO hp ma (cnt - 1), arrM E.2.2 ma ad, momsW ad M] := by
  refine Ct.of [some (.ref h), none] (by decide +kernel) rfl (Nat.le_of_ble_eq_true rfl) (fun F hE hF hR hN => ?_)
  subst hE
  refine g_aload_n hF dX8_goBack_0 rfl ?_
  refine g_get (j := 3) hF 0 rfl rfl (by decide) rfl m_250 rfl dX8_goBack_1 ?_
  refine g_iconst (v := (1)) hF dX8_goBack_4 rfl ?_
  refine g_callVq hF (c_Past_ago (cnt := cnt) (j := 1) (by omega) (by omega) (by omega)) cal_X1_ago rfl m_558 (by decide) (Or.inl rfl) (Nat.zero_le _) (Nat.zero_le _) 6 rfl rfl [6, 7] rfl rfl rfl (Nat.le_of_ble_eq_true rfl) dX8_goBack_5 ?_
  refine g_astore_n hF dX8_goBack_8 (Nat.le_of_ble_eq_true rfl) rfl ?_
  refine g_aload_n hF dX8_goBack_9 rfl ?_
  refine g_ifnull hF dX8_goBack_10 ?_
  refine g_aload_n hF dX8_goBack_13 rfl ?_
  refine g_get (j := 2) hF 0 rfl rfl (by decide) rfl m_249 rfl dX8_goBack_14 ?_
  refine g_aload_n hF dX8_goBack_17 rfl ?_
  refine g_split3 8 rfl (mom_split (k := cnt - 1) (by omega)) ?_
  try dsimp only [List.take, List.drop, List.cons_append, List.nil_append]
  refine g_callVd hF (c_S_goBackTo (by first | assumption | exact okS_ready (by assumption) | exact okS_perf (okS_ready (by assumption)) | exact okS_perf (by assumption) | exact okS_copy | exact okS_clear | exact okS_back (by assumption))) cal_X5_goBackTo rfl m_604 (by decide) (Or.inl rfl) (Nat.zero_le _) (Nat.zero_le _) 1 rfl rfl [1, 2, 3, 4, 5, 9] rfl rfl (Nat.le_of_ble_eq_true rfl) rfl (Nat.le_of_ble_eq_true rfl) dX8_goBack_18 ?_
  try dsimp only [gput, gputA, List.set, stGs, List.cons_append, List.nil_append]
  refine g_join3 8 rfl (mom_split (k := cnt - 1) (by omega)).symm ?_
  try dsimp only [List.take, List.drop, List.cons_append, List.nil_append]
  refine g_aload_n hF dX8_goBack_21 rfl ?_
  refine g_get (j := 3) hF 0 rfl rfl (by decide) rfl m_250 rfl dX8_goBack_22 ?_
  refine g_callVd hF (c_Past_dropLatest (by omega) (by omega)) cal_X1_dropLatest rfl m_613 (by decide) (Or.inl rfl) (Nat.zero_le _) (Nat.zero_le _) 6 rfl rfl [6] rfl rfl (Nat.le_of_ble_eq_true rfl) rfl (Nat.le_of_ble_eq_true rfl) dX8_goBack_25 ?_
  try dsimp only [gput, gputA, List.set, stGs, List.cons_append, List.nil_append]
  refine g_aload_n hF dX8_goBack_28 rfl ?_
  exact g_aret hF hR (Or.inl ⟨_, rfl⟩) (Or.inr ⟨_, rfl⟩) dX8_goBack_29 ⟨rfl, rfl⟩
set_option maxHeartbeats 4000000 in
set_option maxRecDepth 100000 in
theorem c_back {E : Env3} {h p ri hp pts wts tps ti ma cnt : Nat} {A : AV} {B : AV} {v : SV} {ad : Nat → Nat} {M : Nat → Nat → Int32} {reason : Int32} {cause : Int32} {pc : Int32} {b : Nat} (hv : okS v) (hc : cnt ≤ 200) (hb : b ≤ cnt) (hb1 : 1 ≤ b)  : Cd E none 4 yX8_back cX8_back 3 (some .int) [.ref h, .int (nI b)] [lanO h p ri A.1 hp pts pc wts tps reason cause B.1 ti, stOv A v, rw1 E.2.2 A v, rw2 E.2.2 A v, rw3 E.2.2 A v, rw4 E.2.2 A v, pastO hp ma cnt, arrM E.2.2 ma ad, momsW ad M] (some (.int (nI b))) [lanO h p ri A.1 hp pts pc wts tps 7 (-1) B.1 ti, stOv A (backN M cnt v b), rw1 E.2.2 A (backN M cnt v b), rw2 E.2.2 A (backN M cnt v b), rw3 E.2.2 A (backN M cnt v b), rw4 E.2.2 A (backN M cnt v b), pastO hp ma (cnt - b), arrM E.2.2 ma ad, momsW ad M] := by
  refine Ct.of [some (.ref h), some (.int (nI b)), none] (by decide +kernel) rfl (Nat.le_of_ble_eq_true rfl) (fun F hE hF hR hN => ?_)
  subst hE
  have loop : ∀ i, i ≤ b → G F 0 0 [lanO h p ri A.1 hp pts pc wts tps reason cause B.1 ti, stOv A (backN M cnt v i), rw1 F.1.2.2 A (backN M cnt v i), rw2 F.1.2.2 A (backN M cnt v i), rw3 F.1.2.2 A (backN M cnt v i), rw4 F.1.2.2 A (backN M cnt v i), pastO hp ma (cnt - i), arrM F.1.2.2 ma ad, momsW ad M] 24 [some (.ref h), some (.int (nI b)), some (.int (nI i))] [] := by
    refine up_loop (Q := fun i => G F 0 0 [lanO h p ri A.1 hp pts pc wts tps reason cause B.1 ti, stOv A (backN M cnt v i), rw1 F.1.2.2 A (backN M cnt v i), rw2 F.1.2.2 A (backN M cnt v i), rw3 F.1.2.2 A (backN M cnt v i), rw4 F.1.2.2 A (backN M cnt v i), pastO hp ma (cnt - i), arrM F.1.2.2 ma ad, momsW ad M] 24 [some (.ref h), some (.int (nI b)), some (.int (nI i))] []) ?_ (fun i hi ih => ?_)
    · refine g_iload_n hF dX8_back_24 rfl ?_
      refine g_iload_n hF dX8_back_25 rfl ?_
      refine g_icmp_ge (tgt := 42) hF dX8_back_26 (by decide) (fun c_26 => ?_) (fun c_26 => absurd (nI_le (Nat.le_refl b) (by omega)) c_26)
      refine g_aload_n hF dX8_back_42 rfl ?_
      refine g_bipush (v := (7)) hF dX8_back_43 rfl ?_
      refine g_iconst (v := (-1)) hF dX8_back_45 rfl ?_
      refine g_callVd hF (c_stopBy) cal_X8_stopBy rfl m_403 (by decide) (Or.inl rfl) (Nat.zero_le _) (Nat.zero_le _) 0 rfl rfl [0] rfl rfl (Nat.le_of_ble_eq_true rfl) rfl (Nat.le_of_ble_eq_true rfl) dX8_back_46 ?_
      try dsimp only [gput, gputA, List.set, stGs, List.cons_append, List.nil_append]
      refine g_iload_n hF dX8_back_49 rfl ?_
      exact g_iret hF hR dX8_back_50 ⟨rfl, rfl⟩
    · refine g_iload_n hF dX8_back_24 rfl ?_
      refine g_iload_n hF dX8_back_25 rfl ?_
      refine g_icmp_ge (tgt := 42) hF dX8_back_26 (by decide) (fun c_26 => absurd c_26 (nI_ge hi (by omega))) (fun c_26 => ?_)
      refine g_aload_n hF dX8_back_29 rfl ?_
      refine g_callVd hF (c_goBack (okS_backN hv i) (by omega) (by omega)) cal_X8_goBack rfl m_600 (by decide) (Or.inl rfl) (Nat.zero_le _) (Nat.zero_le _) 0 rfl rfl [0, 1, 2, 3, 4, 5, 6, 7, 8] rfl rfl (Nat.le_of_ble_eq_true rfl) rfl (Nat.le_of_ble_eq_true rfl) dX8_back_30 ?_
      try dsimp only [gput, gputA, List.set, stGs, List.cons_append, List.nil_append]
      refine g_ifnull hF dX8_back_33 ?_
      refine g_iinc (v := nI (i + 1)) hF dX8_back_36 rfl (nI_1 i) rfl ?_
      refine g_goto (tgt := 24) hF dX8_back_39 (by decide) ?_
      refine g_regroup (gs' := [lanO h p ri A.1 hp pts pc wts tps reason cause B.1 ti, stOv A (backF (M (cnt - (i + 1))) (backN M cnt v i)), rw1 F.1.2.2 A (backF (M (cnt - (i + 1))) (backN M cnt v i)), rw2 F.1.2.2 A (backF (M (cnt - (i + 1))) (backN M cnt v i)), rw3 F.1.2.2 A (backF (M (cnt - (i + 1))) (backN M cnt v i)), rw4 F.1.2.2 A (backF (M (cnt - (i + 1))) (backN M cnt v i)), pastO hp ma (cnt - (i + 1)), arrM F.1.2.2 ma ad, momsW ad M]) (by show _ = _; rw [show cnt - (i + 1) = cnt - i - 1 by omega] <;> rfl) ?_
      exact ih
  refine g_iload_n hF dX8_back_0 rfl ?_
  refine g_iconst (v := (1)) hF dX8_back_1 rfl ?_
  refine g_icmp_lt (tgt := 12) hF dX8_back_2 (by decide) (fun c_2 => absurd c_2 (fun y => absurd ((nI_ltI (a := b) (b := 1) (by omega) (by decide)).mp y) (by omega))) (fun c_2 => ?_)
  refine g_iload_n hF dX8_back_5 rfl ?_
  refine g_sipush (v := (200)) hF dX8_back_6 rfl ?_
  refine g_icmp_le (tgt := 22) hF dX8_back_9 (by decide) (fun c_9 => ?_) (fun c_9 => absurd (nI_le (show b ≤ 200 by omega) (by decide)) c_9)
  refine g_iconst (v := (0)) hF dX8_back_22 rfl ?_
  refine g_istore_n hF dX8_back_23 (Nat.le_of_ble_eq_true rfl) rfl ?_
  exact loop 0 (Nat.zero_le _)
set_option maxHeartbeats 4000000 in
set_option maxRecDepth 100000 in
theorem c_tryOut {E : Env3} {h p ri hp pts wts tps ti rc rn rt ac an np ai ni : Nat} {A : AV} {B : AV} {w : SV} {fc : Nat → Int32} {fn : Nat → Int32} {fi : Nat → Int32} {reason : Int32} {cause : Int32} {pc : Int32} (hw : okS w) (hnp : np ≤ 80) (hni : ni ≤ 20) {k : Nat} (hk : k < 2 ^ 31)  : Cd E none 4 yX8_tryOut cX8_tryOut 4 (some .int) [.ref h, .int (nI k), .ref ri] [lanO h p ri A.1 hp pts pc wts tps reason cause B.1 ti, progO p rc rn rt, rowW E.2.2 rc ac 80 fc np, rowW E.2.2 rn an 80 fn np, rowW E.2.2 ri ai 20 fi ni, stOv B w, rw1 E.2.2 B w, rw2 E.2.2 B w, rw3 E.2.2 B w, rw4 E.2.2 B w] (some (.int (nI (tryF (fc, np) (fn, np) (fi, ni) k w).1))) [lanO h p ri A.1 hp pts pc wts tps reason cause B.1 ti, progO p rc rn rt, rowW E.2.2 rc ac 80 fc np, rowW E.2.2 rn an 80 fn np, rowW E.2.2 ri ai 20 fi ni, stOv B ((tryF (fc, np) (fn, np) (fi, ni) k w).2), rw1 E.2.2 B ((tryF (fc, np) (fn, np) (fi, ni) k w).2), rw2 E.2.2 B ((tryF (fc, np) (fn, np) (fi, ni) k w).2), rw3 E.2.2 B ((tryF (fc, np) (fn, np) (fi, ni) k w).2), rw4 E.2.2 B ((tryF (fc, np) (fn, np) (fi, ni) k w).2)] := by
  refine Ct.of [some (.ref h), some (.int (nI k)), some (.ref ri), none] (by decide +kernel) rfl (Nat.le_of_ble_eq_true rfl) (fun F hE hF hR hN => ?_)
  subst hE
  generalize hE : tryF (fc, np) (fn, np) (fi, ni) k w = Z at hR
  have loop : ∀ (r i : Nat) (w : SV), i + r = k → okS w → (i + (tryF (fc, np) (fn, np) (fi, ni) r w).1, (tryF (fc, np) (fn, np) (fi, ni) r w).2) = Z → G F 0 0 [lanO h p ri A.1 hp pts pc wts tps reason cause B.1 ti, progO p rc rn rt, rowW F.1.2.2 rc ac 80 fc np, rowW F.1.2.2 rn an 80 fn np, rowW F.1.2.2 ri ai 20 fi ni, stOv B w, rw1 F.1.2.2 B w, rw2 F.1.2.2 B w, rw3 F.1.2.2 B w, rw4 F.1.2.2 B w] 2 [some (.ref h), some (.int (nI k)), some (.ref ri), some (.int (nI i))] [] := by
    intro r
    induction r with
    | zero =>
      intro i w hi hv hZ
      refine g_iload_n hF dX8_tryOut_2 rfl ?_
      refine g_iload_n hF dX8_tryOut_3 rfl ?_
      refine g_icmp_ge (tgt := 39) hF dX8_tryOut_4 (by decide) (fun c_4 => ?_) (fun c_4 => absurd (nI_le (show k ≤ i by omega) (by omega)) c_4)
      refine g_iload_n hF dX8_tryOut_39 rfl ?_
      subst hZ
      exact g_iret hF hR dX8_tryOut_40 ⟨rfl, rfl⟩
    | succ r ih =>
      intro i w hi hv hZ
      by_cases hr : (readyF (fc, np) w).2.2.2.2.2.1 = 0
      · refine g_iload_n hF dX8_tryOut_2 rfl ?_
        refine g_iload_n hF dX8_tryOut_3 rfl ?_
        refine g_icmp_ge (tgt := 39) hF dX8_tryOut_4 (by decide) (fun c_4 => absurd c_4 (nI_ge (show i < k by omega) (by omega))) (fun c_4 => ?_)
        refine g_aload_n hF dX8_tryOut_7 rfl ?_
        refine g_get (j := 11) hF 0 rfl rfl (by decide) rfl m_258 rfl dX8_tryOut_8 ?_
        refine g_aload_n hF dX8_tryOut_11 rfl ?_
        refine g_get (j := 0) hF 0 rfl rfl (by decide) rfl m_247 rfl dX8_tryOut_12 ?_
        refine g_callVd hF (c_S_readies (by first | assumption | exact okS_ready (by assumption) | exact okS_perf (okS_ready (by assumption)) | exact okS_perf (by assumption) | exact okS_copy | exact okS_clear | exact okS_back (by assumption)) (by omega)) cal_X5_readies rfl m_455 (by decide) (Or.inl rfl) (Nat.zero_le _) (Nat.zero_le _) 5 rfl rfl [5, 6, 7, 8, 9, 1, 2] rfl rfl (Nat.le_of_ble_eq_true rfl) rfl (Nat.le_of_ble_eq_true rfl) dX8_tryOut_15 ?_
        try dsimp only [gput, gputA, List.set, stGs, List.cons_append, List.nil_append]
        refine g_if_eq (tgt := 39) hF dX8_tryOut_18 (by decide) (fun c_18 => absurd c_18 (bI_n.mpr (decide_eq_true hr))) (fun c_18 => ?_)
        refine g_aload_n hF dX8_tryOut_21 rfl ?_
        refine g_get (j := 11) hF 0 rfl rfl (by decide) rfl m_258 rfl dX8_tryOut_22 ?_
        refine g_aload_n hF dX8_tryOut_25 rfl ?_
        refine g_get (j := 0) hF 0 rfl rfl (by decide) rfl m_247 rfl dX8_tryOut_26 ?_
        refine g_aload_n hF dX8_tryOut_29 rfl ?_
        refine g_callVd hF (c_S_perform (by first | assumption | exact okS_ready (by assumption) | exact okS_perf (okS_ready (by assumption)) | exact okS_perf (by assumption) | exact okS_copy | exact okS_clear | exact okS_back (by assumption)) (by omega) (by omega) (by omega)) cal_X5_perform rfl m_517 (by decide) (Or.inl rfl) (Nat.zero_le _) (Nat.zero_le _) 5 rfl rfl [5, 6, 7, 8, 9, 1, 2, 3, 4] rfl rfl (Nat.le_of_ble_eq_true rfl) rfl (Nat.le_of_ble_eq_true rfl) dX8_tryOut_30 ?_
        try dsimp only [gput, gputA, List.set, stGs, List.cons_append, List.nil_append]
        refine g_iinc (v := nI (i + 1)) hF dX8_tryOut_33 rfl (nI_1 i) rfl ?_
        refine g_goto (tgt := 2) hF dX8_tryOut_36 (by decide) ?_
        refine ih (i + 1) _ (by omega) (okS_perf (okS_ready hv)) ?_
        rw [← hZ, tryF_go hr]
        exact Prod.ext (Nat.add_right_comm i 1 _) rfl
      · refine g_iload_n hF dX8_tryOut_2 rfl ?_
        refine g_iload_n hF dX8_tryOut_3 rfl ?_
        refine g_icmp_ge (tgt := 39) hF dX8_tryOut_4 (by decide) (fun c_4 => absurd c_4 (nI_ge (show i < k by omega) (by omega))) (fun c_4 => ?_)
        refine g_aload_n hF dX8_tryOut_7 rfl ?_
        refine g_get (j := 11) hF 0 rfl rfl (by decide) rfl m_258 rfl dX8_tryOut_8 ?_
        refine g_aload_n hF dX8_tryOut_11 rfl ?_
        refine g_get (j := 0) hF 0 rfl rfl (by decide) rfl m_247 rfl dX8_tryOut_12 ?_
        refine g_callVd hF (c_S_readies (by first | assumption | exact okS_ready (by assumption) | exact okS_perf (okS_ready (by assumption)) | exact okS_perf (by assumption) | exact okS_copy | exact okS_clear | exact okS_back (by assumption)) (by omega)) cal_X5_readies rfl m_455 (by decide) (Or.inl rfl) (Nat.zero_le _) (Nat.zero_le _) 5 rfl rfl [5, 6, 7, 8, 9, 1, 2] rfl rfl (Nat.le_of_ble_eq_true rfl) rfl (Nat.le_of_ble_eq_true rfl) dX8_tryOut_15 ?_
        try dsimp only [gput, gputA, List.set, stGs, List.cons_append, List.nil_append]
        refine g_if_eq (tgt := 39) hF dX8_tryOut_18 (by decide) (fun c_18 => ?_) (fun c_18 => absurd (bI_0.mpr (decide_eq_false hr)) c_18)
        refine g_iload_n hF dX8_tryOut_39 rfl ?_
        rw [tryF_stop hr] at hZ
        subst hZ
        exact g_iret hF hR dX8_tryOut_40 ⟨rfl, rfl⟩
  refine g_iconst (v := (0)) hF dX8_tryOut_0 rfl ?_
  refine g_istore_n hF dX8_tryOut_1 (Nat.le_of_ble_eq_true rfl) rfl ?_
  exact loop k 0 w (by omega) hw (by rw [Nat.zero_add]; exact hE)
set_option maxHeartbeats 4000000 in
set_option maxRecDepth 100000 in
theorem c_endsIn_raw {E : Env3} {h p ri hp pts wts tps ti rc rn rt ac an np ai ni : Nat} {A : AV} {B : AV} {v : SV} {w : SV} {fc : Nat → Int32} {fn : Nat → Int32} {fi : Nat → Int32} {reason : Int32} {cause : Int32} {pc : Int32} (hv : okS v) (hw : okS w) (hnp : np ≤ 80) (hni : ni ≤ 20) {k : Nat} (hl : isLenB (nI k) = true) (hk : k < 2 ^ 31)  : Cd E none 5 yX8_endsIn cX8_endsIn 3 (some .int) [.ref h, .int (nI k)] [lanO h p ri A.1 hp pts pc wts tps reason cause B.1 ti, progO p rc rn rt, rowW E.2.2 rc ac 80 fc np, rowW E.2.2 rn an 80 fn np, rowW E.2.2 ri ai 20 fi ni, stOv A v, rw1 E.2.2 A v, rw2 E.2.2 A v, rw3 E.2.2 A v, rw4 E.2.2 A v, stOv B w, rw1 E.2.2 B w, rw2 E.2.2 B w, rw3 E.2.2 B w, rw4 E.2.2 B w] (some (.int (endsV k (tryF (fc, np) (fn, np) (fi, ni) k (copyF w v))))) [lanO h p ri A.1 hp pts pc wts tps reason cause B.1 ti, progO p rc rn rt, rowW E.2.2 rc ac 80 fc np, rowW E.2.2 rn an 80 fn np, rowW E.2.2 ri ai 20 fi ni, stOv A v, rw1 E.2.2 A v, rw2 E.2.2 A v, rw3 E.2.2 A v, rw4 E.2.2 A v, stOv B ((tryF (fc, np) (fn, np) (fi, ni) k (copyF w v)).2), rw1 E.2.2 B ((tryF (fc, np) (fn, np) (fi, ni) k (copyF w v)).2), rw2 E.2.2 B ((tryF (fc, np) (fn, np) (fi, ni) k (copyF w v)).2), rw3 E.2.2 B ((tryF (fc, np) (fn, np) (fi, ni) k (copyF w v)).2), rw4 E.2.2 B ((tryF (fc, np) (fn, np) (fi, ni) k (copyF w v)).2)] := by
  refine Ct.of [some (.ref h), some (.int (nI k)), none] (by decide +kernel) rfl (Nat.le_of_ble_eq_true rfl) (fun F hE hF hR hN => ?_)
  subst hE
  refine g_iload_n hF dX8_endsIn_0 rfl ?_
  refine g_callSq hF (c_isRunLength) cal_X8_isRunLength rfl m_443 (by decide) (Or.inl rfl) (Nat.zero_le _) (Nat.zero_le _) [] rfl rfl rfl (Nat.le_of_ble_eq_true rfl) dX8_endsIn_1 ?_
  refine g_if_ne (tgt := 17) hF dX8_endsIn_4 (by decide) (fun c_4 => ?_) (fun c_4 => absurd c_4 (bI_n.mpr hl))
  refine g_aload_n hF dX8_endsIn_17 rfl ?_
  refine g_get (j := 11) hF 0 rfl rfl (by decide) rfl m_258 rfl dX8_endsIn_18 ?_
  refine g_aload_n hF dX8_endsIn_21 rfl ?_
  refine g_get (j := 2) hF 0 rfl rfl (by decide) rfl m_249 rfl dX8_endsIn_22 ?_
  refine g_callVd hF (c_S_copyFrom (by first | assumption | exact okS_ready (by assumption) | exact okS_perf (okS_ready (by assumption)) | exact okS_perf (by assumption) | exact okS_copy | exact okS_clear | exact okS_back (by assumption)) (by first | assumption | exact okS_ready (by assumption) | exact okS_perf (okS_ready (by assumption)) | exact okS_perf (by assumption) | exact okS_copy | exact okS_clear | exact okS_back (by assumption))) cal_X5_copyFrom rfl m_755 (by decide) (Or.inl rfl) (Nat.zero_le _) (Nat.zero_le _) 10 rfl rfl [10, 11, 12, 13, 14, 5, 6, 7, 8, 9] rfl rfl (Nat.le_of_ble_eq_true rfl) rfl (Nat.le_of_ble_eq_true rfl) dX8_endsIn_25 ?_
  try dsimp only [gput, gputA, List.set, stGs, List.cons_append, List.nil_append]
  refine g_aload_n hF dX8_endsIn_28 rfl ?_
  refine g_iload_n hF dX8_endsIn_29 rfl ?_
  refine g_aload_n hF dX8_endsIn_30 rfl ?_
  refine g_get (j := 1) hF 0 rfl rfl (by decide) rfl m_248 rfl dX8_endsIn_31 ?_
  refine g_callVd hF (c_tryOut okS_copy (by assumption) (by assumption) (by omega)) cal_X8_tryOut rfl m_760 (by decide) (Or.inl rfl) (Nat.zero_le _) (Nat.zero_le _) 0 rfl rfl [0, 1, 2, 3, 4, 10, 11, 12, 13, 14] rfl rfl (Nat.le_of_ble_eq_true rfl) rfl (Nat.le_of_ble_eq_true rfl) dX8_endsIn_34 ?_
  try dsimp only [gput, gputA, List.set, stGs, List.cons_append, List.nil_append]
  refine g_istore_n hF dX8_endsIn_37 (Nat.le_of_ble_eq_true rfl) rfl ?_
  refine g_iload_n hF dX8_endsIn_38 rfl ?_
  refine g_iload_n hF dX8_endsIn_39 rfl ?_
  refine g_icmp_lt (tgt := 54) hF dX8_endsIn_40 (by decide) (fun c_40 => ?_) (fun c_40 => ?_)
  · refine g_iload_n hF dX8_endsIn_54 rfl ?_
    refine g_goto (tgt := 59) hF dX8_endsIn_55 (by decide) ?_
    exact g_iret hF hR dX8_endsIn_59 ⟨(by unfold endsV; simp only [bI_n.mp c_4, eq_true c_40, if_true, if_false, true_and, and_true, false_and, and_false, true_or, or_true, false_or, or_false, not_true_eq_false, not_false_eq_true, Bool.true_eq_false, Bool.false_eq_true, ite_true, ite_false, reduceIte, decide_true, decide_false, Bool.not_true, Bool.not_false]), rfl⟩
  · refine g_aload_n hF dX8_endsIn_43 rfl ?_
    refine g_get (j := 11) hF 0 rfl rfl (by decide) rfl m_258 rfl dX8_endsIn_44 ?_
    refine g_getN (j := 5) hF 10 rfl rfl (by decide) rfl m_87 rfl dX8_endsIn_47 ?_
    refine g_iconst (v := (1)) hF dX8_endsIn_50 rfl ?_
    refine g_icmp_ne (tgt := 58) hF dX8_endsIn_51 (by decide) (fun c_51 => ?_) (fun c_51 => ?_)
    · refine g_iconst (v := (-1)) hF dX8_endsIn_58 rfl ?_
      exact g_iret hF hR dX8_endsIn_59 ⟨(by unfold endsV; simp only [bI_n.mp c_4, eq_false c_40, eq_false c_51, if_true, if_false, true_and, and_true, false_and, and_false, true_or, or_true, false_or, or_false, not_true_eq_false, not_false_eq_true, Bool.true_eq_false, Bool.false_eq_true, ite_true, ite_false, reduceIte, decide_true, decide_false, Bool.not_true, Bool.not_false]), rfl⟩
    · refine g_iload_n hF dX8_endsIn_54 rfl ?_
      refine g_goto (tgt := 59) hF dX8_endsIn_55 (by decide) ?_
      exact g_iret hF hR dX8_endsIn_59 ⟨(by unfold endsV; simp only [bI_n.mp c_4, eq_false c_40, eq_true c_51, if_true, if_false, true_and, and_true, false_and, and_false, true_or, or_true, false_or, or_false, not_true_eq_false, not_false_eq_true, Bool.true_eq_false, Bool.false_eq_true, ite_true, ite_false, reduceIte, decide_true, decide_false, Bool.not_true, Bool.not_false]), rfl⟩
set_option maxHeartbeats 4000000 in
set_option maxRecDepth 100000 in
theorem c_cellIn_raw {E : Env3} {h p ri hp pts wts tps ti rc rn rt ac an np ai ni : Nat} {A : AV} {B : AV} {v : SV} {w : SV} {fc : Nat → Int32} {fn : Nat → Int32} {fi : Nat → Int32} {reason : Int32} {cause : Int32} {pc : Int32} (hv : okS v) (hw : okS w) (hnp : np ≤ 80) (hni : ni ≤ 20) {k : Nat} (hl : isLenB (nI k) = true) (hk : k < 2 ^ 31) {c : Int32} (hcl : isCellB c = true)  : Cd E none 5 yX8_cellIn cX8_cellIn 3 (some .int) [.ref h, .int c, .int (nI k)] [lanO h p ri A.1 hp pts pc wts tps reason cause B.1 ti, progO p rc rn rt, rowW E.2.2 rc ac 80 fc np, rowW E.2.2 rn an 80 fn np, rowW E.2.2 ri ai 20 fi ni, stOv A v, rw1 E.2.2 A v, rw2 E.2.2 A v, rw3 E.2.2 A v, rw4 E.2.2 A v, stOv B w, rw1 E.2.2 B w, rw2 E.2.2 B w, rw3 E.2.2 B w, rw4 E.2.2 B w] (some (.int (getR (tryF (fc, np) (fn, np) (fi, ni) k (copyF w v)).2.2.1 c))) [lanO h p ri A.1 hp pts pc wts tps reason cause B.1 ti, progO p rc rn rt, rowW E.2.2 rc ac 80 fc np, rowW E.2.2 rn an 80 fn np, rowW E.2.2 ri ai 20 fi ni, stOv A v, rw1 E.2.2 A v, rw2 E.2.2 A v, rw3 E.2.2 A v, rw4 E.2.2 A v, stOv B ((tryF (fc, np) (fn, np) (fi, ni) k (copyF w v)).2), rw1 E.2.2 B ((tryF (fc, np) (fn, np) (fi, ni) k (copyF w v)).2), rw2 E.2.2 B ((tryF (fc, np) (fn, np) (fi, ni) k (copyF w v)).2), rw3 E.2.2 B ((tryF (fc, np) (fn, np) (fi, ni) k (copyF w v)).2), rw4 E.2.2 B ((tryF (fc, np) (fn, np) (fi, ni) k (copyF w v)).2)] := by
  refine Ct.of [some (.ref h), some (.int c), some (.int (nI k))] (by decide +kernel) rfl (Nat.le_of_ble_eq_true rfl) (fun F hE hF hR hN => ?_)
  subst hE
  refine g_iload_n hF dX8_cellIn_0 rfl ?_
  refine g_callSq hF (c_isCell) cal_X8_isCell rfl m_652 (by decide) (Or.inl rfl) (Nat.zero_le _) (Nat.zero_le _) [] rfl rfl rfl (Nat.le_of_ble_eq_true rfl) dX8_cellIn_1 ?_
  refine g_if_ne (tgt := 18) hF dX8_cellIn_4 (by decide) (fun c_4 => ?_) (fun c_4 => absurd c_4 (bI_n.mpr hcl))
  refine g_iload_n hF dX8_cellIn_18 rfl ?_
  refine g_callSq hF (c_isRunLength) cal_X8_isRunLength rfl m_443 (by decide) (Or.inl rfl) (Nat.zero_le _) (Nat.zero_le _) [] rfl rfl rfl (Nat.le_of_ble_eq_true rfl) dX8_cellIn_19 ?_
  refine g_if_ne (tgt := 35) hF dX8_cellIn_22 (by decide) (fun c_22 => ?_) (fun c_22 => absurd c_22 (bI_n.mpr hl))
  refine g_aload_n hF dX8_cellIn_35 rfl ?_
  refine g_get (j := 11) hF 0 rfl rfl (by decide) rfl m_258 rfl dX8_cellIn_36 ?_
  refine g_aload_n hF dX8_cellIn_39 rfl ?_
  refine g_get (j := 2) hF 0 rfl rfl (by decide) rfl m_249 rfl dX8_cellIn_40 ?_
  refine g_callVd hF (c_S_copyFrom (by first | assumption | exact okS_ready (by assumption) | exact okS_perf (okS_ready (by assumption)) | exact okS_perf (by assumption) | exact okS_copy | exact okS_clear | exact okS_back (by assumption)) (by first | assumption | exact okS_ready (by assumption) | exact okS_perf (okS_ready (by assumption)) | exact okS_perf (by assumption) | exact okS_copy | exact okS_clear | exact okS_back (by assumption))) cal_X5_copyFrom rfl m_755 (by decide) (Or.inl rfl) (Nat.zero_le _) (Nat.zero_le _) 10 rfl rfl [10, 11, 12, 13, 14, 5, 6, 7, 8, 9] rfl rfl (Nat.le_of_ble_eq_true rfl) rfl (Nat.le_of_ble_eq_true rfl) dX8_cellIn_43 ?_
  try dsimp only [gput, gputA, List.set, stGs, List.cons_append, List.nil_append]
  refine g_aload_n hF dX8_cellIn_46 rfl ?_
  refine g_iload_n hF dX8_cellIn_47 rfl ?_
  refine g_aload_n hF dX8_cellIn_48 rfl ?_
  refine g_get (j := 1) hF 0 rfl rfl (by decide) rfl m_248 rfl dX8_cellIn_49 ?_
  refine g_callVd hF (c_tryOut okS_copy (by assumption) (by assumption) (by omega)) cal_X8_tryOut rfl m_760 (by decide) (Or.inl rfl) (Nat.zero_le _) (Nat.zero_le _) 0 rfl rfl [0, 1, 2, 3, 4, 10, 11, 12, 13, 14] rfl rfl (Nat.le_of_ble_eq_true rfl) rfl (Nat.le_of_ble_eq_true rfl) dX8_cellIn_52 ?_
  try dsimp only [gput, gputA, List.set, stGs, List.cons_append, List.nil_append]
  refine g_pop hF dX8_cellIn_55 rfl ?_
  refine g_aload_n hF dX8_cellIn_56 rfl ?_
  refine g_get (j := 11) hF 0 rfl rfl (by decide) rfl m_258 rfl dX8_cellIn_57 ?_
  refine g_getN (j := 1) hF 10 rfl rfl (by decide) rfl m_77 rfl dX8_cellIn_60 ?_
  refine g_iload_n hF dX8_cellIn_63 rfl ?_
  refine g_callVq hF (c_Row_get (okS_try k okS_copy).2.1 (by omega)) cal_X4_get rfl m_654 (by decide) (Or.inl rfl) (Nat.zero_le _) (Nat.zero_le _) 12 rfl rfl [12] rfl rfl rfl (Nat.le_of_ble_eq_true rfl) dX8_cellIn_64 ?_
  exact g_iret hF hR dX8_cellIn_67 ⟨rfl, rfl⟩
end
section
/-! pure: pictures that are alike where they count -/
theorem rowGet_eq {f f' : Nat → Int32} {n : Nat} (h : ∀ i, i < n → f i = f' i) (i : Int32) : rowGet f n i = rowGet f' n i := by
  unfold rowGet
  by_cases h0 : i < 0
  · rw [if_pos h0, if_pos h0]
  · rw [if_neg h0, if_neg h0]
    by_cases h1 : nI n ≤ i
    · rw [if_pos h1, if_pos h1]
    · rw [if_neg h1, if_neg h1]
      obtain ⟨j, hj, rfl⟩ := nI_of h0
      rw [nI_clamp hj]
      exact h j (Nat.lt_of_not_le (fun y => h1 (nI_le y hj)))
def REq (r r' : RV) : Prop := r.2 = r'.2 ∧ ∀ i, i < r.2 → r.1 i = r'.1 i
theorem REq.rf (r : RV) : REq r r := ⟨rfl, fun _ _ => rfl⟩
theorem REq.sy {r r' : RV} (h : REq r r') : REq r' r := ⟨h.1.symm, fun i hi => (h.2 i (by rw [h.1]; exact hi)).symm⟩
theorem REq.tr {a b c : RV} (h : REq a b) (g : REq b c) : REq a c := ⟨h.1.trans g.1, fun i hi => (h.2 i hi).trans (g.2 i (by rw [← h.1]; exact hi))⟩
theorem getR_eq {r r' : RV} (h : REq r r') (i : Int32) : getR r i = getR r' i := by
  unfold getR
  rw [rowGet_eq h.2, h.1]
theorem topR_eq {r r' : RV} (h : REq r r') (i : Int32) : topR r i = topR r' i := by
  unfold topR
  rw [rowGet_eq h.2, h.1]
theorem popV_eq {r r' : RV} (h : REq r r') : popV r = popV r' := by
  unfold popV
  rw [← h.1]
  by_cases e : r.2 = 0
  · rw [if_pos e, if_pos e]
  · rw [if_neg e, if_neg e]; exact h.2 _ (by omega)
theorem popR_eq {r r' : RV} (h : REq r r') : REq (popR r) (popR r') := ⟨congrArg (fun x => x - 1) h.1, fun i hi => h.2 i (by have : i < r.2 - 1 := hi; omega)⟩
theorem pushR_eq {cap : Nat} {r r' : RV} {x x' : Int32} (h : REq r r') (hx : x = x') : REq (pushR cap r x) (pushR cap r' x') := by
  subst hx
  have hn := h.1
  by_cases e : r.2 < cap
  · have e' : r'.2 < cap := by rw [← hn]; exact e
    refine ⟨?_, fun i hi => ?_⟩
    · show (if r.2 < cap then r.2 + 1 else r.2) = (if r'.2 < cap then r'.2 + 1 else r'.2)
      rw [if_pos e, if_pos e', hn]
    · have hi2 : i < (if r.2 < cap then r.2 + 1 else r.2) := hi
      rw [if_pos e] at hi2
      show (if r.2 < cap then upd r.1 r.2 x else r.1) i = (if r'.2 < cap then upd r'.1 r'.2 x else r'.1) i
      rw [if_pos e, if_pos e', ← hn]
      unfold upd
      by_cases q : i = r.2
      · simp [q]
      · simp only [q, if_false]; exact h.2 i (by omega)
  · have e' : ¬ r'.2 < cap := by rw [← hn]; exact e
    refine ⟨?_, fun i hi => ?_⟩
    · show (if r.2 < cap then r.2 + 1 else r.2) = (if r'.2 < cap then r'.2 + 1 else r'.2)
      rw [if_neg e, if_neg e', hn]
    · have hi2 : i < (if r.2 < cap then r.2 + 1 else r.2) := hi
      rw [if_neg e] at hi2
      show (if r.2 < cap then upd r.1 r.2 x else r.1) i = (if r'.2 < cap then upd r'.1 r'.2 x else r'.1) i
      rw [if_neg e, if_neg e']; exact h.2 i hi2
theorem putR_eq {r r' : RV} {i i' x x' : Int32} (h : REq r r') (hi : i = i') (hx : x = x') : REq (putR r i x) (putR r' i' x') := by
  subst hi; subst hx
  refine ⟨h.1, fun j hj => ?_⟩
  have hj2 : j < r.2 := hj
  show rowPut r.1 r.2 i x j = rowPut r'.1 r'.2 i x j
  rw [← h.1]
  unfold rowPut
  by_cases h0 : i < 0
  · rw [if_pos h0, if_pos h0]; exact h.2 j hj2
  · rw [if_neg h0, if_neg h0]
    by_cases h1 : nI r.2 ≤ i
    · rw [if_pos h1, if_pos h1]; exact h.2 j hj2
    · rw [if_neg h1, if_neg h1]
      unfold upd
      by_cases e : j = i.toNatClampNeg
      · simp [e]
      · simp only [e, if_false]; exact h.2 j hj2
theorem cpyR_eq {cap : Nat} {r r2 : RV} (h : r2.2 ≤ cap) : REq (cpyR cap r r2) r2 := by
  refine ⟨Nat.min_eq_left h, fun i hi => ?_⟩
  have hi2 : i < min r2.2 cap := hi
  show va_cpy r2.1 r.1 0 0 (min r2.2 cap) i = r2.1 i
  rw [pk_cpy_in (Nat.zero_le i) (by rw [Nat.zero_add]; exact hi2), Nat.zero_add, Nat.sub_zero]
def SEq (v v' : SV) : Prop := REq v.1 v'.1 ∧ REq v.2.1 v'.2.1 ∧ REq v.2.2.1 v'.2.2.1 ∧ REq v.2.2.2.1 v'.2.2.2.1 ∧ v.2.2.2.2 = v'.2.2.2.2
theorem SEq.rf (v : SV) : SEq v v := ⟨REq.rf _, REq.rf _, REq.rf _, REq.rf _, rfl⟩
theorem SEq.sy {v v' : SV} (h : SEq v v') : SEq v' v := ⟨h.1.sy, h.2.1.sy, h.2.2.1.sy, h.2.2.2.1.sy, h.2.2.2.2.symm⟩
theorem SEq.tr {a b c : SV} (h : SEq a b) (g : SEq b c) : SEq a c := ⟨h.1.tr g.1, h.2.1.tr g.2.1, h.2.2.1.tr g.2.2.1, h.2.2.2.1.tr g.2.2.2.1, h.2.2.2.2.trans g.2.2.2.2⟩
theorem SEq.at' {v v' : SV} (h : SEq v v') : v.2.2.2.2.1 = v'.2.2.2.2.1 := congrArg (fun z => z.1) h.2.2.2.2
theorem SEq.status {v v' : SV} (h : SEq v v') : v.2.2.2.2.2.1 = v'.2.2.2.2.2.1 := congrArg (fun z => z.2.1) h.2.2.2.2
theorem SEq.rd {v v' : SV} (h : SEq v v') : v.2.2.2.2.2.2.1 = v'.2.2.2.2.2.2.1 := congrArg (fun z => z.2.2.1) h.2.2.2.2
theorem SEq.ck {v v' : SV} (h : SEq v v') : v.2.2.2.2.2.2.2 = v'.2.2.2.2.2.2.2 := congrArg (fun z => z.2.2.2) h.2.2.2.2
theorem SEq_ite {p : Prop} [Decidable p] {a b a' b' : SV} (ha : SEq a a') (hb : SEq b b') : SEq (if p then a else b) (if p then a' else b') := by
  by_cases h : p
  · rw [if_pos h, if_pos h]; exact ha
  · rw [if_neg h, if_neg h]; exact hb
theorem SEq_mk {s c f u s' c' f' u' : RV} {a b r k a' b' r' k' : Int32} (h1 : REq s s') (h2 : REq c c') (h3 : REq f f') (h4 : REq u u') (h5 : a = a') (h6 : b = b') (h7 : r = r') (h8 : k = k') : SEq (s, c, f, u, a, b, r, k) (s', c', f', u', a', b', r', k') := by
  subst h5; subst h6; subst h7; subst h8
  exact ⟨h1, h2, h3, h4, rfl⟩
theorem SEq_at {v v' : SV} {s c f u s' c' f' u' : RV} {a r a' r' : Int32} (h : SEq v v') (h1 : REq s s') (h2 : REq c c') (h3 : REq f f') (h4 : REq u u') (h5 : a = a') (h7 : r = r') : SEq (withAt v s c f u a r) (withAt v' s' c' f' u' a' r') :=
  SEq_mk h1 h2 h3 h4 h5 h.status h7 (by rw [h.ck])
theorem failF_eq {pc : RV} {v v' : SV} (h : SEq v v') : failF pc v = failF pc v' := by
  unfold failF
  rw [h.at', h.1.1, h.2.2.1.1, h.2.2.2.1.1, topR_eq h.1]
theorem readyF_eq {pc : RV} {v v' : SV} (h : SEq v v') : SEq (readyF pc v) (readyF pc v') := by
  unfold readyF
  rw [h.status]
  exact SEq_ite (SEq_mk h.1 h.2.1 h.2.2.1 h.2.2.2.1 h.at' (failF_eq h) h.rd h.ck) h
theorem perfF_eq {c m c' m' : Int32} {inp : RV} {v v' : SV} (hc : c = c') (hm : m = m') (h : SEq v v') : SEq (perfF c m inp v) (perfF c' m' inp v') := by
  subst hc; subst hm
  obtain ⟨h1, h2, h3, h4, h5⟩ := id h
  have ha : v.2.2.2.2.1 + 1 = v'.2.2.2.2.1 + 1 := by rw [h.at']
  unfold perfF
  refine SEq_ite (SEq_at h (pushR_eq h1 rfl) (h2) (h3) (h4) (ha) (h.rd)) ?_
  refine SEq_ite (SEq_at h (popR_eq h1) (h2) (h3) (h4) (ha) (h.rd)) ?_
  refine SEq_ite (SEq_at h (pushR_eq h1 (topR_eq h1 0)) (h2) (h3) (h4) (ha) (h.rd)) ?_
  refine SEq_ite (SEq_at h (pushR_eq (pushR_eq (popR_eq (popR_eq h1)) (popV_eq h1)) (popV_eq (popR_eq h1))) (h2) (h3) (h4) (ha) (h.rd)) ?_
  refine SEq_ite (SEq_at h (pushR_eq h1 (topR_eq h1 1)) (h2) (h3) (h4) (ha) (h.rd)) ?_
  refine SEq_ite (SEq_at h (pushR_eq (popR_eq h1) (by rw [popV_eq h1])) (h2) (h3) (h4) (ha) (h.rd)) ?_
  refine SEq_ite (SEq_at h (pushR_eq h1 (getR_eq h2 m)) (h2) (h3) (h4) (ha) (h.rd)) ?_
  refine SEq_ite (SEq_at h (popR_eq h1) (putR_eq h2 rfl (popV_eq h1)) (h3) (h4) (ha) (h.rd)) ?_
  refine SEq_ite (SEq_at h (pushR_eq (popR_eq h1) (by rw [popV_eq h1, getR_eq h2])) (h2) (h3) (h4) (ha) (h.rd)) ?_
  refine SEq_ite (SEq_at h (popR_eq (popR_eq h1)) (putR_eq h2 (popV_eq h1) (popV_eq (popR_eq h1))) (h3) (h4) (ha) (h.rd)) ?_
  refine SEq_ite (SEq_at h (h1) (h2) (h3) (h4) (rfl) (h.rd)) ?_
  refine SEq_ite (SEq_at h (popR_eq h1) (h2) (h3) (h4) (by rw [popV_eq h1, h.at']) (h.rd)) ?_
  refine SEq_ite (SEq_at h (h1) (h2) (pushR_eq h3 ha) (h4) (rfl) (h.rd)) ?_
  refine SEq_ite (SEq_at h (h1) (h2) (popR_eq h3) (h4) (popV_eq h3) (h.rd)) ?_
  refine SEq_ite (SEq_at h (pushR_eq h1 (by rw [h.rd])) (h2) (h3) (h4) (ha) (by rw [h.rd])) ?_
  refine SEq_ite (SEq_at h (popR_eq h1) (h2) (h3) (pushR_eq h4 (popV_eq h1)) (ha) (h.rd)) ?_
  refine SEq_ite (SEq_mk h1 h2 h3 h4 h.at' rfl h.rd (by rw [h.ck])) ?_
  exact SEq_at h (pushR_eq (popR_eq (popR_eq h1)) (by rw [popV_eq h1, popV_eq (popR_eq h1)])) (h2) (h3) (h4) (ha) (h.rd)
theorem tryF_eq {pc pn inp : RV} : ∀ (k : Nat) {v v' : SV}, SEq v v' → (tryF pc pn inp k v).1 = (tryF pc pn inp k v').1 ∧ SEq (tryF pc pn inp k v).2 (tryF pc pn inp k v').2
  | 0, _, _, h => ⟨rfl, h⟩
  | k + 1, v, v', h => by
    have hr := readyF_eq (pc := pc) h
    by_cases e : (readyF pc v).2.2.2.2.2.1 = 0
    · have e' : (readyF pc v').2.2.2.2.2.1 = 0 := by rw [← hr.status]; exact e
      rw [tryF_go e, tryF_go e']
      have ih := tryF_eq (pc := pc) (pn := pn) (inp := inp) k (perfF_eq (inp := inp) (show rowGet pc.1 pc.2 (readyF pc v).2.2.2.2.1 = rowGet pc.1 pc.2 (readyF pc v').2.2.2.2.1 by rw [hr.at']) (show rowGet pn.1 pn.2 (readyF pc v).2.2.2.2.1 = rowGet pn.1 pn.2 (readyF pc v').2.2.2.2.1 by rw [hr.at']) hr)
      exact ⟨congrArg (fun x => x + 1) ih.1, ih.2⟩
    · have e' : ¬ (readyF pc v').2.2.2.2.2.1 = 0 := by rw [← hr.status]; exact e
      rw [tryF_stop e, tryF_stop e']
      exact ⟨rfl, hr⟩
theorem copyF_eq {t v : SV} (h : okS v) : SEq (copyF t v) v := ⟨cpyR_eq h.1, cpyR_eq h.2.1, cpyR_eq h.2.2.1, cpyR_eq h.2.2.2, rfl⟩
theorem endsV_eq {k : Nat} {a b : Nat × SV} (h : a.1 = b.1) (g : SEq a.2 b.2) : endsV k a = endsV k b := by
  unfold endsV
  rw [h, g.status]
theorem endsV_copy {pc pn inp : RV} {k : Nat} {t v : SV} (h : okS v) : endsV k (tryF pc pn inp k (copyF t v)) = endsV k (tryF pc pn inp k v) := by
  have := tryF_eq (pc := pc) (pn := pn) (inp := inp) k (copyF_eq (t := t) h)
  exact endsV_eq this.1 this.2
theorem cellV_copy {pc pn inp : RV} {k : Nat} {t v : SV} {c : Int32} (h : okS v) : getR (tryF pc pn inp k (copyF t v)).2.2.1 c = getR (tryF pc pn inp k v).2.2.1 c := getR_eq (tryF_eq (pc := pc) (pn := pn) (inp := inp) k (copyF_eq (t := t) h)).2.2.1 c
end
