-- ===== PART A: goes FIRST, ahead of the names: the tables' words, and 'selects' of the private methods out of them =====
/-- a private method of a class that the tables say can be made, by its rows of tables_1 -/
def lw_okq (q : MethodName × Nat) : Prop := (q.1.cls ≠ "java/lang/invoke/MethodHandle" ∧ q.1.cls ≠ "java/lang/invoke/VarHandle") ∧ Cond.instantiable q.1.cls q.2 ∈ tables_1 ∧ Cond.privateMethod q.1 ∈ tables_1 ∧ Cond.instanceMethod q.1 ∈ tables_1
theorem lw_p0 : lw_okq (⟨"java/lang/Throwable", "fillInStackTrace", "(I)Ljava/lang/Throwable;"⟩, 6) := ⟨⟨by decide +kernel, by decide +kernel⟩, List.mem_of_getElem? (i := 144) (by decide +kernel), List.mem_of_getElem? (i := 142) (by decide +kernel), List.mem_of_getElem? (i := 143) (by decide +kernel)⟩
theorem lw_p1 : lw_okq (⟨"EchoBureau", "findHall", "(I)LEchoBureau$Hall;"⟩, 8) := ⟨⟨by decide +kernel, by decide +kernel⟩, List.mem_of_getElem? (i := 18) (by decide +kernel), List.mem_of_getElem? (i := 226) (by decide +kernel), List.mem_of_getElem? (i := 227) (by decide +kernel)⟩
theorem lw_p2 : lw_okq (⟨"EchoBureau$Hall", "isFull", "()Z"⟩, 6) := ⟨⟨by decide +kernel, by decide +kernel⟩, List.mem_of_getElem? (i := 189) (by decide +kernel), List.mem_of_getElem? (i := 252) (by decide +kernel), List.mem_of_getElem? (i := 253) (by decide +kernel)⟩
theorem lw_p3 : lw_okq (⟨"EchoBureau$Hall", "loseCertificate", "()V"⟩, 6) := ⟨⟨by decide +kernel, by decide +kernel⟩, List.mem_of_getElem? (i := 189) (by decide +kernel), List.mem_of_getElem? (i := 257) (by decide +kernel), List.mem_of_getElem? (i := 258) (by decide +kernel)⟩
theorem lw_p4 : lw_okq (⟨"EchoBureau$Hall", "build", "(LEchoBureau$Surface;)I"⟩, 6) := ⟨⟨by decide +kernel, by decide +kernel⟩, List.mem_of_getElem? (i := 189) (by decide +kernel), List.mem_of_getElem? (i := 275) (by decide +kernel), List.mem_of_getElem? (i := 276) (by decide +kernel)⟩
theorem lw_p5 : lw_okq (⟨"EchoBureau$Surface", "hardnessUnder", "(I)I"⟩, 2) := ⟨⟨by decide +kernel, by decide +kernel⟩, List.mem_of_getElem? (i := 261) (by decide +kernel), List.mem_of_getElem? (i := 296) (by decide +kernel), List.mem_of_getElem? (i := 297) (by decide +kernel)⟩
theorem lw_p6 : lw_okq (⟨"EchoBureau", "tallyOfClick", "(II)LEchoBureau$Tally;"⟩, 8) := ⟨⟨by decide +kernel, by decide +kernel⟩, List.mem_of_getElem? (i := 18) (by decide +kernel), List.mem_of_getElem? (i := 315) (by decide +kernel), List.mem_of_getElem? (i := 316) (by decide +kernel)⟩
theorem lw_p7 : lw_okq (⟨"EchoBureau", "tallyOf", "(LEchoBureau$Hall;II)LEchoBureau$Tally;"⟩, 8) := ⟨⟨by decide +kernel, by decide +kernel⟩, List.mem_of_getElem? (i := 18) (by decide +kernel), List.mem_of_getElem? (i := 323) (by decide +kernel), List.mem_of_getElem? (i := 324) (by decide +kernel)⟩
theorem lw_p8 : lw_okq (⟨"EchoBureau$Tally", "begin", "(I)V"⟩, 5) := ⟨⟨by decide +kernel, by decide +kernel⟩, List.mem_of_getElem? (i := 30) (by decide +kernel), List.mem_of_getElem? (i := 327) (by decide +kernel), List.mem_of_getElem? (i := 328) (by decide +kernel)⟩
theorem lw_p9 : lw_okq (⟨"EchoBureau$Hall", "throwBack", "(IIILEchoBureau$Listener;)V"⟩, 6) := ⟨⟨by decide +kernel, by decide +kernel⟩, List.mem_of_getElem? (i := 189) (by decide +kernel), List.mem_of_getElem? (i := 331) (by decide +kernel), List.mem_of_getElem? (i := 332) (by decide +kernel)⟩
theorem lw_p10 : lw_okq (⟨"EchoBureau$Surface", "throwRow", "(IIILEchoBureau$Listener;)V"⟩, 2) := ⟨⟨by decide +kernel, by decide +kernel⟩, List.mem_of_getElem? (i := 261) (by decide +kernel), List.mem_of_getElem? (i := 335) (by decide +kernel), List.mem_of_getElem? (i := 336) (by decide +kernel)⟩
theorem lw_p11 : lw_okq (⟨"EchoBureau", "loudnessesOf", "(LEchoBureau$Hall;I)LEchoBureau$Loudnesses;"⟩, 8) := ⟨⟨by decide +kernel, by decide +kernel⟩, List.mem_of_getElem? (i := 18) (by decide +kernel), List.mem_of_getElem? (i := 373) (by decide +kernel), List.mem_of_getElem? (i := 374) (by decide +kernel)⟩
theorem lw_p12 : lw_okq (⟨"EchoBureau$Loudnesses", "begin", "()V"⟩, 1) := ⟨⟨by decide +kernel, by decide +kernel⟩, List.mem_of_getElem? (i := 60) (by decide +kernel), List.mem_of_getElem? (i := 377) (by decide +kernel), List.mem_of_getElem? (i := 378) (by decide +kernel)⟩
theorem lw_p13 : lw_okq (⟨"EchoBureau$Loudnesses", "addedAt", "(I)I"⟩, 1) := ⟨⟨by decide +kernel, by decide +kernel⟩, List.mem_of_getElem? (i := 60) (by decide +kernel), List.mem_of_getElem? (i := 384) (by decide +kernel), List.mem_of_getElem? (i := 385) (by decide +kernel)⟩
theorem lw_p14 : lw_okq (⟨"EchoBureau", "findStandard", "(I)LEchoBureau$Standard;"⟩, 8) := ⟨⟨by decide +kernel, by decide +kernel⟩, List.mem_of_getElem? (i := 18) (by decide +kernel), List.mem_of_getElem? (i := 392) (by decide +kernel), List.mem_of_getElem? (i := 393) (by decide +kernel)⟩
theorem lw_p15 : lw_okq (⟨"EchoBureau", "meetsNow", "(LEchoBureau$Hall;LEchoBureau$Standard;)Z"⟩, 8) := ⟨⟨by decide +kernel, by decide +kernel⟩, List.mem_of_getElem? (i := 18) (by decide +kernel), List.mem_of_getElem? (i := 398) (by decide +kernel), List.mem_of_getElem? (i := 399) (by decide +kernel)⟩
def lw_privs_1 : List (MethodName × Nat) := [(⟨"java/lang/Throwable", "fillInStackTrace", "(I)Ljava/lang/Throwable;"⟩, 6), (⟨"EchoBureau", "findHall", "(I)LEchoBureau$Hall;"⟩, 8), (⟨"EchoBureau$Hall", "isFull", "()Z"⟩, 6), (⟨"EchoBureau$Hall", "loseCertificate", "()V"⟩, 6), (⟨"EchoBureau$Hall", "build", "(LEchoBureau$Surface;)I"⟩, 6), (⟨"EchoBureau$Surface", "hardnessUnder", "(I)I"⟩, 2), (⟨"EchoBureau", "tallyOfClick", "(II)LEchoBureau$Tally;"⟩, 8), (⟨"EchoBureau", "tallyOf", "(LEchoBureau$Hall;II)LEchoBureau$Tally;"⟩, 8), (⟨"EchoBureau$Tally", "begin", "(I)V"⟩, 5), (⟨"EchoBureau$Hall", "throwBack", "(IIILEchoBureau$Listener;)V"⟩, 6), (⟨"EchoBureau$Surface", "throwRow", "(IIILEchoBureau$Listener;)V"⟩, 2), (⟨"EchoBureau", "loudnessesOf", "(LEchoBureau$Hall;I)LEchoBureau$Loudnesses;"⟩, 8), (⟨"EchoBureau$Loudnesses", "begin", "()V"⟩, 1), (⟨"EchoBureau$Loudnesses", "addedAt", "(I)I"⟩, 1), (⟨"EchoBureau", "findStandard", "(I)LEchoBureau$Standard;"⟩, 8), (⟨"EchoBureau", "meetsNow", "(LEchoBureau$Hall;LEchoBureau$Standard;)Z"⟩, 8)]
theorem lw_r1 : ∀ q ∈ lw_privs_1, lw_okq q := List.forall_mem_cons.mpr ⟨lw_p0, List.forall_mem_cons.mpr ⟨lw_p1, List.forall_mem_cons.mpr ⟨lw_p2, List.forall_mem_cons.mpr ⟨lw_p3, List.forall_mem_cons.mpr ⟨lw_p4, List.forall_mem_cons.mpr ⟨lw_p5, List.forall_mem_cons.mpr ⟨lw_p6, List.forall_mem_cons.mpr ⟨lw_p7, List.forall_mem_cons.mpr ⟨lw_p8, List.forall_mem_cons.mpr ⟨lw_p9, List.forall_mem_cons.mpr ⟨lw_p10, List.forall_mem_cons.mpr ⟨lw_p11, List.forall_mem_cons.mpr ⟨lw_p12, List.forall_mem_cons.mpr ⟨lw_p13, List.forall_mem_cons.mpr ⟨lw_p14, List.forall_mem_cons.mpr ⟨lw_p15, fun _ h => absurd h List.not_mem_nil⟩⟩⟩⟩⟩⟩⟩⟩⟩⟩⟩⟩⟩⟩⟩⟩
theorem lw_p16 : lw_okq (⟨"EchoBureau", "wouldMeet", "(LEchoBureau$Hall;LEchoBureau$Standard;II)Z"⟩, 8) := ⟨⟨by decide +kernel, by decide +kernel⟩, List.mem_of_getElem? (i := 18) (by decide +kernel), List.mem_of_getElem? (i := 402) (by decide +kernel), List.mem_of_getElem? (i := 403) (by decide +kernel)⟩
theorem lw_p17 : lw_okq (⟨"EchoBureau$Standard", "allows", "(LEchoBureau$Tally;)Z"⟩, 5) := ⟨⟨by decide +kernel, by decide +kernel⟩, List.mem_of_getElem? (i := 408) (by decide +kernel), List.mem_of_getElem? (i := 406) (by decide +kernel), List.mem_of_getElem? (i := 407) (by decide +kernel)⟩
theorem lw_p18 : lw_okq (⟨"EchoBureau$Hall", "hasCertificate", "()Z"⟩, 6) := ⟨⟨by decide +kernel, by decide +kernel⟩, List.mem_of_getElem? (i := 189) (by decide +kernel), List.mem_of_getElem? (i := 419) (by decide +kernel), List.mem_of_getElem? (i := 420) (by decide +kernel)⟩
theorem lw_p19 : lw_okq (⟨"EchoBureau", "countCertified", "()I"⟩, 8) := ⟨⟨by decide +kernel, by decide +kernel⟩, List.mem_of_getElem? (i := 18) (by decide +kernel), List.mem_of_getElem? (i := 439) (by decide +kernel), List.mem_of_getElem? (i := 440) (by decide +kernel)⟩
theorem lw_p20 : lw_okq (⟨"EchoBureau$Hall", "takeCertificate", "(II)V"⟩, 6) := ⟨⟨by decide +kernel, by decide +kernel⟩, List.mem_of_getElem? (i := 189) (by decide +kernel), List.mem_of_getElem? (i := 606) (by decide +kernel), List.mem_of_getElem? (i := 607) (by decide +kernel)⟩
theorem lw_p21 : lw_okq (⟨"EchoBureau$Hall", "growOlder", "(I)V"⟩, 6) := ⟨⟨by decide +kernel, by decide +kernel⟩, List.mem_of_getElem? (i := 189) (by decide +kernel), List.mem_of_getElem? (i := 624) (by decide +kernel), List.mem_of_getElem? (i := 625) (by decide +kernel)⟩
theorem lw_p22 : lw_okq (⟨"EchoBureau$Hall", "dustBehind", "(I)I"⟩, 6) := ⟨⟨by decide +kernel, by decide +kernel⟩, List.mem_of_getElem? (i := 189) (by decide +kernel), List.mem_of_getElem? (i := 628) (by decide +kernel), List.mem_of_getElem? (i := 629) (by decide +kernel)⟩
def lw_privs_2 : List (MethodName × Nat) := [(⟨"EchoBureau", "wouldMeet", "(LEchoBureau$Hall;LEchoBureau$Standard;II)Z"⟩, 8), (⟨"EchoBureau$Standard", "allows", "(LEchoBureau$Tally;)Z"⟩, 5), (⟨"EchoBureau$Hall", "hasCertificate", "()Z"⟩, 6), (⟨"EchoBureau", "countCertified", "()I"⟩, 8), (⟨"EchoBureau$Hall", "takeCertificate", "(II)V"⟩, 6), (⟨"EchoBureau$Hall", "growOlder", "(I)V"⟩, 6), (⟨"EchoBureau$Hall", "dustBehind", "(I)I"⟩, 6)]
theorem lw_r2 : ∀ q ∈ lw_privs_2, lw_okq q := List.forall_mem_cons.mpr ⟨lw_p16, List.forall_mem_cons.mpr ⟨lw_p17, List.forall_mem_cons.mpr ⟨lw_p18, List.forall_mem_cons.mpr ⟨lw_p19, List.forall_mem_cons.mpr ⟨lw_p20, List.forall_mem_cons.mpr ⟨lw_p21, List.forall_mem_cons.mpr ⟨lw_p22, fun _ h => absurd h List.not_mem_nil⟩⟩⟩⟩⟩⟩⟩
def lw_privs : List (MethodName × Nat) := lw_privs_1 ++ (lw_privs_2)
def lw_tbl : List Cond := k2_sels lw_privs ++ tables_1
theorem lw_privs_ok : ∀ q ∈ lw_privs, lw_okq q := by
  show ∀ q ∈ lw_privs_1 ++ (lw_privs_2), lw_okq q
  exact List.forall_mem_append.mpr ⟨lw_r1, lw_r2⟩
/-- the streams that the claim lets the run draw from -/
abbrev lw_cs : List Choice := [Jvm.Choice.named "NaN.bits"]
theorem lw_bits : nanBits ∈ lw_cs := by first | decide | exact List.mem_cons_self | simp [lw_cs, nanBits]

def RX0 : String := "EchoBureau$Hall"
def TX0 : u_T := fun k => match k with
  | 0 => ("EchoBureau$Hall", "surfaces", "[LEchoBureau$Surface;", true)
  | 1 => ("EchoBureau$Hall", "surfaceCount", "I", false)
  | 2 => ("EchoBureau$Hall", "damping", "I", false)
  | 3 => ("EchoBureau$Hall", "dust", "I", false)
  | 4 => ("EchoBureau$Hall", "certificate", "I", false)
  | _ => ("EchoBureau$Hall", "certificateDays", "I", false)
def tyX0 : Nat → FieldType := fun k => match k with
  | 0 => .array (.object "EchoBureau$Surface")
  | 1 => .int
  | 2 => .int
  | 3 => .int
  | 4 => .int
  | _ => .int
theorem nmX0 : ∀ a, a < 6 → ∀ b, b < 6 → a ≠ b → (TX0 a).2.1 ≠ (TX0 b).2.1 := by decide +kernel
theorem tyX0_ok : ∀ k, k < 6 → parseFieldDescriptor (TX0 k).2.2.1 = some (tyX0 k) := by decide +kernel
abbrev cX0_init : ByteArray := prog_2_method_1_code
def yX0_init : MethodName := ⟨RX0, "<init>", "(I)V"⟩
abbrev cX0_isFull : ByteArray := prog_2_method_2_code
def yX0_isFull : MethodName := ⟨RX0, "isFull", "()Z"⟩
abbrev cX0_build : ByteArray := prog_2_method_3_code
def yX0_build : MethodName := ⟨RX0, "build", "(LEchoBureau$Surface;)I"⟩
abbrev cX0_hasCertificate : ByteArray := prog_2_method_4_code
def yX0_hasCertificate : MethodName := ⟨RX0, "hasCertificate", "()Z"⟩
abbrev cX0_takeCertificate : ByteArray := prog_2_method_5_code
def yX0_takeCertificate : MethodName := ⟨RX0, "takeCertificate", "(II)V"⟩
abbrev cX0_loseCertificate : ByteArray := prog_2_method_6_code
def yX0_loseCertificate : MethodName := ⟨RX0, "loseCertificate", "()V"⟩
abbrev cX0_dustBehind : ByteArray := prog_2_method_7_code
def yX0_dustBehind : MethodName := ⟨RX0, "dustBehind", "(I)I"⟩
abbrev cX0_growOlder : ByteArray := prog_2_method_8_code
def yX0_growOlder : MethodName := ⟨RX0, "growOlder", "(I)V"⟩
abbrev cX0_throwBack : ByteArray := prog_2_method_9_code
def yX0_throwBack : MethodName := ⟨RX0, "throwBack", "(IIILEchoBureau$Listener;)V"⟩
def RX1 : String := "EchoBureau$Listener"
def TX1 : u_T := fun k => match k with
  | _ => ("", "", "", false)
def tyX1 : Nat → FieldType := fun k => match k with
  | _ => .int
theorem nmX1 : ∀ a, a < 0 → ∀ b, b < 0 → a ≠ b → (TX1 a).2.1 ≠ (TX1 b).2.1 := by decide +kernel
theorem tyX1_ok : ∀ k, k < 0 → parseFieldDescriptor (TX1 k).2.2.1 = some (tyX1 k) := by decide +kernel
def RX2 : String := "EchoBureau$Loudnesses"
def TX2 : u_T := fun k => match k with
  | _ => ("EchoBureau$Loudnesses", "added", "[I", true)
def tyX2 : Nat → FieldType := fun k => match k with
  | _ => .array .int
theorem nmX2 : ∀ a, a < 1 → ∀ b, b < 1 → a ≠ b → (TX2 a).2.1 ≠ (TX2 b).2.1 := by decide +kernel
theorem tyX2_ok : ∀ k, k < 1 → parseFieldDescriptor (TX2 k).2.2.1 = some (tyX2 k) := by decide +kernel
abbrev cX2_init : ByteArray := prog_4_method_1_code
def yX2_init : MethodName := ⟨RX2, "<init>", "()V"⟩
abbrev cX2_begin : ByteArray := prog_4_method_2_code
def yX2_begin : MethodName := ⟨RX2, "begin", "()V"⟩
abbrev cX2_hear : ByteArray := prog_4_method_3_code
def yX2_hear : MethodName := ⟨RX2, "hear", "(II)V"⟩
abbrev cX2_addedAt : ByteArray := prog_4_method_4_code
def yX2_addedAt : MethodName := ⟨RX2, "addedAt", "(I)I"⟩
def RX3 : String := "EchoBureau$Standard"
def TX3 : u_T := fun k => match k with
  | 0 => ("EchoBureau$Standard", "earliest", "I", true)
  | 1 => ("EchoBureau$Standard", "limit", "I", true)
  | 2 => ("EchoBureau$Standard", "most", "I", true)
  | 3 => ("EchoBureau$Standard", "latest", "I", true)
  | _ => ("EchoBureau$Standard", "days", "I", true)
def tyX3 : Nat → FieldType := fun k => match k with
  | 0 => .int
  | 1 => .int
  | 2 => .int
  | 3 => .int
  | _ => .int
theorem nmX3 : ∀ a, a < 5 → ∀ b, b < 5 → a ≠ b → (TX3 a).2.1 ≠ (TX3 b).2.1 := by decide +kernel
theorem tyX3_ok : ∀ k, k < 5 → parseFieldDescriptor (TX3 k).2.2.1 = some (tyX3 k) := by decide +kernel
abbrev cX3_init : ByteArray := prog_5_method_1_code
def yX3_init : MethodName := ⟨RX3, "<init>", "(IIIII)V"⟩
abbrev cX3_allows : ByteArray := prog_5_method_2_code
def yX3_allows : MethodName := ⟨RX3, "allows", "(LEchoBureau$Tally;)Z"⟩
def RX4 : String := "EchoBureau$Surface"
def TX4 : u_T := fun k => match k with
  | 0 => ("EchoBureau$Surface", "hardnessAsBuilt", "I", true)
  | _ => ("EchoBureau$Surface", "distance", "I", false)
def tyX4 : Nat → FieldType := fun k => match k with
  | 0 => .int
  | _ => .int
theorem nmX4 : ∀ a, a < 2 → ∀ b, b < 2 → a ≠ b → (TX4 a).2.1 ≠ (TX4 b).2.1 := by decide +kernel
theorem tyX4_ok : ∀ k, k < 2 → parseFieldDescriptor (TX4 k).2.2.1 = some (tyX4 k) := by decide +kernel
abbrev cX4_init : ByteArray := prog_6_method_1_code
def yX4_init : MethodName := ⟨RX4, "<init>", "(II)V"⟩
abbrev cX4_hardnessUnder : ByteArray := prog_6_method_2_code
def yX4_hardnessUnder : MethodName := ⟨RX4, "hardnessUnder", "(I)I"⟩
abbrev cX4_throwRow : ByteArray := prog_6_method_3_code
def yX4_throwRow : MethodName := ⟨RX4, "throwRow", "(IIILEchoBureau$Listener;)V"⟩
def RX5 : String := "EchoBureau$Tally"
def TX5 : u_T := fun k => match k with
  | 0 => ("EchoBureau$Tally", "limit", "I", false)
  | 1 => ("EchoBureau$Tally", "count", "I", false)
  | 2 => ("EchoBureau$Tally", "loudCount", "I", false)
  | 3 => ("EchoBureau$Tally", "first", "I", false)
  | _ => ("EchoBureau$Tally", "last", "I", false)
def tyX5 : Nat → FieldType := fun k => match k with
  | 0 => .int
  | 1 => .int
  | 2 => .int
  | 3 => .int
  | _ => .int
theorem nmX5 : ∀ a, a < 5 → ∀ b, b < 5 → a ≠ b → (TX5 a).2.1 ≠ (TX5 b).2.1 := by decide +kernel
theorem tyX5_ok : ∀ k, k < 5 → parseFieldDescriptor (TX5 k).2.2.1 = some (tyX5 k) := by decide +kernel
abbrev cX5_init : ByteArray := prog_7_method_1_code
def yX5_init : MethodName := ⟨RX5, "<init>", "()V"⟩
abbrev cX5_begin : ByteArray := prog_7_method_2_code
def yX5_begin : MethodName := ⟨RX5, "begin", "(I)V"⟩
abbrev cX5_hear : ByteArray := prog_7_method_3_code
def yX5_hear : MethodName := ⟨RX5, "hear", "(II)V"⟩
def RX6 : String := "EchoBureau"
def TX6 : u_T := fun k => match k with
  | 0 => ("EchoBureau", "hallRow", "[LEchoBureau$Hall;", true)
  | 1 => ("EchoBureau", "standardRow", "[LEchoBureau$Standard;", true)
  | 2 => ("EchoBureau", "hallCount", "I", false)
  | 3 => ("EchoBureau", "standardCount", "I", false)
  | 4 => ("EchoBureau", "today", "I", false)
  | 5 => ("EchoBureau", "inspectionCount", "I", false)
  | 6 => ("EchoBureau", "tally", "LEchoBureau$Tally;", true)
  | _ => ("EchoBureau", "loudnesses", "LEchoBureau$Loudnesses;", true)
def tyX6 : Nat → FieldType := fun k => match k with
  | 0 => .array (.object "EchoBureau$Hall")
  | 1 => .array (.object "EchoBureau$Standard")
  | 2 => .int
  | 3 => .int
  | 4 => .int
  | 5 => .int
  | 6 => .object "EchoBureau$Tally"
  | _ => .object "EchoBureau$Loudnesses"
theorem nmX6 : ∀ a, a < 8 → ∀ b, b < 8 → a ≠ b → (TX6 a).2.1 ≠ (TX6 b).2.1 := by decide +kernel
theorem tyX6_ok : ∀ k, k < 8 → parseFieldDescriptor (TX6 k).2.2.1 = some (tyX6 k) := by decide +kernel
abbrev cX6_init : ByteArray := prog_1_method_1_code
def yX6_init : MethodName := ⟨RX6, "<init>", "()V"⟩
abbrev cX6_addHall : ByteArray := prog_1_method_2_code
def yX6_addHall : MethodName := ⟨RX6, "addHall", "(I)I"⟩
abbrev cX6_addSurface : ByteArray := prog_1_method_3_code
def yX6_addSurface : MethodName := ⟨RX6, "addSurface", "(III)I"⟩
abbrev cX6_moveSurface : ByteArray := prog_1_method_4_code
def yX6_moveSurface : MethodName := ⟨RX6, "moveSurface", "(III)I"⟩
abbrev cX6_setDamping : ByteArray := prog_1_method_5_code
def yX6_setDamping : MethodName := ⟨RX6, "setDamping", "(II)I"⟩
abbrev cX6_clean : ByteArray := prog_1_method_6_code
def yX6_clean : MethodName := ⟨RX6, "clean", "(I)I"⟩
abbrev cX6_addStandard : ByteArray := prog_1_method_7_code
def yX6_addStandard : MethodName := ⟨RX6, "addStandard", "(IIIII)I"⟩
abbrev cX6_inspect : ByteArray := prog_1_method_8_code
def yX6_inspect : MethodName := ⟨RX6, "inspect", "(II)Z"⟩
abbrev cX6_revoke : ByteArray := prog_1_method_9_code
def yX6_revoke : MethodName := ⟨RX6, "revoke", "(I)I"⟩
abbrev cX6_passDays : ByteArray := prog_1_method_10_code
def yX6_passDays : MethodName := ⟨RX6, "passDays", "(I)I"⟩
abbrev cX6_surfacesOf : ByteArray := prog_1_method_11_code
def yX6_surfacesOf : MethodName := ⟨RX6, "surfacesOf", "(I)I"⟩
abbrev cX6_distanceOf : ByteArray := prog_1_method_12_code
def yX6_distanceOf : MethodName := ⟨RX6, "distanceOf", "(II)I"⟩
abbrev cX6_hardnessOf : ByteArray := prog_1_method_13_code
def yX6_hardnessOf : MethodName := ⟨RX6, "hardnessOf", "(II)I"⟩
abbrev cX6_dampingOf : ByteArray := prog_1_method_14_code
def yX6_dampingOf : MethodName := ⟨RX6, "dampingOf", "(I)I"⟩
abbrev cX6_dustOf : ByteArray := prog_1_method_15_code
def yX6_dustOf : MethodName := ⟨RX6, "dustOf", "(I)I"⟩
abbrev cX6_echoes : ByteArray := prog_1_method_16_code
def yX6_echoes : MethodName := ⟨RX6, "echoes", "(II)I"⟩
abbrev cX6_loudEchoes : ByteArray := prog_1_method_17_code
def yX6_loudEchoes : MethodName := ⟨RX6, "loudEchoes", "(III)I"⟩
abbrev cX6_firstEcho : ByteArray := prog_1_method_18_code
def yX6_firstEcho : MethodName := ⟨RX6, "firstEcho", "(II)I"⟩
abbrev cX6_lastEcho : ByteArray := prog_1_method_19_code
def yX6_lastEcho : MethodName := ⟨RX6, "lastEcho", "(II)I"⟩
abbrev cX6_loudnessAt : ByteArray := prog_1_method_20_code
def yX6_loudnessAt : MethodName := ⟨RX6, "loudnessAt", "(III)I"⟩
abbrev cX6_meets : ByteArray := prog_1_method_22_code
def yX6_meets : MethodName := ⟨RX6, "meets", "(II)Z"⟩
abbrev cX6_hallsMeeting : ByteArray := prog_1_method_23_code
def yX6_hallsMeeting : MethodName := ⟨RX6, "hallsMeeting", "(I)I"⟩
abbrev cX6_isCertified : ByteArray := prog_1_method_24_code
def yX6_isCertified : MethodName := ⟨RX6, "isCertified", "(I)Z"⟩
abbrev cX6_certifiedBy : ByteArray := prog_1_method_25_code
def yX6_certifiedBy : MethodName := ⟨RX6, "certifiedBy", "(I)I"⟩
abbrev cX6_daysLeft : ByteArray := prog_1_method_26_code
def yX6_daysLeft : MethodName := ⟨RX6, "daysLeft", "(I)I"⟩
abbrev cX6_halls : ByteArray := prog_1_method_27_code
def yX6_halls : MethodName := ⟨RX6, "halls", "()I"⟩
abbrev cX6_standards : ByteArray := prog_1_method_28_code
def yX6_standards : MethodName := ⟨RX6, "standards", "()I"⟩
abbrev cX6_day : ByteArray := prog_1_method_29_code
def yX6_day : MethodName := ⟨RX6, "day", "()I"⟩
abbrev cX6_inspections : ByteArray := prog_1_method_30_code
def yX6_inspections : MethodName := ⟨RX6, "inspections", "()I"⟩
abbrev cX6_certifiedHalls : ByteArray := prog_1_method_31_code
def yX6_certifiedHalls : MethodName := ⟨RX6, "certifiedHalls", "()I"⟩
abbrev cX6_meetsWithDamping : ByteArray := prog_1_method_32_code
def yX6_meetsWithDamping : MethodName := ⟨RX6, "meetsWithDamping", "(III)Z"⟩
abbrev cX6_meanDamping : ByteArray := prog_1_method_36_code
def yX6_meanDamping : MethodName := ⟨RX6, "meanDamping", "()D"⟩
abbrev cX6_isWithin : ByteArray := prog_1_method_41_code
def yX6_isWithin : MethodName := ⟨RX6, "isWithin", "(III)Z"⟩
abbrev cX6_checkDamping : ByteArray := prog_1_method_42_code
def yX6_checkDamping : MethodName := ⟨RX6, "checkDamping", "(I)V"⟩
abbrev cX6_checkDistance : ByteArray := prog_1_method_43_code
def yX6_checkDistance : MethodName := ⟨RX6, "checkDistance", "(I)V"⟩
abbrev cX6_checkLoudness : ByteArray := prog_1_method_44_code
def yX6_checkLoudness : MethodName := ⟨RX6, "checkLoudness", "(I)V"⟩
abbrev cX6_checkCertificate : ByteArray := prog_1_method_45_code
def yX6_checkCertificate : MethodName := ⟨RX6, "checkCertificate", "(LEchoBureau$Hall;)V"⟩
abbrev cX6_findHall : ByteArray := prog_1_method_46_code
def yX6_findHall : MethodName := ⟨RX6, "findHall", "(I)LEchoBureau$Hall;"⟩
abbrev cX6_findStandard : ByteArray := prog_1_method_47_code
def yX6_findStandard : MethodName := ⟨RX6, "findStandard", "(I)LEchoBureau$Standard;"⟩
abbrev cX6_findSurface : ByteArray := prog_1_method_48_code
def yX6_findSurface : MethodName := ⟨RX6, "findSurface", "(LEchoBureau$Hall;I)LEchoBureau$Surface;"⟩
abbrev cX6_countCertified : ByteArray := prog_1_method_49_code
def yX6_countCertified : MethodName := ⟨RX6, "countCertified", "()I"⟩
abbrev cX6_tallyOfClick : ByteArray := prog_1_method_50_code
def yX6_tallyOfClick : MethodName := ⟨RX6, "tallyOfClick", "(II)LEchoBureau$Tally;"⟩
abbrev cX6_tallyOf : ByteArray := prog_1_method_51_code
def yX6_tallyOf : MethodName := ⟨RX6, "tallyOf", "(LEchoBureau$Hall;II)LEchoBureau$Tally;"⟩
abbrev cX6_loudnessesOf : ByteArray := prog_1_method_52_code
def yX6_loudnessesOf : MethodName := ⟨RX6, "loudnessesOf", "(LEchoBureau$Hall;I)LEchoBureau$Loudnesses;"⟩
abbrev cX6_meetsNow : ByteArray := prog_1_method_53_code
def yX6_meetsNow : MethodName := ⟨RX6, "meetsNow", "(LEchoBureau$Hall;LEchoBureau$Standard;)Z"⟩
abbrev cX6_wouldMeet : ByteArray := prog_1_method_54_code
def yX6_wouldMeet : MethodName := ⟨RX6, "wouldMeet", "(LEchoBureau$Hall;LEchoBureau$Standard;II)Z"⟩
def RX7 : String := "EchoBureauLaw$Hall"
def TX7 : u_T := fun k => match k with
  | 0 => ("EchoBureauLaw$Hall", "surfaces", "[[I", false)
  | 1 => ("EchoBureauLaw$Hall", "damping", "I", false)
  | 2 => ("EchoBureauLaw$Hall", "dust", "I", false)
  | 3 => ("EchoBureauLaw$Hall", "standard", "I", false)
  | _ => ("EchoBureauLaw$Hall", "left", "I", false)
def tyX7 : Nat → FieldType := fun k => match k with
  | 0 => .array (.array .int)
  | 1 => .int
  | 2 => .int
  | 3 => .int
  | _ => .int
theorem nmX7 : ∀ a, a < 5 → ∀ b, b < 5 → a ≠ b → (TX7 a).2.1 ≠ (TX7 b).2.1 := by decide +kernel
theorem tyX7_ok : ∀ k, k < 5 → parseFieldDescriptor (TX7 k).2.2.1 = some (tyX7 k) := by decide +kernel
abbrev cX7_init : ByteArray := prog_9_method_1_code
def yX7_init : MethodName := ⟨RX7, "<init>", "()V"⟩
abbrev cX7_hard : ByteArray := prog_9_method_2_code
def yX7_hard : MethodName := ⟨RX7, "hard", "(II)I"⟩
abbrev cX7_echoes : ByteArray := prog_9_method_3_code
def yX7_echoes : MethodName := ⟨RX7, "echoes", "(IIII)[I"⟩
abbrev cX7_meets : ByteArray := prog_9_method_5_code
def yX7_meets : MethodName := ⟨RX7, "meets", "([III)Z"⟩
abbrev cX7_strike : ByteArray := prog_9_method_6_code
def yX7_strike : MethodName := ⟨RX7, "strike", "()V"⟩
def RX8 : String := "EchoBureauLaw$Sim"
def TX8 : u_T := fun k => match k with
  | 0 => ("EchoBureauLaw$Sim", "day", "I", false)
  | 1 => ("EchoBureauLaw$Sim", "inspections", "I", false)
  | 2 => ("EchoBureauLaw$Sim", "halls", "[LEchoBureauLaw$Hall;", false)
  | _ => ("EchoBureauLaw$Sim", "rules", "[[I", false)
def tyX8 : Nat → FieldType := fun k => match k with
  | 0 => .int
  | 1 => .int
  | 2 => .array (.object "EchoBureauLaw$Hall")
  | _ => .array (.array .int)
theorem nmX8 : ∀ a, a < 4 → ∀ b, b < 4 → a ≠ b → (TX8 a).2.1 ≠ (TX8 b).2.1 := by decide +kernel
theorem tyX8_ok : ∀ k, k < 4 → parseFieldDescriptor (TX8 k).2.2.1 = some (tyX8 k) := by decide +kernel
abbrev cX8_init : ByteArray := prog_10_method_1_code
def yX8_init : MethodName := ⟨RX8, "<init>", "()V"⟩
abbrev cX8_with : ByteArray := prog_10_method_2_code
def yX8_with : MethodName := ⟨RX8, "with", "([[I[I)[[I"⟩
abbrev cX8_certified : ByteArray := prog_10_method_3_code
def yX8_certified : MethodName := ⟨RX8, "certified", "()I"⟩
abbrev cX8_pass : ByteArray := prog_10_method_4_code
def yX8_pass : MethodName := ⟨RX8, "pass", "()V"⟩
abbrev cX8_isSame : ByteArray := prog_10_method_5_code
def yX8_isSame : MethodName := ⟨RX8, "isSame", "(LEchoBureau;I)Z"⟩
def RX9 : String := "EchoBureauModel"
def TX9 : u_T := fun k => match k with
  | _ => ("", "", "", false)
def tyX9 : Nat → FieldType := fun k => match k with
  | _ => .int
theorem nmX9 : ∀ a, a < 0 → ∀ b, b < 0 → a ≠ b → (TX9 a).2.1 ≠ (TX9 b).2.1 := by decide +kernel
theorem tyX9_ok : ∀ k, k < 0 → parseFieldDescriptor (TX9 k).2.2.1 = some (tyX9 k) := by decide +kernel
def RJx145de : String := "java/io/Serializable"
def RJ9 : String := "java/lang/Math"
abbrev cJ9_max_7cf53 : ByteArray := prog_16_method_65_code
def yJ9_max_7cf53 : MethodName := ⟨RJ9, "max", "(II)I"⟩
abbrev cJ9_min_7cf53 : ByteArray := prog_16_method_69_code
def yJ9_min_7cf53 : MethodName := ⟨RJ9, "min", "(II)I"⟩
def RJ0 : String := "java/lang/String"
def RJ7 : String := "java/util/Arrays"
abbrev cJ7_fill_53178 : ByteArray := prog_20_method_103_code
def yJ7_fill_53178 : MethodName := ⟨RJ7, "fill", "([II)V"⟩
def RL : String := "EchoBureauLaw"
abbrev cL_below : ByteArray := method_2_code
def yL_below : MethodName := ⟨RL, "below", "(II)I"⟩
abbrev cL_cell : ByteArray := method_3_code
def yL_cell : MethodName := ⟨RL, "cell", "([II)I"⟩
abbrev cL_act : ByteArray := method_4_code
def yL_act : MethodName := ⟨RL, "act", "(LEchoBureau;LEchoBureauLaw$Sim;I)Z"⟩
abbrev cL_build : ByteArray := method_5_code
def yL_build : MethodName := ⟨RL, "build", "(LEchoBureau;[I)LEchoBureauLaw$Sim;"⟩
abbrev cL_law : ByteArray := code
def yL_law : MethodName := ⟨RL, "law", "([I)Z"⟩
abbrev vwCl : List vw_C := [(RX0, TX0, 6), (RX2, TX2, 1), (RX3, TX3, 5), (RX4, TX4, 2), (RX5, TX5, 5), (RX6, TX6, 8), (RX7, TX7, 5), (RX8, TX8, 4)]
