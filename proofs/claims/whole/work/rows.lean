section
-- ===== PART A: goes FIRST, ahead of the names: the tables' words, and 'selects' of the private methods out of them =====
/-- a private method of a class that the tables say can be made, by its rows of tables_1 -/
def lw_okq (q : MethodName × Nat) : Prop := (q.1.cls ≠ "java/lang/invoke/MethodHandle" ∧ q.1.cls ≠ "java/lang/invoke/VarHandle") ∧ Cond.instantiable q.1.cls q.2 ∈ tables_1 ∧ Cond.privateMethod q.1 ∈ tables_1 ∧ Cond.instanceMethod q.1 ∈ tables_1
theorem lw_p0 : lw_okq (⟨"CallRoom", "refuse", "(I)I"⟩, 4) := ⟨⟨by decide +kernel, by decide +kernel⟩, List.mem_of_getElem? (i := 11) (by decide +kernel), List.mem_of_getElem? (i := 196) (by decide +kernel), List.mem_of_getElem? (i := 197) (by decide +kernel)⟩
theorem lw_p1 : lw_okq (⟨"CallRoom", "notWaiting", "(I)I"⟩, 4) := ⟨⟨by decide +kernel, by decide +kernel⟩, List.mem_of_getElem? (i := 11) (by decide +kernel), List.mem_of_getElem? (i := 274) (by decide +kernel), List.mem_of_getElem? (i := 275) (by decide +kernel)⟩
theorem lw_p2 : lw_okq (⟨"CallRoom$Floor", "passTick", "()I"⟩, 7) := ⟨⟨by decide +kernel, by decide +kernel⟩, List.mem_of_getElem? (i := 19) (by decide +kernel), List.mem_of_getElem? (i := 313) (by decide +kernel), List.mem_of_getElem? (i := 314) (by decide +kernel)⟩
theorem lw_p3 : lw_okq (⟨"CallRoom$Floor", "endCalls", "()I"⟩, 7) := ⟨⟨by decide +kernel, by decide +kernel⟩, List.mem_of_getElem? (i := 19) (by decide +kernel), List.mem_of_getElem? (i := 321) (by decide +kernel), List.mem_of_getElem? (i := 322) (by decide +kernel)⟩
theorem lw_p4 : lw_okq (⟨"CallRoom$Floor", "endWith", "(I)V"⟩, 7) := ⟨⟨by decide +kernel, by decide +kernel⟩, List.mem_of_getElem? (i := 19) (by decide +kernel), List.mem_of_getElem? (i := 325) (by decide +kernel), List.mem_of_getElem? (i := 326) (by decide +kernel)⟩
theorem lw_p5 : lw_okq (⟨"CallRoom$Floor", "nextToGive", "()I"⟩, 7) := ⟨⟨by decide +kernel, by decide +kernel⟩, List.mem_of_getElem? (i := 19) (by decide +kernel), List.mem_of_getElem? (i := 347) (by decide +kernel), List.mem_of_getElem? (i := 348) (by decide +kernel)⟩
theorem lw_p6 : lw_okq (⟨"CallRoom$Floor", "countTakers", "()I"⟩, 7) := ⟨⟨by decide +kernel, by decide +kernel⟩, List.mem_of_getElem? (i := 19) (by decide +kernel), List.mem_of_getElem? (i := 351) (by decide +kernel), List.mem_of_getElem? (i := 352) (by decide +kernel)⟩
theorem lw_p7 : lw_okq (⟨"CallRoom$Floor", "isTakeable", "(I)Z"⟩, 7) := ⟨⟨by decide +kernel, by decide +kernel⟩, List.mem_of_getElem? (i := 19) (by decide +kernel), List.mem_of_getElem? (i := 359) (by decide +kernel), List.mem_of_getElem? (i := 360) (by decide +kernel)⟩
theorem lw_p8 : lw_okq (⟨"CallRoom$Floor", "isKeptForOwn", "(I)Z"⟩, 7) := ⟨⟨by decide +kernel, by decide +kernel⟩, List.mem_of_getElem? (i := 19) (by decide +kernel), List.mem_of_getElem? (i := 363) (by decide +kernel), List.mem_of_getElem? (i := 364) (by decide +kernel)⟩
theorem lw_p9 : lw_okq (⟨"CallRoom$Floor", "rankOf", "(I)I"⟩, 7) := ⟨⟨by decide +kernel, by decide +kernel⟩, List.mem_of_getElem? (i := 19) (by decide +kernel), List.mem_of_getElem? (i := 367) (by decide +kernel), List.mem_of_getElem? (i := 368) (by decide +kernel)⟩
theorem lw_p10 : lw_okq (⟨"CallRoom$Floor", "bestHelper", "(I)I"⟩, 7) := ⟨⟨by decide +kernel, by decide +kernel⟩, List.mem_of_getElem? (i := 19) (by decide +kernel), List.mem_of_getElem? (i := 372) (by decide +kernel), List.mem_of_getElem? (i := 373) (by decide +kernel)⟩
theorem lw_p11 : lw_okq (⟨"CallRoom$Floor", "give", "(II)V"⟩, 7) := ⟨⟨by decide +kernel, by decide +kernel⟩, List.mem_of_getElem? (i := 19) (by decide +kernel), List.mem_of_getElem? (i := 391) (by decide +kernel), List.mem_of_getElem? (i := 392) (by decide +kernel)⟩
theorem lw_p12 : lw_okq (⟨"CallRoom$Floor", "skipQuietTicks", "(I)I"⟩, 7) := ⟨⟨by decide +kernel, by decide +kernel⟩, List.mem_of_getElem? (i := 19) (by decide +kernel), List.mem_of_getElem? (i := 404) (by decide +kernel), List.mem_of_getElem? (i := 405) (by decide +kernel)⟩
theorem lw_p13 : lw_okq (⟨"CallRoom$Floor", "nextChange", "()I"⟩, 7) := ⟨⟨by decide +kernel, by decide +kernel⟩, List.mem_of_getElem? (i := 19) (by decide +kernel), List.mem_of_getElem? (i := 408) (by decide +kernel), List.mem_of_getElem? (i := 409) (by decide +kernel)⟩
theorem lw_p14 : lw_okq (⟨"CallRoom", "helperIfGivenNow", "(I)I"⟩, 4) := ⟨⟨by decide +kernel, by decide +kernel⟩, List.mem_of_getElem? (i := 11) (by decide +kernel), List.mem_of_getElem? (i := 458) (by decide +kernel), List.mem_of_getElem? (i := 459) (by decide +kernel)⟩
theorem lw_p15 : lw_okq (⟨"CallRoomModel", "refuse", "(I)I"⟩, 41) := ⟨⟨by decide +kernel, by decide +kernel⟩, List.mem_of_getElem? (i := 547) (by decide +kernel), List.mem_of_getElem? (i := 682) (by decide +kernel), List.mem_of_getElem? (i := 683) (by decide +kernel)⟩
def lw_privs_1 : List (MethodName × Nat) := [(⟨"CallRoom", "refuse", "(I)I"⟩, 4), (⟨"CallRoom", "notWaiting", "(I)I"⟩, 4), (⟨"CallRoom$Floor", "passTick", "()I"⟩, 7), (⟨"CallRoom$Floor", "endCalls", "()I"⟩, 7), (⟨"CallRoom$Floor", "endWith", "(I)V"⟩, 7), (⟨"CallRoom$Floor", "nextToGive", "()I"⟩, 7), (⟨"CallRoom$Floor", "countTakers", "()I"⟩, 7), (⟨"CallRoom$Floor", "isTakeable", "(I)Z"⟩, 7), (⟨"CallRoom$Floor", "isKeptForOwn", "(I)Z"⟩, 7), (⟨"CallRoom$Floor", "rankOf", "(I)I"⟩, 7), (⟨"CallRoom$Floor", "bestHelper", "(I)I"⟩, 7), (⟨"CallRoom$Floor", "give", "(II)V"⟩, 7), (⟨"CallRoom$Floor", "skipQuietTicks", "(I)I"⟩, 7), (⟨"CallRoom$Floor", "nextChange", "()I"⟩, 7), (⟨"CallRoom", "helperIfGivenNow", "(I)I"⟩, 4), (⟨"CallRoomModel", "refuse", "(I)I"⟩, 41)]
theorem lw_r1 : ∀ q ∈ lw_privs_1, lw_okq q := List.forall_mem_cons.mpr ⟨lw_p0, List.forall_mem_cons.mpr ⟨lw_p1, List.forall_mem_cons.mpr ⟨lw_p2, List.forall_mem_cons.mpr ⟨lw_p3, List.forall_mem_cons.mpr ⟨lw_p4, List.forall_mem_cons.mpr ⟨lw_p5, List.forall_mem_cons.mpr ⟨lw_p6, List.forall_mem_cons.mpr ⟨lw_p7, List.forall_mem_cons.mpr ⟨lw_p8, List.forall_mem_cons.mpr ⟨lw_p9, List.forall_mem_cons.mpr ⟨lw_p10, List.forall_mem_cons.mpr ⟨lw_p11, List.forall_mem_cons.mpr ⟨lw_p12, List.forall_mem_cons.mpr ⟨lw_p13, List.forall_mem_cons.mpr ⟨lw_p14, List.forall_mem_cons.mpr ⟨lw_p15, fun _ h => absurd h List.not_mem_nil⟩⟩⟩⟩⟩⟩⟩⟩⟩⟩⟩⟩⟩⟩⟩⟩
theorem lw_p16 : lw_okq (⟨"CallRoomModel", "gradeOf", "(II)I"⟩, 41) := ⟨⟨by decide +kernel, by decide +kernel⟩, List.mem_of_getElem? (i := 547) (by decide +kernel), List.mem_of_getElem? (i := 693) (by decide +kernel), List.mem_of_getElem? (i := 694) (by decide +kernel)⟩
theorem lw_p17 : lw_okq (⟨"CallRoomModel", "becomes", "(II)V"⟩, 41) := ⟨⟨by decide +kernel, by decide +kernel⟩, List.mem_of_getElem? (i := 547) (by decide +kernel), List.mem_of_getElem? (i := 701) (by decide +kernel), List.mem_of_getElem? (i := 702) (by decide +kernel)⟩
theorem lw_p18 : lw_okq (⟨"CallRoomModel", "loses", "(I)V"⟩, 41) := ⟨⟨by decide +kernel, by decide +kernel⟩, List.mem_of_getElem? (i := 547) (by decide +kernel), List.mem_of_getElem? (i := 733) (by decide +kernel), List.mem_of_getElem? (i := 734) (by decide +kernel)⟩
theorem lw_p19 : lw_okq (⟨"CallRoomModel", "goesOn", "()I"⟩, 41) := ⟨⟨by decide +kernel, by decide +kernel⟩, List.mem_of_getElem? (i := 547) (by decide +kernel), List.mem_of_getElem? (i := 749) (by decide +kernel), List.mem_of_getElem? (i := 750) (by decide +kernel)⟩
theorem lw_p20 : lw_okq (⟨"CallRoomModel", "waitedOf", "(I)I"⟩, 41) := ⟨⟨by decide +kernel, by decide +kernel⟩, List.mem_of_getElem? (i := 547) (by decide +kernel), List.mem_of_getElem? (i := 753) (by decide +kernel), List.mem_of_getElem? (i := 754) (by decide +kernel)⟩
theorem lw_p21 : lw_okq (⟨"CallRoomModel", "give", "()V"⟩, 41) := ⟨⟨by decide +kernel, by decide +kernel⟩, List.mem_of_getElem? (i := 547) (by decide +kernel), List.mem_of_getElem? (i := 757) (by decide +kernel), List.mem_of_getElem? (i := 758) (by decide +kernel)⟩
theorem lw_p22 : lw_okq (⟨"CallRoomModel", "nextCall", "()I"⟩, 41) := ⟨⟨by decide +kernel, by decide +kernel⟩, List.mem_of_getElem? (i := 547) (by decide +kernel), List.mem_of_getElem? (i := 761) (by decide +kernel), List.mem_of_getElem? (i := 762) (by decide +kernel)⟩
theorem lw_p23 : lw_okq (⟨"CallRoomModel", "isTakeable", "(I)Z"⟩, 41) := ⟨⟨by decide +kernel, by decide +kernel⟩, List.mem_of_getElem? (i := 547) (by decide +kernel), List.mem_of_getElem? (i := 765) (by decide +kernel), List.mem_of_getElem? (i := 766) (by decide +kernel)⟩
theorem lw_p24 : lw_okq (⟨"CallRoomModel", "may", "(II)Z"⟩, 41) := ⟨⟨by decide +kernel, by decide +kernel⟩, List.mem_of_getElem? (i := 547) (by decide +kernel), List.mem_of_getElem? (i := 769) (by decide +kernel), List.mem_of_getElem? (i := 770) (by decide +kernel)⟩
theorem lw_p25 : lw_okq (⟨"CallRoomModel", "hasRoom", "(I)Z"⟩, 41) := ⟨⟨by decide +kernel, by decide +kernel⟩, List.mem_of_getElem? (i := 547) (by decide +kernel), List.mem_of_getElem? (i := 773) (by decide +kernel), List.mem_of_getElem? (i := 774) (by decide +kernel)⟩
theorem lw_p26 : lw_okq (⟨"CallRoomModel", "rankOf", "(I)I"⟩, 41) := ⟨⟨by decide +kernel, by decide +kernel⟩, List.mem_of_getElem? (i := 547) (by decide +kernel), List.mem_of_getElem? (i := 777) (by decide +kernel), List.mem_of_getElem? (i := 778) (by decide +kernel)⟩
theorem lw_p27 : lw_okq (⟨"CallRoomModel", "freeFor", "(I)I"⟩, 41) := ⟨⟨by decide +kernel, by decide +kernel⟩, List.mem_of_getElem? (i := 547) (by decide +kernel), List.mem_of_getElem? (i := 781) (by decide +kernel), List.mem_of_getElem? (i := 782) (by decide +kernel)⟩
theorem lw_p28 : lw_okq (⟨"CallRoomModel", "helperFor", "(I)I"⟩, 41) := ⟨⟨by decide +kernel, by decide +kernel⟩, List.mem_of_getElem? (i := 547) (by decide +kernel), List.mem_of_getElem? (i := 785) (by decide +kernel), List.mem_of_getElem? (i := 786) (by decide +kernel)⟩
theorem lw_p29 : lw_okq (⟨"CallRoomModel", "isAhead", "(III)Z"⟩, 41) := ⟨⟨by decide +kernel, by decide +kernel⟩, List.mem_of_getElem? (i := 547) (by decide +kernel), List.mem_of_getElem? (i := 789) (by decide +kernel), List.mem_of_getElem? (i := 790) (by decide +kernel)⟩
theorem lw_p30 : lw_okq (⟨"CallRoomModel", "sortsOf", "(I)I"⟩, 41) := ⟨⟨by decide +kernel, by decide +kernel⟩, List.mem_of_getElem? (i := 547) (by decide +kernel), List.mem_of_getElem? (i := 793) (by decide +kernel), List.mem_of_getElem? (i := 794) (by decide +kernel)⟩
theorem lw_p31 : lw_okq (⟨"CallRoomModel", "keep", "()V"⟩, 41) := ⟨⟨by decide +kernel, by decide +kernel⟩, List.mem_of_getElem? (i := 547) (by decide +kernel), List.mem_of_getElem? (i := 801) (by decide +kernel), List.mem_of_getElem? (i := 802) (by decide +kernel)⟩
def lw_privs_2 : List (MethodName × Nat) := [(⟨"CallRoomModel", "gradeOf", "(II)I"⟩, 41), (⟨"CallRoomModel", "becomes", "(II)V"⟩, 41), (⟨"CallRoomModel", "loses", "(I)V"⟩, 41), (⟨"CallRoomModel", "goesOn", "()I"⟩, 41), (⟨"CallRoomModel", "waitedOf", "(I)I"⟩, 41), (⟨"CallRoomModel", "give", "()V"⟩, 41), (⟨"CallRoomModel", "nextCall", "()I"⟩, 41), (⟨"CallRoomModel", "isTakeable", "(I)Z"⟩, 41), (⟨"CallRoomModel", "may", "(II)Z"⟩, 41), (⟨"CallRoomModel", "hasRoom", "(I)Z"⟩, 41), (⟨"CallRoomModel", "rankOf", "(I)I"⟩, 41), (⟨"CallRoomModel", "freeFor", "(I)I"⟩, 41), (⟨"CallRoomModel", "helperFor", "(I)I"⟩, 41), (⟨"CallRoomModel", "isAhead", "(III)Z"⟩, 41), (⟨"CallRoomModel", "sortsOf", "(I)I"⟩, 41), (⟨"CallRoomModel", "keep", "()V"⟩, 41)]
theorem lw_r2 : ∀ q ∈ lw_privs_2, lw_okq q := List.forall_mem_cons.mpr ⟨lw_p16, List.forall_mem_cons.mpr ⟨lw_p17, List.forall_mem_cons.mpr ⟨lw_p18, List.forall_mem_cons.mpr ⟨lw_p19, List.forall_mem_cons.mpr ⟨lw_p20, List.forall_mem_cons.mpr ⟨lw_p21, List.forall_mem_cons.mpr ⟨lw_p22, List.forall_mem_cons.mpr ⟨lw_p23, List.forall_mem_cons.mpr ⟨lw_p24, List.forall_mem_cons.mpr ⟨lw_p25, List.forall_mem_cons.mpr ⟨lw_p26, List.forall_mem_cons.mpr ⟨lw_p27, List.forall_mem_cons.mpr ⟨lw_p28, List.forall_mem_cons.mpr ⟨lw_p29, List.forall_mem_cons.mpr ⟨lw_p30, List.forall_mem_cons.mpr ⟨lw_p31, fun _ h => absurd h List.not_mem_nil⟩⟩⟩⟩⟩⟩⟩⟩⟩⟩⟩⟩⟩⟩⟩⟩
theorem lw_p32 : lw_okq (⟨"CallRoomModel", "putBack", "()V"⟩, 41) := ⟨⟨by decide +kernel, by decide +kernel⟩, List.mem_of_getElem? (i := 547) (by decide +kernel), List.mem_of_getElem? (i := 805) (by decide +kernel), List.mem_of_getElem? (i := 806) (by decide +kernel)⟩
theorem lw_p33 : lw_okq (⟨"CallRoomModel", "whoOf", "(I)I"⟩, 41) := ⟨⟨by decide +kernel, by decide +kernel⟩, List.mem_of_getElem? (i := 547) (by decide +kernel), List.mem_of_getElem? (i := 813) (by decide +kernel), List.mem_of_getElem? (i := 814) (by decide +kernel)⟩
theorem lw_p34 : lw_okq (⟨"CallRoomModel", "inState", "(I)I"⟩, 41) := ⟨⟨by decide +kernel, by decide +kernel⟩, List.mem_of_getElem? (i := 547) (by decide +kernel), List.mem_of_getElem? (i := 865) (by decide +kernel), List.mem_of_getElem? (i := 866) (by decide +kernel)⟩
def lw_privs_3 : List (MethodName × Nat) := [(⟨"CallRoomModel", "putBack", "()V"⟩, 41), (⟨"CallRoomModel", "whoOf", "(I)I"⟩, 41), (⟨"CallRoomModel", "inState", "(I)I"⟩, 41)]
theorem lw_r3 : ∀ q ∈ lw_privs_3, lw_okq q := List.forall_mem_cons.mpr ⟨lw_p32, List.forall_mem_cons.mpr ⟨lw_p33, List.forall_mem_cons.mpr ⟨lw_p34, fun _ h => absurd h List.not_mem_nil⟩⟩⟩
def lw_privs : List (MethodName × Nat) := lw_privs_1 ++ (lw_privs_2 ++ (lw_privs_3))
def lw_tbl : List Cond := k2_sels lw_privs ++ tables_1
theorem lw_privs_ok : ∀ q ∈ lw_privs, lw_okq q := by
  show ∀ q ∈ lw_privs_1 ++ (lw_privs_2 ++ (lw_privs_3)), lw_okq q
  exact List.forall_mem_append.mpr ⟨lw_r1, List.forall_mem_append.mpr ⟨lw_r2, lw_r3⟩⟩
def RX0 : String := "CallRoom$Calls"
def TX0 : u_T := fun k => match k with
  | 0 => ("CallRoom$Calls", "size", "I", false)
  | 1 => ("CallRoom$Calls", "doing", "[I", true)
  | 2 => ("CallRoom$Calls", "kind", "[I", true)
  | 3 => ("CallRoom$Calls", "own", "[I", true)
  | 4 => ("CallRoom$Calls", "sort", "[I", true)
  | 5 => ("CallRoom$Calls", "length", "[I", true)
  | 6 => ("CallRoom$Calls", "patience", "[I", true)
  | 7 => ("CallRoom$Calls", "came", "[I", true)
  | 8 => ("CallRoom$Calls", "since", "[I", true)
  | 9 => ("CallRoom$Calls", "helper", "[I", true)
  | 10 => ("CallRoom$Calls", "until", "[I", true)
  | 11 => ("CallRoom$Calls", "firstWaited", "[I", true)
  | _ => ("CallRoom$Calls", "lastWaited", "[I", true)
def tyX0 : Nat → FieldType := fun k => match k with
  | 0 => .int
  | 1 => .array .int
  | 2 => .array .int
  | 3 => .array .int
  | 4 => .array .int
  | 5 => .array .int
  | 6 => .array .int
  | 7 => .array .int
  | 8 => .array .int
  | 9 => .array .int
  | 10 => .array .int
  | 11 => .array .int
  | _ => .array .int
theorem nmX0 : ∀ a, a < 13 → ∀ b, b < 13 → a ≠ b → (TX0 a).2.1 ≠ (TX0 b).2.1 := by decide +kernel
theorem tyX0_ok : ∀ k, k < 13 → parseFieldDescriptor (TX0 k).2.2.1 = some (tyX0 k) := by decide +kernel
abbrev cX0_init : ByteArray := prog_2_method_1_code
def yX0_init : MethodName := ⟨RX0, "<init>", "()V"⟩
abbrev cX0_has : ByteArray := prog_2_method_2_code
def yX0_has : MethodName := ⟨RX0, "has", "(I)Z"⟩
abbrev cX0_add : ByteArray := prog_2_method_3_code
def yX0_add : MethodName := ⟨RX0, "add", "(II)I"⟩
abbrev cX0_describe : ByteArray := prog_2_method_4_code
def yX0_describe : MethodName := ⟨RX0, "describe", "(IIII)V"⟩
abbrev cX0_arrive : ByteArray := prog_2_method_5_code
def yX0_arrive : MethodName := ⟨RX0, "arrive", "(II)V"⟩
abbrev cX0_waitAgain : ByteArray := prog_2_method_6_code
def yX0_waitAgain : MethodName := ⟨RX0, "waitAgain", "(II)V"⟩
abbrev cX0_putBack : ByteArray := prog_2_method_7_code
def yX0_putBack : MethodName := ⟨RX0, "putBack", "(II)V"⟩
abbrev cX0_start : ByteArray := prog_2_method_8_code
def yX0_start : MethodName := ⟨RX0, "start", "(IIII)V"⟩
abbrev cX0_ringBackDue : ByteArray := prog_2_method_9_code
def yX0_ringBackDue : MethodName := ⟨RX0, "ringBackDue", "(I)V"⟩
abbrev cX0_loseImpatient : ByteArray := prog_2_method_10_code
def yX0_loseImpatient : MethodName := ⟨RX0, "loseImpatient", "(I)V"⟩
abbrev cX0_nextChange : ByteArray := prog_2_method_11_code
def yX0_nextChange : MethodName := ⟨RX0, "nextChange", "(III)I"⟩
abbrev cX0_firstWith : ByteArray := prog_2_method_12_code
def yX0_firstWith : MethodName := ⟨RX0, "firstWith", "(I)I"⟩
abbrev cX0_givenWithin : ByteArray := prog_2_method_13_code
def yX0_givenWithin : MethodName := ⟨RX0, "givenWithin", "(I)I"⟩
abbrev cX0_countDoing : ByteArray := prog_2_method_14_code
def yX0_countDoing : MethodName := ⟨RX0, "countDoing", "(I)I"⟩
abbrev cX0_copyFrom : ByteArray := prog_2_method_15_code
def yX0_copyFrom : MethodName := ⟨RX0, "copyFrom", "(LCallRoom$Calls;)V"⟩
def RX1 : String := "CallRoom$Floor"
def TX1 : u_T := fun k => match k with
  | 0 => ("CallRoom$Floor", "helpers", "LCallRoom$Helpers;", true)
  | 1 => ("CallRoom$Floor", "calls", "LCallRoom$Calls;", true)
  | 2 => ("CallRoom$Floor", "freeFor", "[I", true)
  | 3 => ("CallRoom$Floor", "withRoomFor", "[I", true)
  | 4 => ("CallRoom$Floor", "tick", "I", false)
  | 5 => ("CallRoom$Floor", "rule", "I", false)
  | _ => ("CallRoom$Floor", "prefer", "I", false)
def tyX1 : Nat → FieldType := fun k => match k with
  | 0 => .object "CallRoom$Helpers"
  | 1 => .object "CallRoom$Calls"
  | 2 => .array .int
  | 3 => .array .int
  | 4 => .int
  | 5 => .int
  | _ => .int
theorem nmX1 : ∀ a, a < 7 → ∀ b, b < 7 → a ≠ b → (TX1 a).2.1 ≠ (TX1 b).2.1 := by decide +kernel
theorem tyX1_ok : ∀ k, k < 7 → parseFieldDescriptor (TX1 k).2.2.1 = some (tyX1 k) := by decide +kernel
abbrev cX1_init : ByteArray := prog_3_method_1_code
def yX1_init : MethodName := ⟨RX1, "<init>", "()V"⟩
abbrev cX1_copyFrom : ByteArray := prog_3_method_2_code
def yX1_copyFrom : MethodName := ⟨RX1, "copyFrom", "(LCallRoom$Floor;)V"⟩
abbrev cX1_goOn : ByteArray := prog_3_method_3_code
def yX1_goOn : MethodName := ⟨RX1, "goOn", "(I)I"⟩
abbrev cX1_ticksTillOn : ByteArray := prog_3_method_4_code
def yX1_ticksTillOn : MethodName := ⟨RX1, "ticksTillOn", "(I)I"⟩
abbrev cX1_passTick : ByteArray := prog_3_method_5_code
def yX1_passTick : MethodName := ⟨RX1, "passTick", "()I"⟩
abbrev cX1_skipQuietTicks : ByteArray := prog_3_method_6_code
def yX1_skipQuietTicks : MethodName := ⟨RX1, "skipQuietTicks", "(I)I"⟩
abbrev cX1_nextChange : ByteArray := prog_3_method_7_code
def yX1_nextChange : MethodName := ⟨RX1, "nextChange", "()I"⟩
abbrev cX1_endCalls : ByteArray := prog_3_method_8_code
def yX1_endCalls : MethodName := ⟨RX1, "endCalls", "()I"⟩
abbrev cX1_endWith : ByteArray := prog_3_method_9_code
def yX1_endWith : MethodName := ⟨RX1, "endWith", "(I)V"⟩
abbrev cX1_giveAll : ByteArray := prog_3_method_10_code
def yX1_giveAll : MethodName := ⟨RX1, "giveAll", "()V"⟩
abbrev cX1_give : ByteArray := prog_3_method_11_code
def yX1_give : MethodName := ⟨RX1, "give", "(II)V"⟩
abbrev cX1_nextToGive : ByteArray := prog_3_method_12_code
def yX1_nextToGive : MethodName := ⟨RX1, "nextToGive", "()I"⟩
abbrev cX1_rankOf : ByteArray := prog_3_method_13_code
def yX1_rankOf : MethodName := ⟨RX1, "rankOf", "(I)I"⟩
abbrev cX1_countTakers : ByteArray := prog_3_method_14_code
def yX1_countTakers : MethodName := ⟨RX1, "countTakers", "()I"⟩
abbrev cX1_isTakeable : ByteArray := prog_3_method_15_code
def yX1_isTakeable : MethodName := ⟨RX1, "isTakeable", "(I)Z"⟩
abbrev cX1_isKeptForOwn : ByteArray := prog_3_method_16_code
def yX1_isKeptForOwn : MethodName := ⟨RX1, "isKeptForOwn", "(I)Z"⟩
abbrev cX1_bestHelper : ByteArray := prog_3_method_17_code
def yX1_bestHelper : MethodName := ⟨RX1, "bestHelper", "(I)I"⟩
abbrev cX1_hindrance : ByteArray := prog_3_method_18_code
def yX1_hindrance : MethodName := ⟨RX1, "hindrance", "(I)I"⟩
def RX2 : String := "CallRoom$Helpers"
def TX2 : u_T := fun k => match k with
  | 0 => ("CallRoom$Helpers", "size", "I", false)
  | 1 => ("CallRoom$Helpers", "grades", "[I", true)
  | 2 => ("CallRoom$Helpers", "doing", "[I", true)
  | 3 => ("CallRoom$Helpers", "since", "[I", true)
  | 4 => ("CallRoom$Helpers", "held", "[I", true)
  | 5 => ("CallRoom$Helpers", "heldKind", "[I", true)
  | 6 => ("CallRoom$Helpers", "served", "[I", true)
  | 7 => ("CallRoom$Helpers", "busyTicks", "[I", true)
  | _ => ("CallRoom$Helpers", "breakOver", "[I", true)
def tyX2 : Nat → FieldType := fun k => match k with
  | 0 => .int
  | 1 => .array .int
  | 2 => .array .int
  | 3 => .array .int
  | 4 => .array .int
  | 5 => .array .int
  | 6 => .array .int
  | 7 => .array .int
  | _ => .array .int
theorem nmX2 : ∀ a, a < 9 → ∀ b, b < 9 → a ≠ b → (TX2 a).2.1 ≠ (TX2 b).2.1 := by decide +kernel
theorem tyX2_ok : ∀ k, k < 9 → parseFieldDescriptor (TX2 k).2.2.1 = some (tyX2 k) := by decide +kernel
abbrev cX2_init : ByteArray := prog_4_method_1_code
def yX2_init : MethodName := ⟨RX2, "<init>", "()V"⟩
abbrev cX2_has : ByteArray := prog_4_method_2_code
def yX2_has : MethodName := ⟨RX2, "has", "(I)Z"⟩
abbrev cX2_add : ByteArray := prog_4_method_3_code
def yX2_add : MethodName := ⟨RX2, "add", "(II)I"⟩
abbrev cX2_become : ByteArray := prog_4_method_4_code
def yX2_become : MethodName := ⟨RX2, "become", "(III)V"⟩
abbrev cX2_gradeFor : ByteArray := prog_4_method_5_code
def yX2_gradeFor : MethodName := ⟨RX2, "gradeFor", "(II)I"⟩
abbrev cX2_setGrade : ByteArray := prog_4_method_6_code
def yX2_setGrade : MethodName := ⟨RX2, "setGrade", "(III)V"⟩
abbrev cX2_sortsOf : ByteArray := prog_4_method_7_code
def yX2_sortsOf : MethodName := ⟨RX2, "sortsOf", "(I)I"⟩
abbrev cX2_canTake : ByteArray := prog_4_method_8_code
def yX2_canTake : MethodName := ⟨RX2, "canTake", "(IIZ)Z"⟩
abbrev cX2_someCanTake : ByteArray := prog_4_method_9_code
def yX2_someCanTake : MethodName := ⟨RX2, "someCanTake", "(IZ)Z"⟩
abbrev cX2_someInHasGrade : ByteArray := prog_4_method_10_code
def yX2_someInHasGrade : MethodName := ⟨RX2, "someInHasGrade", "(I)Z"⟩
abbrev cX2_isBetter : ByteArray := prog_4_method_11_code
def yX2_isBetter : MethodName := ⟨RX2, "isBetter", "(III)Z"⟩
abbrev cX2_take : ByteArray := prog_4_method_12_code
def yX2_take : MethodName := ⟨RX2, "take", "(III)V"⟩
abbrev cX2_letGo : ByteArray := prog_4_method_13_code
def yX2_letGo : MethodName := ⟨RX2, "letGo", "(II)V"⟩
abbrev cX2_addBusyTicks : ByteArray := prog_4_method_14_code
def yX2_addBusyTicks : MethodName := ⟨RX2, "addBusyTicks", "(I)V"⟩
abbrev cX2_endBreaks : ByteArray := prog_4_method_15_code
def yX2_endBreaks : MethodName := ⟨RX2, "endBreaks", "(I)V"⟩
abbrev cX2_nextBreakOver : ByteArray := prog_4_method_16_code
def yX2_nextBreakOver : MethodName := ⟨RX2, "nextBreakOver", "()I"⟩
abbrev cX2_countFree : ByteArray := prog_4_method_17_code
def yX2_countFree : MethodName := ⟨RX2, "countFree", "()I"⟩
abbrev cX2_copyFrom : ByteArray := prog_4_method_18_code
def yX2_copyFrom : MethodName := ⟨RX2, "copyFrom", "(LCallRoom$Helpers;)V"⟩
def RX3 : String := "CallRoom$Shifts"
def TX3 : u_T := fun k => match k with
  | 0 => ("CallRoom$Shifts", "wants", "[I", true)
  | _ => ("CallRoom$Shifts", "beginning", "[I", true)
def tyX3 : Nat → FieldType := fun k => match k with
  | 0 => .array .int
  | _ => .array .int
theorem nmX3 : ∀ a, a < 2 → ∀ b, b < 2 → a ≠ b → (TX3 a).2.1 ≠ (TX3 b).2.1 := by decide +kernel
theorem tyX3_ok : ∀ k, k < 2 → parseFieldDescriptor (TX3 k).2.2.1 = some (tyX3 k) := by decide +kernel
abbrev cX3_init : ByteArray := prog_5_method_1_code
def yX3_init : MethodName := ⟨RX3, "<init>", "()V"⟩
abbrev cX3_plan : ByteArray := prog_5_method_2_code
def yX3_plan : MethodName := ⟨RX3, "plan", "(I)I"⟩
def RX4 : String := "CallRoom"
def TX4 : u_T := fun k => match k with
  | 0 => ("CallRoom", "floor", "LCallRoom$Floor;", true)
  | 1 => ("CallRoom", "trial", "LCallRoom$Floor;", true)
  | 2 => ("CallRoom", "shifts", "LCallRoom$Shifts;", true)
  | _ => ("CallRoom", "refusals", "[I", true)
def tyX4 : Nat → FieldType := fun k => match k with
  | 0 => .object "CallRoom$Floor"
  | 1 => .object "CallRoom$Floor"
  | 2 => .object "CallRoom$Shifts"
  | _ => .array .int
theorem nmX4 : ∀ a, a < 4 → ∀ b, b < 4 → a ≠ b → (TX4 a).2.1 ≠ (TX4 b).2.1 := by decide +kernel
theorem tyX4_ok : ∀ k, k < 4 → parseFieldDescriptor (TX4 k).2.2.1 = some (tyX4 k) := by decide +kernel
abbrev cX4_init : ByteArray := prog_1_method_1_code
def yX4_init : MethodName := ⟨RX4, "<init>", "()V"⟩
abbrev cX4_helper : ByteArray := prog_1_method_2_code
def yX4_helper : MethodName := ⟨RX4, "helper", "(I)I"⟩
abbrev cX4_grade : ByteArray := prog_1_method_3_code
def yX4_grade : MethodName := ⟨RX4, "grade", "(III)I"⟩
abbrev cX4_duty : ByteArray := prog_1_method_4_code
def yX4_duty : MethodName := ⟨RX4, "duty", "(I)I"⟩
abbrev cX4_out : ByteArray := prog_1_method_5_code
def yX4_out : MethodName := ⟨RX4, "out", "(I)I"⟩
abbrev cX4_pause : ByteArray := prog_1_method_6_code
def yX4_pause : MethodName := ⟨RX4, "pause", "(II)I"⟩
abbrev cX4_call : ByteArray := prog_1_method_7_code
def yX4_call : MethodName := ⟨RX4, "call", "(IIIII)I"⟩
abbrev cX4_rule : ByteArray := prog_1_method_8_code
def yX4_rule : MethodName := ⟨RX4, "rule", "(I)I"⟩
abbrev cX4_prefer : ByteArray := prog_1_method_9_code
def yX4_prefer : MethodName := ⟨RX4, "prefer", "(I)I"⟩
abbrev cX4_ring : ByteArray := prog_1_method_10_code
def yX4_ring : MethodName := ⟨RX4, "ring", "(II)I"⟩
abbrev cX4_pass : ByteArray := prog_1_method_11_code
def yX4_pass : MethodName := ⟨RX4, "pass", "(III)I"⟩
abbrev cX4_leave : ByteArray := prog_1_method_12_code
def yX4_leave : MethodName := ⟨RX4, "leave", "(I)I"⟩
abbrev cX4_urge : ByteArray := prog_1_method_13_code
def yX4_urge : MethodName := ⟨RX4, "urge", "(I)I"⟩
abbrev cX4_ticks : ByteArray := prog_1_method_14_code
def yX4_ticks : MethodName := ⟨RX4, "ticks", "(I)I"⟩
abbrev cX4_wait : ByteArray := prog_1_method_15_code
def yX4_wait : MethodName := ⟨RX4, "wait", "(I)I"⟩
abbrev cX4_who : ByteArray := prog_1_method_16_code
def yX4_who : MethodName := ⟨RX4, "who", "(I)I"⟩
abbrev cX4_why : ByteArray := prog_1_method_17_code
def yX4_why : MethodName := ⟨RX4, "why", "(I)I"⟩
abbrev cX4_within : ByteArray := prog_1_method_18_code
def yX4_within : MethodName := ⟨RX4, "within", "(I)I"⟩
abbrev cX4_loss : ByteArray := prog_1_method_19_code
def yX4_loss : MethodName := ⟨RX4, "loss", "(II)I"⟩
abbrev cX4_wanted : ByteArray := prog_1_method_20_code
def yX4_wanted : MethodName := ⟨RX4, "wanted", "(II)I"⟩
abbrev cX4_want : ByteArray := prog_1_method_21_code
def yX4_want : MethodName := ⟨RX4, "want", "(II)I"⟩
abbrev cX4_cover : ByteArray := prog_1_method_22_code
def yX4_cover : MethodName := ⟨RX4, "cover", "(I)I"⟩
abbrev cX4_begins : ByteArray := prog_1_method_23_code
def yX4_begins : MethodName := ⟨RX4, "begins", "(I)I"⟩
abbrev cX4_helperOf : ByteArray := prog_1_method_24_code
def yX4_helperOf : MethodName := ⟨RX4, "helperOf", "(II)I"⟩
abbrev cX4_callOf : ByteArray := prog_1_method_25_code
def yX4_callOf : MethodName := ⟨RX4, "callOf", "(II)I"⟩
abbrev cX4_count : ByteArray := prog_1_method_26_code
def yX4_count : MethodName := ⟨RX4, "count", "(I)I"⟩
abbrev cX4_refuse : ByteArray := prog_1_method_27_code
def yX4_refuse : MethodName := ⟨RX4, "refuse", "(I)I"⟩
abbrev cX4_notWaiting : ByteArray := prog_1_method_28_code
def yX4_notWaiting : MethodName := ⟨RX4, "notWaiting", "(I)I"⟩
abbrev cX4_helperIfGivenNow : ByteArray := prog_1_method_29_code
def yX4_helperIfGivenNow : MethodName := ⟨RX4, "helperIfGivenNow", "(I)I"⟩
abbrev cX4_isSort : ByteArray := prog_1_method_30_code
def yX4_isSort : MethodName := ⟨RX4, "isSort", "(I)Z"⟩
abbrev cX4_isQuarter : ByteArray := prog_1_method_31_code
def yX4_isQuarter : MethodName := ⟨RX4, "isQuarter", "(I)Z"⟩
abbrev cX4_outside : ByteArray := prog_1_method_32_code
def yX4_outside : MethodName := ⟨RX4, "outside", "(III)I"⟩
abbrev cX4_lossWithOneMore : ByteArray := prog_1_method_33_code
def yX4_lossWithOneMore : MethodName := ⟨RX4, "lossWithOneMore", "(JII)J"⟩
def RX5 : String := "CallRoomModel"
def TX5 : u_T := fun k => match k with
  | 0 => ("CallRoomModel", "refusals", "[I", true)
  | 1 => ("CallRoomModel", "wants", "[I", true)
  | 2 => ("CallRoomModel", "begins", "[I", true)
  | 3 => ("CallRoomModel", "tick", "I", false)
  | 4 => ("CallRoomModel", "helpers", "I", false)
  | 5 => ("CallRoomModel", "calls", "I", false)
  | 6 => ("CallRoomModel", "rule", "I", false)
  | 7 => ("CallRoomModel", "prefer", "I", false)
  | 8 => ("CallRoomModel", "grades", "[I", true)
  | 9 => ("CallRoomModel", "does", "[I", true)
  | 10 => ("CallRoomModel", "since", "[I", true)
  | 11 => ("CallRoomModel", "over", "[I", true)
  | 12 => ("CallRoomModel", "had", "[I", true)
  | 13 => ("CallRoomModel", "busy", "[I", true)
  | 14 => ("CallRoomModel", "kind", "[I", true)
  | 15 => ("CallRoomModel", "sort", "[I", true)
  | 16 => ("CallRoomModel", "length", "[I", true)
  | 17 => ("CallRoomModel", "patience", "[I", true)
  | 18 => ("CallRoomModel", "came", "[I", true)
  | 19 => ("CallRoomModel", "own", "[I", true)
  | 20 => ("CallRoomModel", "state", "[I", true)
  | 21 => ("CallRoomModel", "waits", "[I", true)
  | 22 => ("CallRoomModel", "helper", "[I", true)
  | 23 => ("CallRoomModel", "ends", "[I", true)
  | 24 => ("CallRoomModel", "waited", "[I", true)
  | 25 => ("CallRoomModel", "first", "[I", true)
  | 26 => ("CallRoomModel", "load", "[I", true)
  | 27 => ("CallRoomModel", "keptLoad", "[I", true)
  | 28 => ("CallRoomModel", "writes", "[Z", true)
  | 29 => ("CallRoomModel", "keptWrites", "[Z", true)
  | 30 => ("CallRoomModel", "keptTick", "I", false)
  | 31 => ("CallRoomModel", "keptDoes", "[I", true)
  | 32 => ("CallRoomModel", "keptSince", "[I", true)
  | 33 => ("CallRoomModel", "keptHad", "[I", true)
  | 34 => ("CallRoomModel", "keptBusy", "[I", true)
  | 35 => ("CallRoomModel", "keptState", "[I", true)
  | 36 => ("CallRoomModel", "keptWaits", "[I", true)
  | 37 => ("CallRoomModel", "keptHelper", "[I", true)
  | 38 => ("CallRoomModel", "keptEnds", "[I", true)
  | 39 => ("CallRoomModel", "keptWaited", "[I", true)
  | _ => ("CallRoomModel", "keptFirst", "[I", true)
def tyX5 : Nat → FieldType := fun k => match k with
  | 0 => .array .int
  | 1 => .array .int
  | 2 => .array .int
  | 3 => .int
  | 4 => .int
  | 5 => .int
  | 6 => .int
  | 7 => .int
  | 8 => .array .int
  | 9 => .array .int
  | 10 => .array .int
  | 11 => .array .int
  | 12 => .array .int
  | 13 => .array .int
  | 14 => .array .int
  | 15 => .array .int
  | 16 => .array .int
  | 17 => .array .int
  | 18 => .array .int
  | 19 => .array .int
  | 20 => .array .int
  | 21 => .array .int
  | 22 => .array .int
  | 23 => .array .int
  | 24 => .array .int
  | 25 => .array .int
  | 26 => .array .int
  | 27 => .array .int
  | 28 => .array .boolean
  | 29 => .array .boolean
  | 30 => .int
  | 31 => .array .int
  | 32 => .array .int
  | 33 => .array .int
  | 34 => .array .int
  | 35 => .array .int
  | 36 => .array .int
  | 37 => .array .int
  | 38 => .array .int
  | 39 => .array .int
  | _ => .array .int
theorem nmX5 : ∀ a, a < 41 → ∀ b, b < 41 → a ≠ b → (TX5 a).2.1 ≠ (TX5 b).2.1 := by decide +kernel
theorem tyX5_ok : ∀ k, k < 41 → parseFieldDescriptor (TX5 k).2.2.1 = some (tyX5 k) := by decide +kernel
abbrev cX5_init : ByteArray := prog_7_method_1_code
def yX5_init : MethodName := ⟨RX5, "<init>", "()V"⟩
abbrev cX5_refuse : ByteArray := prog_7_method_2_code
def yX5_refuse : MethodName := ⟨RX5, "refuse", "(I)I"⟩
abbrev cX5_isIn : ByteArray := prog_7_method_3_code
def yX5_isIn : MethodName := ⟨RX5, "isIn", "(II)Z"⟩
abbrev cX5_gradeOf : ByteArray := prog_7_method_4_code
def yX5_gradeOf : MethodName := ⟨RX5, "gradeOf", "(II)I"⟩
abbrev cX5_helper : ByteArray := prog_7_method_5_code
def yX5_helper : MethodName := ⟨RX5, "helper", "(I)I"⟩
abbrev cX5_grade : ByteArray := prog_7_method_6_code
def yX5_grade : MethodName := ⟨RX5, "grade", "(III)I"⟩
abbrev cX5_becomes : ByteArray := prog_7_method_7_code
def yX5_becomes : MethodName := ⟨RX5, "becomes", "(II)V"⟩
abbrev cX5_duty : ByteArray := prog_7_method_8_code
def yX5_duty : MethodName := ⟨RX5, "duty", "(I)I"⟩
abbrev cX5_out : ByteArray := prog_7_method_9_code
def yX5_out : MethodName := ⟨RX5, "out", "(I)I"⟩
abbrev cX5_pause : ByteArray := prog_7_method_10_code
def yX5_pause : MethodName := ⟨RX5, "pause", "(II)I"⟩
abbrev cX5_call : ByteArray := prog_7_method_11_code
def yX5_call : MethodName := ⟨RX5, "call", "(IIIII)I"⟩
abbrev cX5_rule : ByteArray := prog_7_method_12_code
def yX5_rule : MethodName := ⟨RX5, "rule", "(I)I"⟩
abbrev cX5_prefer : ByteArray := prog_7_method_13_code
def yX5_prefer : MethodName := ⟨RX5, "prefer", "(I)I"⟩
abbrev cX5_ring : ByteArray := prog_7_method_14_code
def yX5_ring : MethodName := ⟨RX5, "ring", "(II)I"⟩
abbrev cX5_loses : ByteArray := prog_7_method_15_code
def yX5_loses : MethodName := ⟨RX5, "loses", "(I)V"⟩
abbrev cX5_pass : ByteArray := prog_7_method_16_code
def yX5_pass : MethodName := ⟨RX5, "pass", "(III)I"⟩
abbrev cX5_leave : ByteArray := prog_7_method_17_code
def yX5_leave : MethodName := ⟨RX5, "leave", "(I)I"⟩
abbrev cX5_urge : ByteArray := prog_7_method_18_code
def yX5_urge : MethodName := ⟨RX5, "urge", "(I)I"⟩
abbrev cX5_waitedOf : ByteArray := prog_7_method_19_code
def yX5_waitedOf : MethodName := ⟨RX5, "waitedOf", "(I)I"⟩
abbrev cX5_hasRoom : ByteArray := prog_7_method_20_code
def yX5_hasRoom : MethodName := ⟨RX5, "hasRoom", "(I)Z"⟩
abbrev cX5_may : ByteArray := prog_7_method_21_code
def yX5_may : MethodName := ⟨RX5, "may", "(II)Z"⟩
abbrev cX5_isTakeable : ByteArray := prog_7_method_22_code
def yX5_isTakeable : MethodName := ⟨RX5, "isTakeable", "(I)Z"⟩
abbrev cX5_freeFor : ByteArray := prog_7_method_23_code
def yX5_freeFor : MethodName := ⟨RX5, "freeFor", "(I)I"⟩
abbrev cX5_rankOf : ByteArray := prog_7_method_24_code
def yX5_rankOf : MethodName := ⟨RX5, "rankOf", "(I)I"⟩
abbrev cX5_nextCall : ByteArray := prog_7_method_25_code
def yX5_nextCall : MethodName := ⟨RX5, "nextCall", "()I"⟩
abbrev cX5_sortsOf : ByteArray := prog_7_method_26_code
def yX5_sortsOf : MethodName := ⟨RX5, "sortsOf", "(I)I"⟩
abbrev cX5_isAhead : ByteArray := prog_7_method_27_code
def yX5_isAhead : MethodName := ⟨RX5, "isAhead", "(III)Z"⟩
abbrev cX5_helperFor : ByteArray := prog_7_method_28_code
def yX5_helperFor : MethodName := ⟨RX5, "helperFor", "(I)I"⟩
abbrev cX5_give : ByteArray := prog_7_method_29_code
def yX5_give : MethodName := ⟨RX5, "give", "()V"⟩
abbrev cX5_goesOn : ByteArray := prog_7_method_30_code
def yX5_goesOn : MethodName := ⟨RX5, "goesOn", "()I"⟩
abbrev cX5_ticks : ByteArray := prog_7_method_31_code
def yX5_ticks : MethodName := ⟨RX5, "ticks", "(I)I"⟩
abbrev cX5_keep : ByteArray := prog_7_method_32_code
def yX5_keep : MethodName := ⟨RX5, "keep", "()V"⟩
abbrev cX5_putBack : ByteArray := prog_7_method_33_code
def yX5_putBack : MethodName := ⟨RX5, "putBack", "()V"⟩
abbrev cX5_wait : ByteArray := prog_7_method_34_code
def yX5_wait : MethodName := ⟨RX5, "wait", "(I)I"⟩
abbrev cX5_whoOf : ByteArray := prog_7_method_35_code
def yX5_whoOf : MethodName := ⟨RX5, "whoOf", "(I)I"⟩
abbrev cX5_who : ByteArray := prog_7_method_36_code
def yX5_who : MethodName := ⟨RX5, "who", "(I)I"⟩
abbrev cX5_why : ByteArray := prog_7_method_37_code
def yX5_why : MethodName := ⟨RX5, "why", "(I)I"⟩
abbrev cX5_within : ByteArray := prog_7_method_38_code
def yX5_within : MethodName := ⟨RX5, "within", "(I)I"⟩
abbrev cX5_lossOf : ByteArray := prog_7_method_39_code
def yX5_lossOf : MethodName := ⟨RX5, "lossOf", "(II)I"⟩
abbrev cX5_loss : ByteArray := prog_7_method_40_code
def yX5_loss : MethodName := ⟨RX5, "loss", "(II)I"⟩
abbrev cX5_wanted : ByteArray := prog_7_method_41_code
def yX5_wanted : MethodName := ⟨RX5, "wanted", "(II)I"⟩
abbrev cX5_want : ByteArray := prog_7_method_42_code
def yX5_want : MethodName := ⟨RX5, "want", "(II)I"⟩
abbrev cX5_cover : ByteArray := prog_7_method_43_code
def yX5_cover : MethodName := ⟨RX5, "cover", "(I)I"⟩
abbrev cX5_begins : ByteArray := prog_7_method_44_code
def yX5_begins : MethodName := ⟨RX5, "begins", "(I)I"⟩
abbrev cX5_helperOf : ByteArray := prog_7_method_45_code
def yX5_helperOf : MethodName := ⟨RX5, "helperOf", "(II)I"⟩
abbrev cX5_callOf : ByteArray := prog_7_method_46_code
def yX5_callOf : MethodName := ⟨RX5, "callOf", "(II)I"⟩
abbrev cX5_inState : ByteArray := prog_7_method_47_code
def yX5_inState : MethodName := ⟨RX5, "inState", "(I)I"⟩
abbrev cX5_count : ByteArray := prog_7_method_48_code
def yX5_count : MethodName := ⟨RX5, "count", "(I)I"⟩
def cr_tb : List Cond := lw_tbl.filter goodWord
theorem cr_in {w : Cond} {i : Nat} (h : lw_tbl[i]? = some w) (g : goodWord w = true) : w ∈ cr_tb := List.mem_filter.mpr ⟨List.mem_of_getElem? h, g⟩
theorem cr_lw {w : Cond} (h : w ∈ cr_tb) : w ∈ lw_tbl ∧ goodWord w = true := List.mem_filter.mp h
theorem iX0 : ∀ w ∈ u_ws RX0 TX0 13, w ∈ cr_tb := by decide +kernel
theorem iX1 : ∀ w ∈ u_ws RX1 TX1 7, w ∈ cr_tb := by decide +kernel
theorem iX2 : ∀ w ∈ u_ws RX2 TX2 9, w ∈ cr_tb := by decide +kernel
theorem iX3 : ∀ w ∈ u_ws RX3 TX3 2, w ∈ cr_tb := by decide +kernel
theorem iX4 : ∀ w ∈ u_ws RX4 TX4 4, w ∈ cr_tb := by decide +kernel
theorem iX5 : ∀ w ∈ u_ws RX5 TX5 41, w ∈ cr_tb := by decide +kernel
abbrev cr_cl : List vw_C := [(RX0, TX0, 13), (RX1, TX1, 7), (RX2, TX2, 9), (RX3, TX3, 2), (RX4, TX4, 4), (RX5, TX5, 41)]
abbrev cJ_max : ByteArray := prog_9_method_65_code
def yJ_max : MethodName := ⟨"java/lang/Math", "max", "(II)I"⟩
abbrev cJ_min : ByteArray := prog_9_method_69_code
def yJ_min : MethodName := ⟨"java/lang/Math", "min", "(II)I"⟩
abbrev cJ_bit : ByteArray := prog_8_method_49_code
def yJ_bit : MethodName := ⟨"java/lang/Integer", "bitCount", "(I)I"⟩
end
section
/-! own picture of the worlds: cells by number, ints by cell and place -/
abbrev cr_AV : Type := Int32 ⊕ (Int64 ⊕ Nat)
abbrev cr_M : Type := Nat → Nat → Int32
/-- a cell's shape: an object (its class's number, its fields: none an int, some r a reference to cell r), or an array (length, boolean or int) -/
abbrev cr_Shp : Type := (Nat × List (Option Nat)) ⊕ (Nat × Bool)
/-- a method: name, bytes, locals, answer, the shape of its world, frames, words -/
abbrev cr_Y : Type := MethodName × ByteArray × Nat × Option FieldType × List cr_Shp × Nat × Nat
def cr_nm (Y : cr_Y) : MethodName := Y.1
def cr_by (Y : cr_Y) : ByteArray := Y.2.1
def cr_ml (Y : cr_Y) : Nat := Y.2.2.1
def cr_rt (Y : cr_Y) : Option FieldType := Y.2.2.2.1
def cr_sh (Y : cr_Y) : List cr_Shp := Y.2.2.2.2.1
def cr_fr (Y : cr_Y) : Nat := Y.2.2.2.2.2.1
def cr_lo (Y : cr_Y) : Nat := Y.2.2.2.2.2.2
def cr_rm (Y : cr_Y) : Room := { frames := cr_fr Y, cells := 0, slots := 0, locals := cr_lo Y }
def cr_tv (ad : Nat → Nat) (v : cr_AV) : Value := match v with
  | .inl x => .int x
  | .inr (.inl x) => .long x
  | .inr (.inr k) => .ref (ad k)
def cr_tl (ad : Nat → Nat) (q : Nat × cr_AV) : Nat × Value := (q.1, cr_tv ad q.2)
def cr_fv (ad : Nat → Nat) (row : Nat → Int32) (j : Nat) (f : Option Nat) : Value := match f with
  | none => .int (row j)
  | some r => .ref (ad r)
def cr_fs (ad : Nat → Nat) (row : Nat → Int32) : Nat → List (Option Nat) → List Value
  | _, [] => []
  | j, f :: t => cr_fv ad row j f :: cr_fs ad row (j + 1) t
def cr_ca (cI cZ : ClassId) (b : Bool) : ClassId := match b with
  | true => cZ
  | false => cI
def cr_en (cI cZ : ClassId) (ad : Nat → Nat) (row : Nat → Int32) (c : cr_Shp) : va_E := match c with
  | .inl o => .inr (o.1, cr_fs ad row 0 o.2)
  | .inr a => .inl (cr_ca cI cZ a.2, a.1, .inl row)
def cr_wl (cI cZ : ClassId) (ad : Nat → Nat) (M : cr_M) : Nat → List cr_Shp → va_W
  | _, [] => []
  | k, c :: t => (ad k, cr_en cI cZ ad (M k) c) :: cr_wl cI cZ ad M (k + 1) t
/-- one place of the memory changes -/
def cr_up (M : cr_M) (k i : Nat) (x : Int32) : cr_M := va_up M k (upd (M k) i x)
theorem cr_wl_get (cI cZ : ClassId) (ad : Nat → Nat) (M : cr_M) (sh : List cr_Shp) : ∀ (k i : Nat), (cr_wl cI cZ ad M k sh)[i]? = (sh[i]?).map (fun c => (ad (k + i), cr_en cI cZ ad (M (k + i)) c)) := by
  induction sh with
  | nil => intro k i; simp [cr_wl]
  | cons c t ih =>
    intro k i
    cases i with
    | zero => simp [cr_wl]
    | succ i =>
      have h : k + 1 + i = k + (i + 1) := by omega
      simp [cr_wl, ih, h]
theorem cr_wl_get0 {cI cZ : ClassId} {ad : Nat → Nat} {M : cr_M} {sh : List cr_Shp} {i : Nat} {c : cr_Shp} (h : sh[i]? = some c) : (cr_wl cI cZ ad M 0 sh)[i]? = some (ad i, cr_en cI cZ ad (M i) c) := by
  rw [cr_wl_get, h]; simp
theorem cr_wl_inv {cI cZ : ClassId} {ad : Nat → Nat} {M : cr_M} {sh : List cr_Shp} {i : Nat} {q : Nat × va_E} (h : (cr_wl cI cZ ad M 0 sh)[i]? = some q) : ∃ c, sh[i]? = some c ∧ q = (ad i, cr_en cI cZ ad (M i) c) := by
  rw [cr_wl_get] at h
  cases hc : sh[i]? with
  | none => rw [hc] at h; cases h
  | some c => rw [hc] at h; refine ⟨c, rfl, ?_⟩; simpa using h.symm
theorem cr_wl_set {cI cZ : ClassId} {ad : Nat → Nat} {M : cr_M} {sh : List cr_Shp} {k : Nat} {c : cr_Shp} (h : sh[k]? = some c) (row : Nat → Int32) : (cr_wl cI cZ ad M 0 sh).set k (ad k, cr_en cI cZ ad row c) = cr_wl cI cZ ad (va_up M k row) 0 sh := by
  apply List.ext_getElem?
  intro i
  rw [List.getElem?_set, cr_wl_get, cr_wl_get]
  by_cases hi : k = i
  · subst hi
    have hl : k < (cr_wl cI cZ ad M 0 sh).length := by
      have := cr_wl_get0 (cI := cI) (cZ := cZ) (ad := ad) (M := M) h
      exact (List.getElem?_eq_some_iff.mp this).1
    simp [hl, h, va_up]
  · have hi2 : ¬ i = k := fun e => hi e.symm
    simp [hi, hi2, va_up]
theorem cr_fs_get (ad : Nat → Nat) (row : Nat → Int32) (fs : List (Option Nat)) : ∀ (j i : Nat), (cr_fs ad row j fs)[i]? = (fs[i]?).map (cr_fv ad row (j + i)) := by
  induction fs with
  | nil => intro j i; simp [cr_fs]
  | cons f t ih =>
    intro j i
    cases i with
    | zero => simp [cr_fs]
    | succ i =>
      have h : j + 1 + i = j + (i + 1) := by omega
      simp [cr_fs, ih, h]
theorem cr_fs_set {ad : Nat → Nat} {row : Nat → Int32} {fs : List (Option Nat)} {j : Nat} (h : fs[j]? = some none) (x : Int32) : (cr_fs ad row 0 fs).set j (.int x) = cr_fs ad (upd row j x) 0 fs := by
  apply List.ext_getElem?
  intro i
  rw [List.getElem?_set, cr_fs_get, cr_fs_get]
  by_cases hi : j = i
  · subst hi
    have hl : j < (cr_fs ad row 0 fs).length := by
      have h2 : (cr_fs ad row 0 fs)[j]? = some (cr_fv ad row (0 + j) none) := by rw [cr_fs_get, h]; rfl
      exact (List.getElem?_eq_some_iff.mp h2).1
    simp [hl, h, cr_fv, upd]
  · have hi2 : ¬ i = j := fun e => hi e.symm
    simp only [hi, if_false]
    cases hf : fs[i]? with
    | none => rfl
    | some f => cases f <;> simp [cr_fv, upd, hi2]
/-- the addresses alone decide how the cells lie -/
theorem cr_wl_D {cI cZ : ClassId} {ad : Nat → Nat} {M M2 : cr_M} {sh : List cr_Shp} {A : Nat → Prop} (h : va_D A (cr_wl cI cZ ad M 0 sh)) : va_D A (cr_wl cI cZ ad M2 0 sh) := by
  refine ⟨fun i j p q hi hj hpq => ?_, fun k q hk => ?_⟩
  · obtain ⟨c, hc, rfl⟩ := cr_wl_inv hi
    obtain ⟨d, hd, rfl⟩ := cr_wl_inv hj
    exact h.1 i j _ _ (cr_wl_get0 hc) (cr_wl_get0 hd) hpq
  · obtain ⟨c, hc, rfl⟩ := cr_wl_inv hk
    exact (h.2 k (ad k, cr_en cI cZ ad (M k) c) (cr_wl_get0 hc) : A (ad k))
abbrev cr_ty (cI cZ : ClassId) : List (ClassId × FieldType) := [(cI, .int), (cZ, .boolean)]
def cr_B (D : va_G) (cI cZ : ClassId) (ad : Nat → Nat) (A : Nat → Prop) (sh : List cr_Shp) (M : cr_M) (t : State) : Prop :=
  va_P D cr_cl (cr_wl cI cZ ad M 0 sh) t.heap ∧ va_K D cr_cl (cr_ty cI cZ) t ∧ va_D A (cr_wl cI cZ ad M 0 sh)
def cr_Q (D : va_G) (cI cZ : ClassId) (ad : Nat → Nat) (A : Nat → Prop) (sh : List cr_Shp) (r : Option cr_AV × cr_M) : Array Value → State → Outcome → State → Prop := match r.1 with
  | none => va_Qv (fun _ : Unit => True) (fun _ t => cr_B D cI cZ ad A sh r.2 t) A
  | some (.inl v) => va_Qi (fun (x : Int32) (_ : Unit) => x = v) (fun _ t => cr_B D cI cZ ad A sh r.2 t) A
  | some (.inr (.inl v)) => va_Ql (fun (x : Int64) (_ : Unit) => x = v) (fun _ t => cr_B D cI cZ ad A sh r.2 t) A
  | some (.inr (.inr _)) => fun _ _ _ _ => False
def cr_Cx (Y : cr_Y) (D : va_G) (cI cZ : ClassId) (A : Nat → Prop) (p : Program) (s : State) (m : MethodId) (args : Array Value) (meth : Method) (c : Code) : Prop :=
  p.tables.exec = Jvm.exec ∧ c.code = cr_by Y ∧ meth.sig.returnType = cr_rt Y ∧ c.maxLocals = cr_ml Y ∧ s.vm.findClass (cr_nm Y).cls = some m.cls ∧ (∀ w ∈ cr_tb, w.before args s = true) ∧ meth.locks = false ∧ va_K D cr_cl (cr_ty cI cZ) s ∧ (∀ q : Nat, s.heap.size ≤ q → A q)
/-- from pc, with these locals, this stack and this memory, the method Y comes to its end with r (its answer, the memory then) -/
def cr_Ev (Y : cr_Y) (pc : Nat) (lv : List (Nat × cr_AV)) (st : List cr_AV) (M : cr_M) (r : Option cr_AV × cr_M) : Prop :=
  ∀ (l : Launch) (D : va_G) (cI cZ : ClassId) (ad : Nat → Nat) (A : Nat → Prop) (p : Program) (e : Env) (s : State) (m : MethodId) (args : Array Value) (below : List Frame) (meth : Method) (c : Code),
    cr_Cx Y D cI cZ A p s m args meth c → ∀ (H : Heap) (locs : List Loc) (ls : Array Slot), va_P D cr_cl (cr_wl cI cZ ad M 0 (cr_sh Y)) H → va_D A (cr_wl cI cZ ad M 0 (cr_sh Y)) → va_S A s.heap H locs → lv_has ls (cr_ml Y) (lv.map (cr_tl ad)) →
    W p l e (cr_rm Y) s m args below meth c H locs 0 0 (MQ below (cr_Q D cI cZ ad A (cr_sh Y) r) args s 0 0 A) (F0 m pc ls (st.map (cr_tv ad)))
def cr_lk : List (Nat × cr_AV) → Nat → Option cr_AV
  | [], _ => none
  | (j, v) :: t, i => if j = i then some v else cr_lk t i
theorem cr_lk_mem {lv : List (Nat × cr_AV)} {i : Nat} {v : cr_AV} (h : cr_lk lv i = some v) : (i, v) ∈ lv := by
  induction lv with
  | nil => cases h
  | cons a t ih =>
    obtain ⟨j, w⟩ := a
    unfold cr_lk at h
    by_cases hj : j = i
    · rw [if_pos hj] at h
      cases h; subst hj
      exact List.mem_cons_self
    · rw [if_neg hj] at h
      exact List.mem_cons_of_mem _ (ih h)
theorem cr_lk_at {ls : Array Slot} {n : Nat} {ad : Nat → Nat} {lv : List (Nat × cr_AV)} {i : Nat} {v : cr_AV} (hl : lv_has ls n (lv.map (cr_tl ad))) (h : cr_lk lv i = some v) : ls[i]? = some (.val (cr_tv ad v)) :=
  hl.2.2 (i, cr_tv ad v) (List.mem_map.mpr ⟨(i, v), cr_lk_mem h, rfl⟩)
/-- a local of one word is put -/
def cr_s1 : List (Nat × cr_AV) → Nat → List (Nat × cr_AV)
  | [], _ => []
  | (j, v) :: t, i => if j = i then cr_s1 t i else match v with
    | .inr (.inl _) => if j + 1 = i then cr_s1 t i else (j, v) :: cr_s1 t i
    | _ => (j, v) :: cr_s1 t i
def cr_s2 : List (Nat × cr_AV) → Nat → List (Nat × cr_AV)
  | [], _ => []
  | (j, v) :: t, i => if j = i then cr_s2 t i else if j = i + 1 then cr_s2 t i else match v with
    | .inr (.inl _) => if j + 1 = i then cr_s2 t i else (j, v) :: cr_s2 t i
    | _ => (j, v) :: cr_s2 t i
theorem cr_cat {ad : Nat → Nat} {v : cr_AV} : (cr_tv ad v).category = (match v with | .inr (.inl _) => 2 | _ => 1) := by
  rcases v with x | x | x <;> rfl
theorem cr_s1_mem {lv : List (Nat × cr_AV)} {i : Nat} {q : Nat × cr_AV} (h : q ∈ cr_s1 lv i) : q ∈ lv ∧ ¬ q.1 = i ∧ ∀ ad, ¬ (q.1 + 1 = i ∧ (cr_tv ad q.2).category = 2) := by
  induction lv with
  | nil => cases h
  | cons a t ih =>
    obtain ⟨j, v⟩ := a
    unfold cr_s1 at h
    by_cases hj : j = i
    · rw [if_pos hj] at h
      obtain ⟨h1, h2⟩ := ih h
      exact ⟨List.mem_cons_of_mem _ h1, h2⟩
    · rw [if_neg hj] at h
      rcases v with x | x | x
      · rcases List.mem_cons.mp h with rfl | h
        · exact ⟨List.mem_cons_self, hj, fun ad hc => by simp [cr_tv, Value.category] at hc⟩
        · obtain ⟨h1, h2⟩ := ih h
          exact ⟨List.mem_cons_of_mem _ h1, h2⟩
      · by_cases h3 : j + 1 = i
        · simp only [h3, if_true] at h
          obtain ⟨h1, h2⟩ := ih h
          exact ⟨List.mem_cons_of_mem _ h1, h2⟩
        · simp only [h3, if_false] at h
          rcases List.mem_cons.mp h with rfl | h
          · exact ⟨List.mem_cons_self, hj, fun ad hc => h3 hc.1⟩
          · obtain ⟨h1, h2⟩ := ih h
            exact ⟨List.mem_cons_of_mem _ h1, h2⟩
      · rcases List.mem_cons.mp h with rfl | h
        · exact ⟨List.mem_cons_self, hj, fun ad hc => by simp [cr_tv, Value.category] at hc⟩
        · obtain ⟨h1, h2⟩ := ih h
          exact ⟨List.mem_cons_of_mem _ h1, h2⟩
theorem cr_s2_mem {lv : List (Nat × cr_AV)} {i : Nat} {q : Nat × cr_AV} (h : q ∈ cr_s2 lv i) : q ∈ lv ∧ ¬ q.1 = i ∧ ¬ q.1 = i + 1 ∧ ∀ ad, ¬ (q.1 + 1 = i ∧ (cr_tv ad q.2).category = 2) := by
  induction lv with
  | nil => cases h
  | cons a t ih =>
    obtain ⟨j, v⟩ := a
    unfold cr_s2 at h
    by_cases hj : j = i
    · rw [if_pos hj] at h
      obtain ⟨h1, h2⟩ := ih h
      exact ⟨List.mem_cons_of_mem _ h1, h2⟩
    · rw [if_neg hj] at h
      by_cases hj2 : j = i + 1
      · rw [if_pos hj2] at h
        obtain ⟨h1, h2⟩ := ih h
        exact ⟨List.mem_cons_of_mem _ h1, h2⟩
      · rw [if_neg hj2] at h
        rcases v with x | x | x
        · rcases List.mem_cons.mp h with rfl | h
          · exact ⟨List.mem_cons_self, hj, hj2, fun ad hc => by simp [cr_tv, Value.category] at hc⟩
          · obtain ⟨h1, h2⟩ := ih h
            exact ⟨List.mem_cons_of_mem _ h1, h2⟩
        · by_cases h3 : j + 1 = i
          · simp only [h3, if_true] at h
            obtain ⟨h1, h2⟩ := ih h
            exact ⟨List.mem_cons_of_mem _ h1, h2⟩
          · simp only [h3, if_false] at h
            rcases List.mem_cons.mp h with rfl | h
            · exact ⟨List.mem_cons_self, hj, hj2, fun ad hc => h3 hc.1⟩
            · obtain ⟨h1, h2⟩ := ih h
              exact ⟨List.mem_cons_of_mem _ h1, h2⟩
        · rcases List.mem_cons.mp h with rfl | h
          · exact ⟨List.mem_cons_self, hj, hj2, fun ad hc => by simp [cr_tv, Value.category] at hc⟩
          · obtain ⟨h1, h2⟩ := ih h
            exact ⟨List.mem_cons_of_mem _ h1, h2⟩
theorem cr_s1_has {ls : Array Slot} {n : Nat} {ad : Nat → Nat} {lv : List (Nat × cr_AV)} {i : Nat} {v : cr_AV} (h : lv_has ls n ((i, cr_tv ad v) :: (lv.map (cr_tl ad)).filter (fun q => !(q.1 == i) && !(q.1 + 1 == i && q.2.category == 2)))) : lv_has ls n (((i, v) :: cr_s1 lv i).map (cr_tl ad)) := by
  refine ⟨h.1, h.2.1, fun q hq => h.2.2 q ?_⟩
  obtain ⟨a, ha, rfl⟩ := List.mem_map.mp hq
  rcases List.mem_cons.mp ha with rfl | ha
  · exact List.mem_cons_self
  · obtain ⟨h1, h2, h3⟩ := cr_s1_mem ha
    refine List.mem_cons_of_mem _ (List.mem_filter.mpr ⟨List.mem_map.mpr ⟨a, h1, rfl⟩, ?_⟩)
    have h4 := h3 ad
    simp [cr_tl, h2]
    exact Decidable.not_and_iff_or_not.mp h4
theorem cr_s2_has {ls : Array Slot} {n : Nat} {ad : Nat → Nat} {lv : List (Nat × cr_AV)} {i : Nat} {v : cr_AV} (h : lv_has ls n ((i, cr_tv ad v) :: (lv.map (cr_tl ad)).filter (fun q => !(q.1 == i) && (!(q.1 == i + 1) && !(q.1 + 1 == i && q.2.category == 2))))) : lv_has ls n (((i, v) :: cr_s2 lv i).map (cr_tl ad)) := by
  refine ⟨h.1, h.2.1, fun q hq => h.2.2 q ?_⟩
  obtain ⟨a, ha, rfl⟩ := List.mem_map.mp hq
  rcases List.mem_cons.mp ha with rfl | ha
  · exact List.mem_cons_self
  · obtain ⟨h1, h2, h3, h4⟩ := cr_s2_mem ha
    refine List.mem_cons_of_mem _ (List.mem_filter.mpr ⟨List.mem_map.mpr ⟨a, h1, rfl⟩, ?_⟩)
    have h5 := h4 ad
    simp [cr_tl, h2, h3]
    exact Decidable.not_and_iff_or_not.mp h5
theorem e_iconst {Y : cr_Y} {pc : Nat} {lv : List (Nat × cr_AV)} {st : List cr_AV} {M : cr_M} {r : Option cr_AV × cr_M} {n : Int} {v : Int32} (hd : decode (cr_by Y) pc = .ok (.iconst n, 1)) (hv : Int32.ofInt n = v) (k : cr_Ev Y (pc + 1) lv (.inl v :: st) M r) : cr_Ev Y pc lv (st) M r := by
  intro l D cI cZ ad A p e s m args below meth c C H locs ls hP hD hS hl
  obtain ⟨hx, hb, hr, hml, hown, hts, hlk, hK, hA⟩ := id C
  exact lv_iconst hx hb hd hv (k l D cI cZ ad A p e s m args below meth c C H locs ls hP hD hS hl)
theorem e_bipush {Y : cr_Y} {pc : Nat} {lv : List (Nat × cr_AV)} {st : List cr_AV} {M : cr_M} {r : Option cr_AV × cr_M} {n : Int} {v : Int32} (hd : decode (cr_by Y) pc = .ok (.bipush n, 2)) (hv : (Int8.ofInt n).toInt32 = v) (k : cr_Ev Y (pc + 2) lv (.inl v :: st) M r) : cr_Ev Y pc lv (st) M r := by
  intro l D cI cZ ad A p e s m args below meth c C H locs ls hP hD hS hl
  obtain ⟨hx, hb, hr, hml, hown, hts, hlk, hK, hA⟩ := id C
  exact lv_bipush hx hb hd hv (k l D cI cZ ad A p e s m args below meth c C H locs ls hP hD hS hl)
theorem e_sipush {Y : cr_Y} {pc : Nat} {lv : List (Nat × cr_AV)} {st : List cr_AV} {M : cr_M} {r : Option cr_AV × cr_M} {n : Int} {v : Int32} (hd : decode (cr_by Y) pc = .ok (.sipush n, 3)) (hv : (Int16.ofInt n).toInt32 = v) (k : cr_Ev Y (pc + 3) lv (.inl v :: st) M r) : cr_Ev Y pc lv (st) M r := by
  intro l D cI cZ ad A p e s m args below meth c C H locs ls hP hD hS hl
  obtain ⟨hx, hb, hr, hml, hown, hts, hlk, hK, hA⟩ := id C
  exact lv_sipush hx hb hd hv (k l D cI cZ ad A p e s m args below meth c C H locs ls hP hD hS hl)
theorem e_lconst {Y : cr_Y} {pc : Nat} {lv : List (Nat × cr_AV)} {st : List cr_AV} {M : cr_M} {r : Option cr_AV × cr_M} {n : Fin 2} {v : Int64} (hd : decode (cr_by Y) pc = .ok (.lconst n, 1)) (hv : Int64.ofNat (n : Nat) = v) (k : cr_Ev Y (pc + 1) lv (.inr (.inl v) :: st) M r) : cr_Ev Y pc lv (st) M r := by
  intro l D cI cZ ad A p e s m args below meth c C H locs ls hP hD hS hl
  obtain ⟨hx, hb, hr, hml, hown, hts, hlk, hK, hA⟩ := id C
  exact lv_lconst hx hb hd hv (k l D cI cZ ad A p e s m args below meth c C H locs ls hP hD hS hl)
theorem e_ldc {Y : cr_Y} {pc : Nat} {lv : List (Nat × cr_AV)} {st : List cr_AV} {M : cr_M} {r : Option cr_AV × cr_M} {i : Nat} {v : Int32} (hd : decode (cr_by Y) pc = .ok (.ldc i, 2)) (hc : Cond.constant (cr_nm Y).cls i v ∈ cr_tb) (k : cr_Ev Y (pc + 2) lv (.inl v :: st) M r) : cr_Ev Y pc lv (st) M r := by
  intro l D cI cZ ad A p e s m args below meth c C H locs ls hP hD hS hl
  obtain ⟨hx, hb, hr, hml, hown, hts, hlk, hK, hA⟩ := id C
  exact lv_ldc hx hb hown (hts _ hc) hd (k l D cI cZ ad A p e s m args below meth c C H locs ls hP hD hS hl)
theorem e_ldcw {Y : cr_Y} {pc : Nat} {lv : List (Nat × cr_AV)} {st : List cr_AV} {M : cr_M} {r : Option cr_AV × cr_M} {i : Nat} {v : Int32} (hd : decode (cr_by Y) pc = .ok (.ldc_w i, 3)) (hc : Cond.constant (cr_nm Y).cls i v ∈ cr_tb) (k : cr_Ev Y (pc + 3) lv (.inl v :: st) M r) : cr_Ev Y pc lv (st) M r := by
  intro l D cI cZ ad A p e s m args below meth c C H locs ls hP hD hS hl
  obtain ⟨hx, hb, hr, hml, hown, hts, hlk, hK, hA⟩ := id C
  exact lv_ldcw hx hb hown (hts _ hc) hd (k l D cI cZ ad A p e s m args below meth c C H locs ls hP hD hS hl)
theorem e_ldc2 {Y : cr_Y} {pc : Nat} {lv : List (Nat × cr_AV)} {st : List cr_AV} {M : cr_M} {r : Option cr_AV × cr_M} {i : Nat} {v : Int64} (hd : decode (cr_by Y) pc = .ok (.ldc2_w i, 3)) (hc : Cond.constantLong (cr_nm Y).cls i v ∈ cr_tb) (k : cr_Ev Y (pc + 3) lv (.inr (.inl v) :: st) M r) : cr_Ev Y pc lv (st) M r := by
  intro l D cI cZ ad A p e s m args below meth c C H locs ls hP hD hS hl
  obtain ⟨hx, hb, hr, hml, hown, hts, hlk, hK, hA⟩ := id C
  exact lv_ldc2 hx hb hown (hts _ hc) hd (k l D cI cZ ad A p e s m args below meth c C H locs ls hP hD hS hl)
theorem e_iload_n {Y : cr_Y} {pc : Nat} {lv : List (Nat × cr_AV)} {st : List cr_AV} {M : cr_M} {r : Option cr_AV × cr_M} {i : Fin 4} {x : Int32} (hd : decode (cr_by Y) pc = .ok (.iload_n i, 1)) (hv : cr_lk lv (i : Nat) = some (.inl x)) (k : cr_Ev Y (pc + 1) lv (.inl x :: st) M r) : cr_Ev Y pc lv (st) M r := by
  intro l D cI cZ ad A p e s m args below meth c C H locs ls hP hD hS hl
  obtain ⟨hx, hb, hr, hml, hown, hts, hlk, hK, hA⟩ := id C
  exact lv_iload_n hx hb hd rfl (cr_lk_at hl hv) (k l D cI cZ ad A p e s m args below meth c C H locs ls hP hD hS hl)
theorem e_iload {Y : cr_Y} {pc : Nat} {lv : List (Nat × cr_AV)} {st : List cr_AV} {M : cr_M} {r : Option cr_AV × cr_M} {i : Nat} {x : Int32} (hd : decode (cr_by Y) pc = .ok (.iload i, 2)) (hv : cr_lk lv i = some (.inl x)) (k : cr_Ev Y (pc + 2) lv (.inl x :: st) M r) : cr_Ev Y pc lv (st) M r := by
  intro l D cI cZ ad A p e s m args below meth c C H locs ls hP hD hS hl
  obtain ⟨hx, hb, hr, hml, hown, hts, hlk, hK, hA⟩ := id C
  exact lv_iload hx hb hd (cr_lk_at hl hv) (k l D cI cZ ad A p e s m args below meth c C H locs ls hP hD hS hl)
theorem e_lload_n {Y : cr_Y} {pc : Nat} {lv : List (Nat × cr_AV)} {st : List cr_AV} {M : cr_M} {r : Option cr_AV × cr_M} {i : Fin 4} {x : Int64} (hd : decode (cr_by Y) pc = .ok (.lload_n i, 1)) (hv : cr_lk lv (i : Nat) = some (.inr (.inl x))) (k : cr_Ev Y (pc + 1) lv (.inr (.inl x) :: st) M r) : cr_Ev Y pc lv (st) M r := by
  intro l D cI cZ ad A p e s m args below meth c C H locs ls hP hD hS hl
  obtain ⟨hx, hb, hr, hml, hown, hts, hlk, hK, hA⟩ := id C
  exact lv_lload_n hx hb hd rfl (cr_lk_at hl hv) (k l D cI cZ ad A p e s m args below meth c C H locs ls hP hD hS hl)
theorem e_lload {Y : cr_Y} {pc : Nat} {lv : List (Nat × cr_AV)} {st : List cr_AV} {M : cr_M} {r : Option cr_AV × cr_M} {i : Nat} {x : Int64} (hd : decode (cr_by Y) pc = .ok (.lload i, 2)) (hv : cr_lk lv i = some (.inr (.inl x))) (k : cr_Ev Y (pc + 2) lv (.inr (.inl x) :: st) M r) : cr_Ev Y pc lv (st) M r := by
  intro l D cI cZ ad A p e s m args below meth c C H locs ls hP hD hS hl
  obtain ⟨hx, hb, hr, hml, hown, hts, hlk, hK, hA⟩ := id C
  exact lv_lload hx hb hd (cr_lk_at hl hv) (k l D cI cZ ad A p e s m args below meth c C H locs ls hP hD hS hl)
theorem e_aload_n {Y : cr_Y} {pc : Nat} {lv : List (Nat × cr_AV)} {st : List cr_AV} {M : cr_M} {r : Option cr_AV × cr_M} {i : Fin 4} {x : Nat} (hd : decode (cr_by Y) pc = .ok (.aload_n i, 1)) (hv : cr_lk lv (i : Nat) = some (.inr (.inr x))) (k : cr_Ev Y (pc + 1) lv (.inr (.inr x) :: st) M r) : cr_Ev Y pc lv (st) M r := by
  intro l D cI cZ ad A p e s m args below meth c C H locs ls hP hD hS hl
  obtain ⟨hx, hb, hr, hml, hown, hts, hlk, hK, hA⟩ := id C
  exact lv_aload_n hx hb hd rfl (cr_lk_at hl hv) (k l D cI cZ ad A p e s m args below meth c C H locs ls hP hD hS hl)
theorem e_aload {Y : cr_Y} {pc : Nat} {lv : List (Nat × cr_AV)} {st : List cr_AV} {M : cr_M} {r : Option cr_AV × cr_M} {i : Nat} {x : Nat} (hd : decode (cr_by Y) pc = .ok (.aload i, 2)) (hv : cr_lk lv i = some (.inr (.inr x))) (k : cr_Ev Y (pc + 2) lv (.inr (.inr x) :: st) M r) : cr_Ev Y pc lv (st) M r := by
  intro l D cI cZ ad A p e s m args below meth c C H locs ls hP hD hS hl
  obtain ⟨hx, hb, hr, hml, hown, hts, hlk, hK, hA⟩ := id C
  exact lv_aload hx hb hd (cr_lk_at hl hv) (k l D cI cZ ad A p e s m args below meth c C H locs ls hP hD hS hl)
theorem e_istore_n {Y : cr_Y} {pc : Nat} {lv : List (Nat × cr_AV)} {st : List cr_AV} {M : cr_M} {r : Option cr_AV × cr_M} {i : Fin 4} {x : Int32} (hd : decode (cr_by Y) pc = .ok (.istore_n i, 1)) (hn : (i : Nat) < cr_ml Y) (k : cr_Ev Y (pc + 1) (((i : Nat), .inl x) :: cr_s1 lv i) st M r) : cr_Ev Y pc lv (.inl x :: st) M r := by
  intro l D cI cZ ad A p e s m args below meth c C H locs ls hP hD hS hl
  obtain ⟨hx, hb, hr, hml, hown, hts, hlk, hK, hA⟩ := id C
  exact lv_istore_n hx hb hd rfl hl hn rfl (fun ls' hl' => k l D cI cZ ad A p e s m args below meth c C H locs ls' hP hD hS (cr_s1_has hl'))
theorem e_istore {Y : cr_Y} {pc : Nat} {lv : List (Nat × cr_AV)} {st : List cr_AV} {M : cr_M} {r : Option cr_AV × cr_M} {i : Nat} {x : Int32} (hd : decode (cr_by Y) pc = .ok (.istore i, 2)) (hn : i < cr_ml Y) (k : cr_Ev Y (pc + 2) ((i, .inl x) :: cr_s1 lv i) st M r) : cr_Ev Y pc lv (.inl x :: st) M r := by
  intro l D cI cZ ad A p e s m args below meth c C H locs ls hP hD hS hl
  obtain ⟨hx, hb, hr, hml, hown, hts, hlk, hK, hA⟩ := id C
  exact lv_istore hx hb hd hl hn rfl (fun ls' hl' => k l D cI cZ ad A p e s m args below meth c C H locs ls' hP hD hS (cr_s1_has hl'))
theorem e_lstore_n {Y : cr_Y} {pc : Nat} {lv : List (Nat × cr_AV)} {st : List cr_AV} {M : cr_M} {r : Option cr_AV × cr_M} {i : Fin 4} {x : Int64} (hd : decode (cr_by Y) pc = .ok (.lstore_n i, 1)) (hn : (i : Nat) + 1 < cr_ml Y) (k : cr_Ev Y (pc + 1) (((i : Nat), .inr (.inl x)) :: cr_s2 lv i) st M r) : cr_Ev Y pc lv (.inr (.inl x) :: st) M r := by
  intro l D cI cZ ad A p e s m args below meth c C H locs ls hP hD hS hl
  obtain ⟨hx, hb, hr, hml, hown, hts, hlk, hK, hA⟩ := id C
  exact lv_lstore_n hx hb hd rfl hl hn rfl (fun ls' hl' => k l D cI cZ ad A p e s m args below meth c C H locs ls' hP hD hS (cr_s2_has hl'))
theorem e_lstore {Y : cr_Y} {pc : Nat} {lv : List (Nat × cr_AV)} {st : List cr_AV} {M : cr_M} {r : Option cr_AV × cr_M} {i : Nat} {x : Int64} (hd : decode (cr_by Y) pc = .ok (.lstore i, 2)) (hn : i + 1 < cr_ml Y) (k : cr_Ev Y (pc + 2) ((i, .inr (.inl x)) :: cr_s2 lv i) st M r) : cr_Ev Y pc lv (.inr (.inl x) :: st) M r := by
  intro l D cI cZ ad A p e s m args below meth c C H locs ls hP hD hS hl
  obtain ⟨hx, hb, hr, hml, hown, hts, hlk, hK, hA⟩ := id C
  exact lv_lstore hx hb hd hl hn rfl (fun ls' hl' => k l D cI cZ ad A p e s m args below meth c C H locs ls' hP hD hS (cr_s2_has hl'))
theorem e_astore_n {Y : cr_Y} {pc : Nat} {lv : List (Nat × cr_AV)} {st : List cr_AV} {M : cr_M} {r : Option cr_AV × cr_M} {i : Fin 4} {x : Nat} (hd : decode (cr_by Y) pc = .ok (.astore_n i, 1)) (hn : (i : Nat) < cr_ml Y) (k : cr_Ev Y (pc + 1) (((i : Nat), .inr (.inr x)) :: cr_s1 lv i) st M r) : cr_Ev Y pc lv (.inr (.inr x) :: st) M r := by
  intro l D cI cZ ad A p e s m args below meth c C H locs ls hP hD hS hl
  obtain ⟨hx, hb, hr, hml, hown, hts, hlk, hK, hA⟩ := id C
  exact lv_astore_n hx hb hd rfl hl hn rfl (fun ls' hl' => k l D cI cZ ad A p e s m args below meth c C H locs ls' hP hD hS (cr_s1_has hl'))
theorem e_astore {Y : cr_Y} {pc : Nat} {lv : List (Nat × cr_AV)} {st : List cr_AV} {M : cr_M} {r : Option cr_AV × cr_M} {i : Nat} {x : Nat} (hd : decode (cr_by Y) pc = .ok (.astore i, 2)) (hn : i < cr_ml Y) (k : cr_Ev Y (pc + 2) ((i, .inr (.inr x)) :: cr_s1 lv i) st M r) : cr_Ev Y pc lv (.inr (.inr x) :: st) M r := by
  intro l D cI cZ ad A p e s m args below meth c C H locs ls hP hD hS hl
  obtain ⟨hx, hb, hr, hml, hown, hts, hlk, hK, hA⟩ := id C
  exact lv_astore hx hb hd hl hn rfl (fun ls' hl' => k l D cI cZ ad A p e s m args below meth c C H locs ls' hP hD hS (cr_s1_has hl'))
theorem e_iinc {Y : cr_Y} {pc : Nat} {lv : List (Nat × cr_AV)} {st : List cr_AV} {M : cr_M} {r : Option cr_AV × cr_M} {i : Nat} {n : Int} {x v : Int32} (hd : decode (cr_by Y) pc = .ok (.iinc i n, 3)) (hv : cr_lk lv i = some (.inl x)) (hn : i < cr_ml Y) (he : x + Int32.ofInt n = v) (k : cr_Ev Y (pc + 3) ((i, .inl v) :: cr_s1 lv i) st M r) : cr_Ev Y pc lv st M r := by
  intro l D cI cZ ad A p e s m args below meth c C H locs ls hP hD hS hl
  obtain ⟨hx, hb, hr, hml, hown, hts, hlk, hK, hA⟩ := id C
  obtain ⟨j, hj⟩ := List.getElem?_of_mem (List.mem_map.mpr ⟨(i, (.inl x : cr_AV)), cr_lk_mem hv, rfl⟩ : cr_tl ad (i, .inl x) ∈ lv.map (cr_tl ad))
  exact lv_iinc (v := v) hx hb hd hl hj he hn rfl (fun ls' hl' => k l D cI cZ ad A p e s m args below meth c C H locs ls' hP hD hS (cr_s1_has hl'))
theorem e_iadd {Y : cr_Y} {pc : Nat} {lv : List (Nat × cr_AV)} {st : List cr_AV} {M : cr_M} {r : Option cr_AV × cr_M} {x y : Int32} (hd : decode (cr_by Y) pc = .ok (.iadd, 1)) (k : cr_Ev Y (pc + 1) lv (.inl (x + y) :: st) M r) : cr_Ev Y pc lv (.inl y :: .inl x :: st) M r := by
  intro l D cI cZ ad A p e s m args below meth c C H locs ls hP hD hS hl
  obtain ⟨hx, hb, hr, hml, hown, hts, hlk, hK, hA⟩ := id C
  exact lv_iadd hx hb hd (k l D cI cZ ad A p e s m args below meth c C H locs ls hP hD hS hl)
theorem e_isub {Y : cr_Y} {pc : Nat} {lv : List (Nat × cr_AV)} {st : List cr_AV} {M : cr_M} {r : Option cr_AV × cr_M} {x y : Int32} (hd : decode (cr_by Y) pc = .ok (.isub, 1)) (k : cr_Ev Y (pc + 1) lv (.inl (x - y) :: st) M r) : cr_Ev Y pc lv (.inl y :: .inl x :: st) M r := by
  intro l D cI cZ ad A p e s m args below meth c C H locs ls hP hD hS hl
  obtain ⟨hx, hb, hr, hml, hown, hts, hlk, hK, hA⟩ := id C
  exact lv_isub hx hb hd (k l D cI cZ ad A p e s m args below meth c C H locs ls hP hD hS hl)
theorem e_imul {Y : cr_Y} {pc : Nat} {lv : List (Nat × cr_AV)} {st : List cr_AV} {M : cr_M} {r : Option cr_AV × cr_M} {x y : Int32} (hd : decode (cr_by Y) pc = .ok (.imul, 1)) (k : cr_Ev Y (pc + 1) lv (.inl (x * y) :: st) M r) : cr_Ev Y pc lv (.inl y :: .inl x :: st) M r := by
  intro l D cI cZ ad A p e s m args below meth c C H locs ls hP hD hS hl
  obtain ⟨hx, hb, hr, hml, hown, hts, hlk, hK, hA⟩ := id C
  exact lv_imul hx hb hd (k l D cI cZ ad A p e s m args below meth c C H locs ls hP hD hS hl)
theorem e_iand {Y : cr_Y} {pc : Nat} {lv : List (Nat × cr_AV)} {st : List cr_AV} {M : cr_M} {r : Option cr_AV × cr_M} {x y : Int32} (hd : decode (cr_by Y) pc = .ok (.iand, 1)) (k : cr_Ev Y (pc + 1) lv (.inl (x &&& y) :: st) M r) : cr_Ev Y pc lv (.inl y :: .inl x :: st) M r := by
  intro l D cI cZ ad A p e s m args below meth c C H locs ls hP hD hS hl
  obtain ⟨hx, hb, hr, hml, hown, hts, hlk, hK, hA⟩ := id C
  exact lv_iand hx hb hd (k l D cI cZ ad A p e s m args below meth c C H locs ls hP hD hS hl)
theorem e_ior {Y : cr_Y} {pc : Nat} {lv : List (Nat × cr_AV)} {st : List cr_AV} {M : cr_M} {r : Option cr_AV × cr_M} {x y : Int32} (hd : decode (cr_by Y) pc = .ok (.ior, 1)) (k : cr_Ev Y (pc + 1) lv (.inl (x ||| y) :: st) M r) : cr_Ev Y pc lv (.inl y :: .inl x :: st) M r := by
  intro l D cI cZ ad A p e s m args below meth c C H locs ls hP hD hS hl
  obtain ⟨hx, hb, hr, hml, hown, hts, hlk, hK, hA⟩ := id C
  exact lv_ior hx hb hd (k l D cI cZ ad A p e s m args below meth c C H locs ls hP hD hS hl)
theorem e_ixor {Y : cr_Y} {pc : Nat} {lv : List (Nat × cr_AV)} {st : List cr_AV} {M : cr_M} {r : Option cr_AV × cr_M} {x y : Int32} (hd : decode (cr_by Y) pc = .ok (.ixor, 1)) (k : cr_Ev Y (pc + 1) lv (.inl (x ^^^ y) :: st) M r) : cr_Ev Y pc lv (.inl y :: .inl x :: st) M r := by
  intro l D cI cZ ad A p e s m args below meth c C H locs ls hP hD hS hl
  obtain ⟨hx, hb, hr, hml, hown, hts, hlk, hK, hA⟩ := id C
  exact lv_ixor hx hb hd (k l D cI cZ ad A p e s m args below meth c C H locs ls hP hD hS hl)
theorem e_ishl {Y : cr_Y} {pc : Nat} {lv : List (Nat × cr_AV)} {st : List cr_AV} {M : cr_M} {r : Option cr_AV × cr_M} {x y : Int32} (hd : decode (cr_by Y) pc = .ok (.ishl, 1)) (k : cr_Ev Y (pc + 1) lv (.inl (x <<< (y &&& 31)) :: st) M r) : cr_Ev Y pc lv (.inl y :: .inl x :: st) M r := by
  intro l D cI cZ ad A p e s m args below meth c C H locs ls hP hD hS hl
  obtain ⟨hx, hb, hr, hml, hown, hts, hlk, hK, hA⟩ := id C
  exact lv_ishl hx hb hd (k l D cI cZ ad A p e s m args below meth c C H locs ls hP hD hS hl)
theorem e_ishr {Y : cr_Y} {pc : Nat} {lv : List (Nat × cr_AV)} {st : List cr_AV} {M : cr_M} {r : Option cr_AV × cr_M} {x y : Int32} (hd : decode (cr_by Y) pc = .ok (.ishr, 1)) (k : cr_Ev Y (pc + 1) lv (.inl (x >>> (y &&& 31)) :: st) M r) : cr_Ev Y pc lv (.inl y :: .inl x :: st) M r := by
  intro l D cI cZ ad A p e s m args below meth c C H locs ls hP hD hS hl
  obtain ⟨hx, hb, hr, hml, hown, hts, hlk, hK, hA⟩ := id C
  exact lv_ishr hx hb hd (k l D cI cZ ad A p e s m args below meth c C H locs ls hP hD hS hl)
theorem e_idiv {Y : cr_Y} {pc : Nat} {lv : List (Nat × cr_AV)} {st : List cr_AV} {M : cr_M} {r : Option cr_AV × cr_M} {x y : Int32} (hd : decode (cr_by Y) pc = .ok (.idiv, 1)) (hne : ¬ y = 0) (k : cr_Ev Y (pc + 1) lv (.inl (x / y) :: st) M r) : cr_Ev Y pc lv (.inl y :: .inl x :: st) M r := by
  intro l D cI cZ ad A p e s m args below meth c C H locs ls hP hD hS hl
  obtain ⟨hx, hb, hr, hml, hown, hts, hlk, hK, hA⟩ := id C
  exact lv_idiv hx hb hd hne (k l D cI cZ ad A p e s m args below meth c C H locs ls hP hD hS hl)
theorem e_iushr {Y : cr_Y} {pc : Nat} {lv : List (Nat × cr_AV)} {st : List cr_AV} {M : cr_M} {r : Option cr_AV × cr_M} {x y v : Int32} (hd : decode (cr_by Y) pc = .ok (.iushr, 1)) (hv : (x.toUInt32 >>> (y.toUInt32 &&& Int32.toUInt32 31)).toInt32 = v) (k : cr_Ev Y (pc + 1) lv (.inl v :: st) M r) : cr_Ev Y pc lv (.inl y :: .inl x :: st) M r := by
  intro l D cI cZ ad A p e s m args below meth c C H locs ls hP hD hS hl
  obtain ⟨hx, hb, hr, hml, hown, hts, hlk, hK, hA⟩ := id C
  exact lv_iushr hx hb hd hv (k l D cI cZ ad A p e s m args below meth c C H locs ls hP hD hS hl)
theorem e_ineg {Y : cr_Y} {pc : Nat} {lv : List (Nat × cr_AV)} {st : List cr_AV} {M : cr_M} {r : Option cr_AV × cr_M} {x : Int32} (hd : decode (cr_by Y) pc = .ok (.ineg, 1)) (k : cr_Ev Y (pc + 1) lv (.inl (-x) :: st) M r) : cr_Ev Y pc lv (.inl x :: st) M r := by
  intro l D cI cZ ad A p e s m args below meth c C H locs ls hP hD hS hl
  obtain ⟨hx, hb, hr, hml, hown, hts, hlk, hK, hA⟩ := id C
  exact lv_ineg hx hb hd (k l D cI cZ ad A p e s m args below meth c C H locs ls hP hD hS hl)
theorem e_ladd {Y : cr_Y} {pc : Nat} {lv : List (Nat × cr_AV)} {st : List cr_AV} {M : cr_M} {r : Option cr_AV × cr_M} {x y : Int64} (hd : decode (cr_by Y) pc = .ok (.ladd, 1)) (k : cr_Ev Y (pc + 1) lv (.inr (.inl (x + y)) :: st) M r) : cr_Ev Y pc lv (.inr (.inl y) :: .inr (.inl x) :: st) M r := by
  intro l D cI cZ ad A p e s m args below meth c C H locs ls hP hD hS hl
  obtain ⟨hx, hb, hr, hml, hown, hts, hlk, hK, hA⟩ := id C
  exact lv_ladd hx hb hd (k l D cI cZ ad A p e s m args below meth c C H locs ls hP hD hS hl)
theorem e_lmul {Y : cr_Y} {pc : Nat} {lv : List (Nat × cr_AV)} {st : List cr_AV} {M : cr_M} {r : Option cr_AV × cr_M} {x y : Int64} (hd : decode (cr_by Y) pc = .ok (.lmul, 1)) (k : cr_Ev Y (pc + 1) lv (.inr (.inl (x * y)) :: st) M r) : cr_Ev Y pc lv (.inr (.inl y) :: .inr (.inl x) :: st) M r := by
  intro l D cI cZ ad A p e s m args below meth c C H locs ls hP hD hS hl
  obtain ⟨hx, hb, hr, hml, hown, hts, hlk, hK, hA⟩ := id C
  exact lv_lmul hx hb hd (k l D cI cZ ad A p e s m args below meth c C H locs ls hP hD hS hl)
theorem e_ldiv {Y : cr_Y} {pc : Nat} {lv : List (Nat × cr_AV)} {st : List cr_AV} {M : cr_M} {r : Option cr_AV × cr_M} {x y : Int64} (hd : decode (cr_by Y) pc = .ok (.ldiv, 1)) (hne : ¬ y = 0) (k : cr_Ev Y (pc + 1) lv (.inr (.inl (x / y)) :: st) M r) : cr_Ev Y pc lv (.inr (.inl y) :: .inr (.inl x) :: st) M r := by
  intro l D cI cZ ad A p e s m args below meth c C H locs ls hP hD hS hl
  obtain ⟨hx, hb, hr, hml, hown, hts, hlk, hK, hA⟩ := id C
  exact lv_ldiv hx hb hd hne (k l D cI cZ ad A p e s m args below meth c C H locs ls hP hD hS hl)
theorem e_lcmp {Y : cr_Y} {pc : Nat} {lv : List (Nat × cr_AV)} {st : List cr_AV} {M : cr_M} {r : Option cr_AV × cr_M} {x y : Int64} (hd : decode (cr_by Y) pc = .ok (.lcmp, 1)) (k : cr_Ev Y (pc + 1) lv (.inl (lg_cmp x y) :: st) M r) : cr_Ev Y pc lv (.inr (.inl y) :: .inr (.inl x) :: st) M r := by
  intro l D cI cZ ad A p e s m args below meth c C H locs ls hP hD hS hl
  obtain ⟨hx, hb, hr, hml, hown, hts, hlk, hK, hA⟩ := id C
  exact W.lcmp hx hb hd (k l D cI cZ ad A p e s m args below meth c C H locs ls hP hD hS hl)
theorem e_i2l {Y : cr_Y} {pc : Nat} {lv : List (Nat × cr_AV)} {st : List cr_AV} {M : cr_M} {r : Option cr_AV × cr_M} {x : Int32} (hd : decode (cr_by Y) pc = .ok (.i2l, 1)) (k : cr_Ev Y (pc + 1) lv (.inr (.inl x.toInt64) :: st) M r) : cr_Ev Y pc lv (.inl x :: st) M r := by
  intro l D cI cZ ad A p e s m args below meth c C H locs ls hP hD hS hl
  obtain ⟨hx, hb, hr, hml, hown, hts, hlk, hK, hA⟩ := id C
  exact lv_i2l hx hb hd rfl (k l D cI cZ ad A p e s m args below meth c C H locs ls hP hD hS hl)
theorem e_l2i {Y : cr_Y} {pc : Nat} {lv : List (Nat × cr_AV)} {st : List cr_AV} {M : cr_M} {r : Option cr_AV × cr_M} {x : Int64} (hd : decode (cr_by Y) pc = .ok (.l2i, 1)) (k : cr_Ev Y (pc + 1) lv (.inl x.toInt32 :: st) M r) : cr_Ev Y pc lv (.inr (.inl x) :: st) M r := by
  intro l D cI cZ ad A p e s m args below meth c C H locs ls hP hD hS hl
  obtain ⟨hx, hb, hr, hml, hown, hts, hlk, hK, hA⟩ := id C
  exact lv_l2i hx hb hd rfl (k l D cI cZ ad A p e s m args below meth c C H locs ls hP hD hS hl)
theorem e_dup_i {Y : cr_Y} {pc : Nat} {lv : List (Nat × cr_AV)} {st : List cr_AV} {M : cr_M} {r : Option cr_AV × cr_M} {x : Int32} (hd : decode (cr_by Y) pc = .ok (.dup, 1)) (k : cr_Ev Y (pc + 1) lv (.inl x :: .inl x :: st) M r) : cr_Ev Y pc lv (.inl x :: st) M r := by
  intro l D cI cZ ad A p e s m args below meth c C H locs ls hP hD hS hl
  obtain ⟨hx, hb, hr, hml, hown, hts, hlk, hK, hA⟩ := id C
  exact lv_dup hx hb hd rfl (k l D cI cZ ad A p e s m args below meth c C H locs ls hP hD hS hl)
theorem e_dup_a {Y : cr_Y} {pc : Nat} {lv : List (Nat × cr_AV)} {st : List cr_AV} {M : cr_M} {r : Option cr_AV × cr_M} {x : Nat} (hd : decode (cr_by Y) pc = .ok (.dup, 1)) (k : cr_Ev Y (pc + 1) lv (.inr (.inr x) :: .inr (.inr x) :: st) M r) : cr_Ev Y pc lv (.inr (.inr x) :: st) M r := by
  intro l D cI cZ ad A p e s m args below meth c C H locs ls hP hD hS hl
  obtain ⟨hx, hb, hr, hml, hown, hts, hlk, hK, hA⟩ := id C
  exact lv_dup hx hb hd rfl (k l D cI cZ ad A p e s m args below meth c C H locs ls hP hD hS hl)
theorem e_pop {Y : cr_Y} {pc : Nat} {lv : List (Nat × cr_AV)} {st : List cr_AV} {M : cr_M} {r : Option cr_AV × cr_M} {x : Int32} (hd : decode (cr_by Y) pc = .ok (.pop, 1)) (k : cr_Ev Y (pc + 1) lv (st) M r) : cr_Ev Y pc lv (.inl x :: st) M r := by
  intro l D cI cZ ad A p e s m args below meth c C H locs ls hP hD hS hl
  obtain ⟨hx, hb, hr, hml, hown, hts, hlk, hK, hA⟩ := id C
  exact lv_pop hx hb hd rfl (k l D cI cZ ad A p e s m args below meth c C H locs ls hP hD hS hl)
theorem e_dup_x1 {Y : cr_Y} {pc : Nat} {lv : List (Nat × cr_AV)} {st : List cr_AV} {M : cr_M} {r : Option cr_AV × cr_M} {x : Int32} {y : Nat} (hd : decode (cr_by Y) pc = .ok (.dup_x1, 1)) (k : cr_Ev Y (pc + 1) lv (.inl x :: .inr (.inr y) :: .inl x :: st) M r) : cr_Ev Y pc lv (.inl x :: .inr (.inr y) :: st) M r := by
  intro l D cI cZ ad A p e s m args below meth c C H locs ls hP hD hS hl
  obtain ⟨hx, hb, hr, hml, hown, hts, hlk, hK, hA⟩ := id C
  exact lv_dup_x1 hx hb hd rfl rfl (k l D cI cZ ad A p e s m args below meth c C H locs ls hP hD hS hl)
theorem e_dup2 {Y : cr_Y} {pc : Nat} {lv : List (Nat × cr_AV)} {st : List cr_AV} {M : cr_M} {r : Option cr_AV × cr_M} {x : Int32} {y : Nat} (hd : decode (cr_by Y) pc = .ok (.dup2, 1)) (k : cr_Ev Y (pc + 1) lv (.inl x :: .inr (.inr y) :: .inl x :: .inr (.inr y) :: st) M r) : cr_Ev Y pc lv (.inl x :: .inr (.inr y) :: st) M r := by
  intro l D cI cZ ad A p e s m args below meth c C H locs ls hP hD hS hl
  obtain ⟨hx, hb, hr, hml, hown, hts, hlk, hK, hA⟩ := id C
  exact lv_dup2_11 hx hb hd rfl rfl (k l D cI cZ ad A p e s m args below meth c C H locs ls hP hD hS hl)
theorem e_if_eq {Y : cr_Y} {pc : Nat} {lv : List (Nat × cr_AV)} {st : List cr_AV} {M : cr_M} {r : Option cr_AV × cr_M} {x : Int32} {off : Int} {tgt : Nat} (hd : decode (cr_by Y) pc = .ok (.ifCond .eq off, 3)) (ht : (pc : Int) + off = (tgt : Int)) (kt : x = 0 → cr_Ev Y tgt lv st M r) (kf : ¬ x = 0 → cr_Ev Y (pc + 3) lv st M r) : cr_Ev Y pc lv (.inl x :: st) M r := by
  intro l D cI cZ ad A p e s m args below meth c C H locs ls hP hD hS hl
  obtain ⟨hx, hb, hr, hml, hown, hts, hlk, hK, hA⟩ := id C
  exact lv_if_eq hx hb hd ht (fun hc => kt hc l D cI cZ ad A p e s m args below meth c C H locs ls hP hD hS hl) (fun hc => kf hc l D cI cZ ad A p e s m args below meth c C H locs ls hP hD hS hl)
theorem e_icmp_eq {Y : cr_Y} {pc : Nat} {lv : List (Nat × cr_AV)} {st : List cr_AV} {M : cr_M} {r : Option cr_AV × cr_M} {x y : Int32} {off : Int} {tgt : Nat} (hd : decode (cr_by Y) pc = .ok (.if_icmp .eq off, 3)) (ht : (pc : Int) + off = (tgt : Int)) (kt : x = y → cr_Ev Y tgt lv st M r) (kf : ¬ x = y → cr_Ev Y (pc + 3) lv st M r) : cr_Ev Y pc lv (.inl y :: .inl x :: st) M r := by
  intro l D cI cZ ad A p e s m args below meth c C H locs ls hP hD hS hl
  obtain ⟨hx, hb, hr, hml, hown, hts, hlk, hK, hA⟩ := id C
  exact lv_icmp_eq hx hb hd ht (fun hc => kt hc l D cI cZ ad A p e s m args below meth c C H locs ls hP hD hS hl) (fun hc => kf hc l D cI cZ ad A p e s m args below meth c C H locs ls hP hD hS hl)
theorem e_if_ne {Y : cr_Y} {pc : Nat} {lv : List (Nat × cr_AV)} {st : List cr_AV} {M : cr_M} {r : Option cr_AV × cr_M} {x : Int32} {off : Int} {tgt : Nat} (hd : decode (cr_by Y) pc = .ok (.ifCond .ne off, 3)) (ht : (pc : Int) + off = (tgt : Int)) (kt : ¬ x = 0 → cr_Ev Y tgt lv st M r) (kf : x = 0 → cr_Ev Y (pc + 3) lv st M r) : cr_Ev Y pc lv (.inl x :: st) M r := by
  intro l D cI cZ ad A p e s m args below meth c C H locs ls hP hD hS hl
  obtain ⟨hx, hb, hr, hml, hown, hts, hlk, hK, hA⟩ := id C
  exact lv_if_ne hx hb hd ht (fun hc => kt hc l D cI cZ ad A p e s m args below meth c C H locs ls hP hD hS hl) (fun hc => kf hc l D cI cZ ad A p e s m args below meth c C H locs ls hP hD hS hl)
theorem e_icmp_ne {Y : cr_Y} {pc : Nat} {lv : List (Nat × cr_AV)} {st : List cr_AV} {M : cr_M} {r : Option cr_AV × cr_M} {x y : Int32} {off : Int} {tgt : Nat} (hd : decode (cr_by Y) pc = .ok (.if_icmp .ne off, 3)) (ht : (pc : Int) + off = (tgt : Int)) (kt : ¬ x = y → cr_Ev Y tgt lv st M r) (kf : x = y → cr_Ev Y (pc + 3) lv st M r) : cr_Ev Y pc lv (.inl y :: .inl x :: st) M r := by
  intro l D cI cZ ad A p e s m args below meth c C H locs ls hP hD hS hl
  obtain ⟨hx, hb, hr, hml, hown, hts, hlk, hK, hA⟩ := id C
  exact lv_icmp_ne hx hb hd ht (fun hc => kt hc l D cI cZ ad A p e s m args below meth c C H locs ls hP hD hS hl) (fun hc => kf hc l D cI cZ ad A p e s m args below meth c C H locs ls hP hD hS hl)
theorem e_if_lt {Y : cr_Y} {pc : Nat} {lv : List (Nat × cr_AV)} {st : List cr_AV} {M : cr_M} {r : Option cr_AV × cr_M} {x : Int32} {off : Int} {tgt : Nat} (hd : decode (cr_by Y) pc = .ok (.ifCond .lt off, 3)) (ht : (pc : Int) + off = (tgt : Int)) (kt : x < 0 → cr_Ev Y tgt lv st M r) (kf : ¬ x < 0 → cr_Ev Y (pc + 3) lv st M r) : cr_Ev Y pc lv (.inl x :: st) M r := by
  intro l D cI cZ ad A p e s m args below meth c C H locs ls hP hD hS hl
  obtain ⟨hx, hb, hr, hml, hown, hts, hlk, hK, hA⟩ := id C
  exact lv_if_lt hx hb hd ht (fun hc => kt hc l D cI cZ ad A p e s m args below meth c C H locs ls hP hD hS hl) (fun hc => kf hc l D cI cZ ad A p e s m args below meth c C H locs ls hP hD hS hl)
theorem e_icmp_lt {Y : cr_Y} {pc : Nat} {lv : List (Nat × cr_AV)} {st : List cr_AV} {M : cr_M} {r : Option cr_AV × cr_M} {x y : Int32} {off : Int} {tgt : Nat} (hd : decode (cr_by Y) pc = .ok (.if_icmp .lt off, 3)) (ht : (pc : Int) + off = (tgt : Int)) (kt : x < y → cr_Ev Y tgt lv st M r) (kf : ¬ x < y → cr_Ev Y (pc + 3) lv st M r) : cr_Ev Y pc lv (.inl y :: .inl x :: st) M r := by
  intro l D cI cZ ad A p e s m args below meth c C H locs ls hP hD hS hl
  obtain ⟨hx, hb, hr, hml, hown, hts, hlk, hK, hA⟩ := id C
  exact lv_icmp_lt hx hb hd ht (fun hc => kt hc l D cI cZ ad A p e s m args below meth c C H locs ls hP hD hS hl) (fun hc => kf hc l D cI cZ ad A p e s m args below meth c C H locs ls hP hD hS hl)
theorem e_if_ge {Y : cr_Y} {pc : Nat} {lv : List (Nat × cr_AV)} {st : List cr_AV} {M : cr_M} {r : Option cr_AV × cr_M} {x : Int32} {off : Int} {tgt : Nat} (hd : decode (cr_by Y) pc = .ok (.ifCond .ge off, 3)) (ht : (pc : Int) + off = (tgt : Int)) (kt : 0 ≤ x → cr_Ev Y tgt lv st M r) (kf : ¬ 0 ≤ x → cr_Ev Y (pc + 3) lv st M r) : cr_Ev Y pc lv (.inl x :: st) M r := by
  intro l D cI cZ ad A p e s m args below meth c C H locs ls hP hD hS hl
  obtain ⟨hx, hb, hr, hml, hown, hts, hlk, hK, hA⟩ := id C
  exact lv_if_ge hx hb hd ht (fun hc => kt hc l D cI cZ ad A p e s m args below meth c C H locs ls hP hD hS hl) (fun hc => kf hc l D cI cZ ad A p e s m args below meth c C H locs ls hP hD hS hl)
theorem e_icmp_ge {Y : cr_Y} {pc : Nat} {lv : List (Nat × cr_AV)} {st : List cr_AV} {M : cr_M} {r : Option cr_AV × cr_M} {x y : Int32} {off : Int} {tgt : Nat} (hd : decode (cr_by Y) pc = .ok (.if_icmp .ge off, 3)) (ht : (pc : Int) + off = (tgt : Int)) (kt : y ≤ x → cr_Ev Y tgt lv st M r) (kf : ¬ y ≤ x → cr_Ev Y (pc + 3) lv st M r) : cr_Ev Y pc lv (.inl y :: .inl x :: st) M r := by
  intro l D cI cZ ad A p e s m args below meth c C H locs ls hP hD hS hl
  obtain ⟨hx, hb, hr, hml, hown, hts, hlk, hK, hA⟩ := id C
  exact lv_icmp_ge hx hb hd ht (fun hc => kt hc l D cI cZ ad A p e s m args below meth c C H locs ls hP hD hS hl) (fun hc => kf hc l D cI cZ ad A p e s m args below meth c C H locs ls hP hD hS hl)
theorem e_if_gt {Y : cr_Y} {pc : Nat} {lv : List (Nat × cr_AV)} {st : List cr_AV} {M : cr_M} {r : Option cr_AV × cr_M} {x : Int32} {off : Int} {tgt : Nat} (hd : decode (cr_by Y) pc = .ok (.ifCond .gt off, 3)) (ht : (pc : Int) + off = (tgt : Int)) (kt : 0 < x → cr_Ev Y tgt lv st M r) (kf : ¬ 0 < x → cr_Ev Y (pc + 3) lv st M r) : cr_Ev Y pc lv (.inl x :: st) M r := by
  intro l D cI cZ ad A p e s m args below meth c C H locs ls hP hD hS hl
  obtain ⟨hx, hb, hr, hml, hown, hts, hlk, hK, hA⟩ := id C
  exact lv_if_gt hx hb hd ht (fun hc => kt hc l D cI cZ ad A p e s m args below meth c C H locs ls hP hD hS hl) (fun hc => kf hc l D cI cZ ad A p e s m args below meth c C H locs ls hP hD hS hl)
theorem e_icmp_gt {Y : cr_Y} {pc : Nat} {lv : List (Nat × cr_AV)} {st : List cr_AV} {M : cr_M} {r : Option cr_AV × cr_M} {x y : Int32} {off : Int} {tgt : Nat} (hd : decode (cr_by Y) pc = .ok (.if_icmp .gt off, 3)) (ht : (pc : Int) + off = (tgt : Int)) (kt : y < x → cr_Ev Y tgt lv st M r) (kf : ¬ y < x → cr_Ev Y (pc + 3) lv st M r) : cr_Ev Y pc lv (.inl y :: .inl x :: st) M r := by
  intro l D cI cZ ad A p e s m args below meth c C H locs ls hP hD hS hl
  obtain ⟨hx, hb, hr, hml, hown, hts, hlk, hK, hA⟩ := id C
  exact lv_icmp_gt hx hb hd ht (fun hc => kt hc l D cI cZ ad A p e s m args below meth c C H locs ls hP hD hS hl) (fun hc => kf hc l D cI cZ ad A p e s m args below meth c C H locs ls hP hD hS hl)
theorem e_if_le {Y : cr_Y} {pc : Nat} {lv : List (Nat × cr_AV)} {st : List cr_AV} {M : cr_M} {r : Option cr_AV × cr_M} {x : Int32} {off : Int} {tgt : Nat} (hd : decode (cr_by Y) pc = .ok (.ifCond .le off, 3)) (ht : (pc : Int) + off = (tgt : Int)) (kt : x ≤ 0 → cr_Ev Y tgt lv st M r) (kf : ¬ x ≤ 0 → cr_Ev Y (pc + 3) lv st M r) : cr_Ev Y pc lv (.inl x :: st) M r := by
  intro l D cI cZ ad A p e s m args below meth c C H locs ls hP hD hS hl
  obtain ⟨hx, hb, hr, hml, hown, hts, hlk, hK, hA⟩ := id C
  exact lv_if_le hx hb hd ht (fun hc => kt hc l D cI cZ ad A p e s m args below meth c C H locs ls hP hD hS hl) (fun hc => kf hc l D cI cZ ad A p e s m args below meth c C H locs ls hP hD hS hl)
theorem e_icmp_le {Y : cr_Y} {pc : Nat} {lv : List (Nat × cr_AV)} {st : List cr_AV} {M : cr_M} {r : Option cr_AV × cr_M} {x y : Int32} {off : Int} {tgt : Nat} (hd : decode (cr_by Y) pc = .ok (.if_icmp .le off, 3)) (ht : (pc : Int) + off = (tgt : Int)) (kt : x ≤ y → cr_Ev Y tgt lv st M r) (kf : ¬ x ≤ y → cr_Ev Y (pc + 3) lv st M r) : cr_Ev Y pc lv (.inl y :: .inl x :: st) M r := by
  intro l D cI cZ ad A p e s m args below meth c C H locs ls hP hD hS hl
  obtain ⟨hx, hb, hr, hml, hown, hts, hlk, hK, hA⟩ := id C
  exact lv_icmp_le hx hb hd ht (fun hc => kt hc l D cI cZ ad A p e s m args below meth c C H locs ls hP hD hS hl) (fun hc => kf hc l D cI cZ ad A p e s m args below meth c C H locs ls hP hD hS hl)
theorem e_goto {Y : cr_Y} {pc : Nat} {lv : List (Nat × cr_AV)} {st : List cr_AV} {M : cr_M} {r : Option cr_AV × cr_M} {off : Int} {tgt : Nat} (hd : decode (cr_by Y) pc = .ok (.goto off, 3)) (ht : (pc : Int) + off = (tgt : Int)) (k : cr_Ev Y tgt lv st M r) : cr_Ev Y pc lv st M r := by
  intro l D cI cZ ad A p e s m args below meth c C H locs ls hP hD hS hl
  obtain ⟨hx, hb, hr, hml, hown, hts, hlk, hK, hA⟩ := id C
  exact lv_goto hx hb hd ht (k l D cI cZ ad A p e s m args below meth c C H locs ls hP hD hS hl)
theorem e_tswO {Y : cr_Y} {pc : Nat} {lv : List (Nat × cr_AV)} {st : List cr_AV} {M : cr_M} {r : Option cr_AV × cr_M} {dflt lo hi : Int} {offs : Array Int} {len : Nat} {x : Int32} {tgt : Nat} (hd : decode (cr_by Y) pc = .ok (.tableswitch dflt lo hi offs, len)) (h : x.toInt < lo ∨ hi < x.toInt) (ht : (pc : Int) + dflt = (tgt : Int)) (k : cr_Ev Y tgt lv st M r) : cr_Ev Y pc lv (.inl x :: st) M r := by
  intro l D cI cZ ad A p e s m args below meth c C H locs ls hP hD hS hl
  obtain ⟨hx, hb, hr, hml, hown, hts, hlk, hK, hA⟩ := id C
  exact lv_tableOut hx hb hd h ht (k l D cI cZ ad A p e s m args below meth c C H locs ls hP hD hS hl)
theorem e_tswI {Y : cr_Y} {pc : Nat} {lv : List (Nat × cr_AV)} {st : List cr_AV} {M : cr_M} {r : Option cr_AV × cr_M} {dflt lo hi : Int} {offs : Array Int} {len : Nat} {x : Int32} {off : Int} {tgt : Nat} (v : Int32) (hv : x = v) (hd : decode (cr_by Y) pc = .ok (.tableswitch dflt lo hi offs, len)) (h1 : ¬ v.toInt < lo) (h2 : ¬ hi < v.toInt) (ho : offs[(v.toInt - lo).toNat]? = some off) (ht : (pc : Int) + off = (tgt : Int)) (k : cr_Ev Y tgt lv st M r) : cr_Ev Y pc lv (.inl x :: st) M r := by
  intro l D cI cZ ad A p e s m args below meth c C H locs ls hP hD hS hl
  obtain ⟨hx, hb, hr, hml, hown, hts, hlk, hK, hA⟩ := id C
  subst hv
  exact lv_tableIn hx hb hd h1 h2 ho ht (k l D cI cZ ad A p e s m args below meth c C H locs ls hP hD hS hl)
/-- the field at place i of own's pool: field j of class number ci -/
def cr_fl (own : String) (i ci j : Nat) : Prop := ∃ (C : String) (T : u_T) (N : Nat), cr_cl[ci]? = some (C, T, N) ∧ (∀ w ∈ u_ws C T N, w ∈ cr_tb) ∧ j < N ∧ Cond.fieldLink own i (T j).1 (T j).2.1 (T j).2.2.1 ∈ cr_tb
/-- an int field that may be put -/
def cr_fp (ci j : Nat) : Prop := ∀ (C : String) (T : u_T) (N : Nat), cr_cl[ci]? = some (C, T, N) → (∃ ty0 : Nat → FieldType, ∀ k, k < N → parseFieldDescriptor (T k).2.2.1 = some (ty0 k)) ∧ (∀ a, a < N → ∀ b, b < N → a ≠ b → (T a).2.1 ≠ (T b).2.1) ∧ (T j).2.2.2 = false ∧ parseFieldDescriptor (T j).2.2.1 = some .int
theorem e_getI {Y : cr_Y} {pc : Nat} {lv : List (Nat × cr_AV)} {st : List cr_AV} {M : cr_M} {r : Option cr_AV × cr_M} {i ci j q : Nat} {fs : List (Option Nat)} (hd : decode (cr_by Y) pc = .ok (.getfield i, 3)) (hf : cr_fl (cr_nm Y).cls i ci j) (hsh : (cr_sh Y)[q]? = some (.inl (ci, fs))) (hj : fs[j]? = some none) (k : cr_Ev Y (pc + 3) lv (.inl (M q j) :: st) M r) : cr_Ev Y pc lv (.inr (.inr q) :: st) M r := by
  intro l D cI cZ ad A p e s m args below meth c C H locs ls hP hD hS hl
  obtain ⟨hx, hb, hr, hml, hown, hts, hlk, hK, hA⟩ := id C
  obtain ⟨C', T, N, hc, hin, hjN, hlink⟩ := hf
  exact va_get (D := D) (ci := ci) (v := .int (M q j)) (C := C') (T := T) (N := N) hx hb hts hin hown hK hP q (cr_wl_get0 hsh) hc j hjN (hts _ hlink) (fun _ h => h) (by rw [cr_fs_get, hj]; simp [cr_fv]) hd (k l D cI cZ ad A p e s m args below meth c C H locs ls hP hD hS hl)
theorem e_getA {Y : cr_Y} {pc : Nat} {lv : List (Nat × cr_AV)} {st : List cr_AV} {M : cr_M} {r : Option cr_AV × cr_M} {i ci j q a : Nat} {fs : List (Option Nat)} (hd : decode (cr_by Y) pc = .ok (.getfield i, 3)) (hf : cr_fl (cr_nm Y).cls i ci j) (hsh : (cr_sh Y)[q]? = some (.inl (ci, fs))) (hj : fs[j]? = some (some a)) (k : cr_Ev Y (pc + 3) lv (.inr (.inr a) :: st) M r) : cr_Ev Y pc lv (.inr (.inr q) :: st) M r := by
  intro l D cI cZ ad A p e s m args below meth c C H locs ls hP hD hS hl
  obtain ⟨hx, hb, hr, hml, hown, hts, hlk, hK, hA⟩ := id C
  obtain ⟨C', T, N, hc, hin, hjN, hlink⟩ := hf
  exact va_get (D := D) (ci := ci) (v := .ref (ad a)) (C := C') (T := T) (N := N) hx hb hts hin hown hK hP q (cr_wl_get0 hsh) hc j hjN (hts _ hlink) (fun _ h => h) (by rw [cr_fs_get, hj]; simp [cr_fv]) hd (k l D cI cZ ad A p e s m args below meth c C H locs ls hP hD hS hl)
theorem e_put {Y : cr_Y} {pc : Nat} {lv : List (Nat × cr_AV)} {st : List cr_AV} {M : cr_M} {r : Option cr_AV × cr_M} {i ci j q : Nat} {x : Int32} {fs : List (Option Nat)} (hd : decode (cr_by Y) pc = .ok (.putfield i, 3)) (hf : cr_fl (cr_nm Y).cls i ci j) (hp : cr_fp ci j) (hsh : (cr_sh Y)[q]? = some (.inl (ci, fs))) (hj : fs[j]? = some none) (k : cr_Ev Y (pc + 3) lv st (cr_up M q j x) r) : cr_Ev Y pc lv (.inl x :: .inr (.inr q) :: st) M r := by
  intro l D cI cZ ad A p e s m args below meth c C H locs ls hP hD hS hl
  obtain ⟨hx, hb, hr, hml, hown, hts, hlk, hK, hA⟩ := id C
  obtain ⟨C', T, N, hc, hin, hjN, hlink⟩ := hf
  obtain ⟨⟨ty0, hty⟩, hnm, hfin, hpd⟩ := hp C' T N hc
  have hlen : j < (cr_fs ad (M q) 0 fs).length := by
    have h2 : (cr_fs ad (M q) 0 fs)[j]? = some (cr_fv ad (M q) (0 + j) none) := by rw [cr_fs_get, hj]; rfl
    exact (List.getElem?_eq_some_iff.mp h2).1
  refine va_put (D := D) (ci := ci) (v := .int x) (ty := .int) (C := C') (T := T) (N := N) hx hb hts hin ty0 hty hnm hown hK hP hD hS q (cr_wl_get0 hsh) hc j hjN (hts _ hlink) (fun _ h => h) hfin hpd rfl rfl hlen hd (fun H1 locs1 hP1 hD1 hS1 => ?_)
  have he : (cr_wl cI cZ ad M 0 (cr_sh Y)).set q (ad q, .inr (ci, (cr_fs ad (M q) 0 fs).set j (.int x))) = cr_wl cI cZ ad (cr_up M q j x) 0 (cr_sh Y) := by
    rw [cr_fs_set hj]
    exact cr_wl_set hsh (upd (M q) j x)
  rw [he] at hP1 hD1
  exact k l D cI cZ ad A p e s m args below meth c C H1 locs1 ls hP1 hD1 hS1 hl
theorem e_iald {Y : cr_Y} {pc : Nat} {lv : List (Nat × cr_AV)} {st : List cr_AV} {M : cr_M} {r : Option cr_AV × cr_M} {n q : Nat} {i : Int32} (hd : decode (cr_by Y) pc = .ok (.iaload, 1)) (hsh : (cr_sh Y)[q]? = some (.inr (n, false))) (hi : vp_in i n) (k : cr_Ev Y (pc + 1) lv (.inl (M q i.toNatClampNeg) :: st) M r) : cr_Ev Y pc lv (.inl i :: .inr (.inr q) :: st) M r := by
  intro l D cI cZ ad A p e s m args below meth c C H locs ls hP hD hS hl
  obtain ⟨hx, hb, hr, hml, hown, hts, hlk, hK, hA⟩ := id C
  exact va_iald hx hb hK hP q 0 (cr_wl_get0 hsh) rfl hi hd (k l D cI cZ ad A p e s m args below meth c C H locs ls hP hD hS hl)
theorem e_zald {Y : cr_Y} {pc : Nat} {lv : List (Nat × cr_AV)} {st : List cr_AV} {M : cr_M} {r : Option cr_AV × cr_M} {n q : Nat} {i : Int32} (hd : decode (cr_by Y) pc = .ok (.baload, 1)) (hsh : (cr_sh Y)[q]? = some (.inr (n, true))) (hi : vp_in i n) (k : cr_Ev Y (pc + 1) lv (.inl (M q i.toNatClampNeg) :: st) M r) : cr_Ev Y pc lv (.inl i :: .inr (.inr q) :: st) M r := by
  intro l D cI cZ ad A p e s m args below meth c C H locs ls hP hD hS hl
  obtain ⟨hx, hb, hr, hml, hown, hts, hlk, hK, hA⟩ := id C
  exact va_zald hx hb hK hP q 1 (cr_wl_get0 hsh) rfl hi hd (k l D cI cZ ad A p e s m args below meth c C H locs ls hP hD hS hl)
theorem e_iast {Y : cr_Y} {pc : Nat} {lv : List (Nat × cr_AV)} {st : List cr_AV} {M : cr_M} {r : Option cr_AV × cr_M} {n q : Nat} {i x : Int32} (hd : decode (cr_by Y) pc = .ok (.iastore, 1)) (hsh : (cr_sh Y)[q]? = some (.inr (n, false))) (hi : vp_in i n) (k : cr_Ev Y (pc + 1) lv st (cr_up M q i.toNatClampNeg x) r) : cr_Ev Y pc lv (.inl x :: .inl i :: .inr (.inr q) :: st) M r := by
  intro l D cI cZ ad A p e s m args below meth c C H locs ls hP hD hS hl
  obtain ⟨hx, hb, hr, hml, hown, hts, hlk, hK, hA⟩ := id C
  refine va_iast hx hb hK hP hD hS q 0 (cr_wl_get0 hsh) rfl hi hd (fun H1 locs1 hP1 hD1 hS1 => ?_)
  have he : (cr_wl cI cZ ad M 0 (cr_sh Y)).set q (ad q, .inl (cr_ca cI cZ false, n, .inl (upd (M q) i.toNatClampNeg x))) = cr_wl cI cZ ad (cr_up M q i.toNatClampNeg x) 0 (cr_sh Y) := cr_wl_set hsh (upd (M q) i.toNatClampNeg x)
  have hP2 : va_P D cr_cl ((cr_wl cI cZ ad M 0 (cr_sh Y)).set q (ad q, .inl (cr_ca cI cZ false, n, .inl (upd (M q) i.toNatClampNeg x)))) H1 := hP1
  have hD2 : va_D A ((cr_wl cI cZ ad M 0 (cr_sh Y)).set q (ad q, .inl (cr_ca cI cZ false, n, .inl (upd (M q) i.toNatClampNeg x)))) := hD1
  rw [he] at hP2 hD2
  exact k l D cI cZ ad A p e s m args below meth c C H1 locs1 ls hP2 hD2 hS1 hl
theorem e_zast {Y : cr_Y} {pc : Nat} {lv : List (Nat × cr_AV)} {st : List cr_AV} {M : cr_M} {r : Option cr_AV × cr_M} {n q : Nat} {i x : Int32} (hd : decode (cr_by Y) pc = .ok (.bastore, 1)) (hsh : (cr_sh Y)[q]? = some (.inr (n, true))) (hi : vp_in i n) (k : cr_Ev Y (pc + 1) lv st (cr_up M q i.toNatClampNeg (vp_nar .boolean x)) r) : cr_Ev Y pc lv (.inl x :: .inl i :: .inr (.inr q) :: st) M r := by
  intro l D cI cZ ad A p e s m args below meth c C H locs ls hP hD hS hl
  obtain ⟨hx, hb, hr, hml, hown, hts, hlk, hK, hA⟩ := id C
  refine va_zast hx hb hK hP hD hS q 1 (cr_wl_get0 hsh) rfl hi hd (fun H1 locs1 hP1 hD1 hS1 => ?_)
  have he : (cr_wl cI cZ ad M 0 (cr_sh Y)).set q (ad q, .inl (cr_ca cI cZ true, n, .inl (upd (M q) i.toNatClampNeg (vp_nar .boolean x)))) = cr_wl cI cZ ad (cr_up M q i.toNatClampNeg (vp_nar .boolean x)) 0 (cr_sh Y) := cr_wl_set hsh (upd (M q) i.toNatClampNeg (vp_nar .boolean x))
  have hP2 : va_P D cr_cl ((cr_wl cI cZ ad M 0 (cr_sh Y)).set q (ad q, .inl (cr_ca cI cZ true, n, .inl (upd (M q) i.toNatClampNeg (vp_nar .boolean x))))) H1 := hP1
  have hD2 : va_D A ((cr_wl cI cZ ad M 0 (cr_sh Y)).set q (ad q, .inl (cr_ca cI cZ true, n, .inl (upd (M q) i.toNatClampNeg (vp_nar .boolean x))))) := hD1
  rw [he] at hP2 hD2
  exact k l D cI cZ ad A p e s m args below meth c C H1 locs1 ls hP2 hD2 hS1 hl
theorem e_acopy {Y : cr_Y} {pc : Nat} {lv : List (Nat × cr_AV)} {st : List cr_AV} {M : cr_M} {r : Option cr_AV × cr_M} {i n0 n1 q0 q1 : Nat} {n sp dp : Int32} (hd : decode (cr_by Y) pc = .ok (.invokestatic i, 3)) (hw : Cond.methodLink (cr_nm Y).cls i arraycopyName ∈ cr_tb ∧ Cond.native arraycopyName ∈ cr_tb ∧ Cond.static arraycopyName ∈ cr_tb ∧ Cond.initialized "java/lang/System" ∈ cr_tb) (hr1 : 1 ≤ cr_fr Y) (hr2 : (st.map (fun v => match v with | .inr (.inl _) => 2 | _ => 1)).sum + (nativeFrameWords "java/lang/System" "arraycopy" 5 + 11) ≤ cr_lo Y) (hs0 : (cr_sh Y)[q0]? = some (.inr (n0, false))) (hs1 : (cr_sh Y)[q1]? = some (.inr (n1, false))) (h1 : ¬ sp < 0) (h2 : ¬ dp < 0) (h3 : ¬ n < 0) (h4 : sp.toNatClampNeg + n.toNatClampNeg ≤ n0) (h5 : dp.toNatClampNeg + n.toNatClampNeg ≤ n1) (k : cr_Ev Y (pc + 3) lv st (va_up M q1 (va_cpy (M q0) (M q1) sp.toNatClampNeg dp.toNatClampNeg n.toNatClampNeg)) r) : cr_Ev Y pc lv (.inl n :: .inl dp :: .inr (.inr q1) :: .inl sp :: .inr (.inr q0) :: st) M r := by
  intro l D cI cZ ad A p e s m args below meth c C H locs ls hP hD hS hl
  obtain ⟨hx, hb, hr, hml, hown, hts, hlk, hK, hA⟩ := id C
  obtain ⟨w1, w2, w3, w4⟩ := hw
  have hz : ((st.map (cr_tv ad)).map fun v => v.category).sum = (st.map (fun v : cr_AV => match v with | .inr (.inl _) => 2 | _ => 1)).sum := by
    rw [List.map_map]; congr 1; apply List.map_congr_left; intro v _; exact cr_cat
  refine va_copyi (ty := .int) (sp := sp) (dp := dp) (n := n) hx hb (hml.trans hl.1.symm) hown (hts _ w1) (hts _ w2) (hts _ w3) (hts _ w4) hK hP hD hS q0 q1 0 0 (cr_wl_get0 hs0) (cr_wl_get0 hs1) rfl rfl rfl h1 h2 h3 h4 h5 (fun _ _ => rfl) hr1 (by rw [hz]; exact hr2) hd (fun H1 locs1 hP1 hD1 hS1 => ?_)
  have he := cr_wl_set (cI := cI) (cZ := cZ) (ad := ad) (M := M) hs1 (va_cpy (M q0) (M q1) sp.toNatClampNeg dp.toNatClampNeg n.toNatClampNeg)
  have hP2 : va_P D cr_cl ((cr_wl cI cZ ad M 0 (cr_sh Y)).set q1 (ad q1, cr_en cI cZ ad (va_cpy (M q0) (M q1) sp.toNatClampNeg dp.toNatClampNeg n.toNatClampNeg) (.inr (n1, false)))) H1 := hP1
  have hD2 : va_D A ((cr_wl cI cZ ad M 0 (cr_sh Y)).set q1 (ad q1, cr_en cI cZ ad (va_cpy (M q0) (M q1) sp.toNatClampNeg dp.toNatClampNeg n.toNatClampNeg) (.inr (n1, false)))) := hD1
  rw [he] at hP2 hD2
  exact k l D cI cZ ad A p e s m args below meth c C H1 locs1 ls hP2 hD2 hS1 hl
theorem e_iret {Y : cr_Y} {pc : Nat} {lv : List (Nat × cr_AV)} {st : List cr_AV} {M : cr_M} {r : Option cr_AV × cr_M} {v : Int32} (hd : decode (cr_by Y) pc = .ok (.ireturn, 1)) (hrt : cr_rt Y = some .int) (he : r = (some (.inl v), M)) : cr_Ev Y pc lv [.inl v] M r := by
  intro l D cI cZ ad A p e s m args below meth c C H locs ls hP hD hS hl
  obtain ⟨hx, hb, hr, hml, hown, hts, hlk, hK, hA⟩ := id C
  subst he
  exact W.iret (v := v) hx hb (hr.trans hrt) (fun t ht hW => ⟨⟨v, (), rfl, rfl, by rw [ht]; exact hP, va_K.moved hW.alike hK, hD⟩, hS.F ht⟩) hS.2.2 hd
theorem e_zret {Y : cr_Y} {pc : Nat} {lv : List (Nat × cr_AV)} {st : List cr_AV} {M : cr_M} {r : Option cr_AV × cr_M} {v : Int32} (hd : decode (cr_by Y) pc = .ok (.ireturn, 1)) (hrt : cr_rt Y = some .boolean) (hz : v = 0 ∨ v = 1) (he : r = (some (.inl v), M)) : cr_Ev Y pc lv [.inl v] M r := by
  intro l D cI cZ ad A p e s m args below meth c C H locs ls hP hD hS hl
  obtain ⟨hx, hb, hr, hml, hown, hts, hlk, hK, hA⟩ := id C
  subst he
  exact W.zret (v := v) (ty := .boolean) hx hb (hr.trans hrt) (by rcases hz with rfl | rfl <;> rfl) (fun t ht hW => ⟨⟨v, (), rfl, rfl, by rw [ht]; exact hP, va_K.moved hW.alike hK, hD⟩, hS.F ht⟩) hS.2.2 hd
theorem e_lret {Y : cr_Y} {pc : Nat} {lv : List (Nat × cr_AV)} {st : List cr_AV} {M : cr_M} {r : Option cr_AV × cr_M} {v : Int64} (hd : decode (cr_by Y) pc = .ok (.lreturn, 1)) (hrt : cr_rt Y = some .long) (he : r = (some (.inr (.inl v)), M)) : cr_Ev Y pc lv [.inr (.inl v)] M r := by
  intro l D cI cZ ad A p e s m args below meth c C H locs ls hP hD hS hl
  obtain ⟨hx, hb, hr, hml, hown, hts, hlk, hK, hA⟩ := id C
  subst he
  exact W.lret (v := v) hx hb (hr.trans hrt) (fun t ht hW => ⟨⟨v, (), rfl, rfl, by rw [ht]; exact hP, va_K.moved hW.alike hK, hD⟩, hS.F ht⟩) hS.2.2 hd
theorem e_vret {Y : cr_Y} {pc : Nat} {lv : List (Nat × cr_AV)} {st : List cr_AV} {M : cr_M} {r : Option cr_AV × cr_M} (hd : decode (cr_by Y) pc = .ok (.return_, 1)) (hrt : cr_rt Y = none) (he : r = (none, M)) : cr_Ev Y pc lv [] M r := by
  intro l D cI cZ ad A p e s m args below meth c C H locs ls hP hD hS hl
  obtain ⟨hx, hb, hr, hml, hown, hts, hlk, hK, hA⟩ := id C
  subst he
  exact W.vret hx hb (hr.trans hrt) (fun t ht hW => ⟨⟨(), rfl, trivial, by rw [ht]; exact hP, va_K.moved hW.alike hK, hD⟩, hS.F ht⟩) hS.2.2 hd
def cr_sub : List (Nat × cr_AV) → List (Nat × cr_AV) → Prop
  | [], _ => True
  | q :: t, lv => cr_lk lv q.1 = some q.2 ∧ cr_sub t lv
theorem cr_sub_mem {lv' lv : List (Nat × cr_AV)} (h : cr_sub lv' lv) : ∀ q ∈ lv', q ∈ lv := by
  induction lv' with
  | nil => intro q hq; cases hq
  | cons a t ih =>
    intro q hq
    rcases List.mem_cons.mp hq with rfl | hq
    · exact cr_lk_mem h.1
    · exact ih h.2 q hq
/-- fewer locals are enough -/
theorem e_weak {Y : cr_Y} {pc : Nat} {lv : List (Nat × cr_AV)} {st : List cr_AV} {M : cr_M} {r : Option cr_AV × cr_M} (lv' : List (Nat × cr_AV)) (h : cr_sub lv' lv) (k : cr_Ev Y pc lv' st M r) : cr_Ev Y pc lv st M r := by
  intro l D cI cZ ad A p e s m args below meth c C H locs ls hP hD hS hl
  obtain ⟨hx, hb, hr, hml, hown, hts, hlk, hK, hA⟩ := id C
  refine k l D cI cZ ad A p e s m args below meth c C H locs ls hP hD hS ⟨hl.1, hl.2.1, fun q hq => hl.2.2 q ?_⟩
  obtain ⟨a, ha, rfl⟩ := List.mem_map.mp hq
  exact List.mem_map.mpr ⟨a, cr_sub_mem h a ha, rfl⟩
/-! contracts out of cr_Ev, and calls -/
def cr_al : Nat → List cr_AV → List (Nat × cr_AV)
  | _, [] => []
  | n, .inl x :: t => (n, .inl x) :: cr_al (n + 1) t
  | n, .inr (.inl x) :: t => (n, .inr (.inl x)) :: cr_al (n + 2) t
  | n, .inr (.inr x) :: t => (n, .inr (.inr x)) :: cr_al (n + 1) t
def cr_sz : List cr_AV → Nat
  | [] => 0
  | .inr (.inl _) :: t => 2 + cr_sz t
  | .inl _ :: t => 1 + cr_sz t
  | .inr (.inr _) :: t => 1 + cr_sz t
theorem cr_al_args (ad : Nat → Nat) (as : List cr_AV) : ∀ n, (cr_al n as).map (cr_tl ad) = lv_args n (as.map (cr_tv ad)) := by
  induction as with
  | nil => intro n; rfl
  | cons v t ih =>
    intro n
    rcases v with x | x | x <;> simp [cr_al, lv_args, cr_tl, cr_tv, Value.category, ih]
theorem cr_sz_len (ad : Nat → Nat) (as : List cr_AV) : (lg_sl (as.map (cr_tv ad))).length = cr_sz as := by
  induction as with
  | nil => rfl
  | cons v t ih =>
    unfold lg_sl at ih ⊢
    rcases v with x | x | x <;> simp [cr_sz, cr_tv, Value.category] at ih ⊢ <;> omega
def cr_EvM (Y : cr_Y) (as : List cr_AV) (M : cr_M) (r : Option cr_AV × cr_M) : Prop := cr_Ev Y 0 (cr_al 0 as) [] M r
abbrev cr_ws (Y : cr_Y) : List Cond := Cond.code (cr_nm Y) (cr_by Y) (cr_ml Y) (cr_rt Y) :: cr_tb
def cr_Pc (D : va_G) (cI cZ : ClassId) (ad : Nat → Nat) (sh : List cr_Shp) (as : List cr_AV) (M : cr_M) (sz : Nat) : Array Value → State → Prop :=
  va_Pc (as.map (cr_tv ad)) (fun U => U.heap.size = sz ∧ va_P D cr_cl (cr_wl cI cZ ad M 0 sh) U.heap ∧ va_K D cr_cl (cr_ty cI cZ) U ∧ va_D (fun _ => True) (cr_wl cI cZ ad M 0 sh))
theorem cr_met {Y : cr_Y} {as : List cr_AV} {M : cr_M} {r : Option cr_AV × cr_M} (hpl : plainName (cr_nm Y).cls = true) (hlen : cr_sz as ≤ cr_ml Y) (E : cr_EvM Y as M r) (l : Launch) (D : va_G) (cI cZ : ClassId) (ad : Nat → Nat) (sz : Nat) :
    Met l (cr_nm Y) (cr_ws Y) (cr_rm Y) (cr_Pc D cI cZ ad (cr_sh Y) as M sz) (cr_Q D cI cZ ad (va_A (cr_wl cI cZ ad M 0 (cr_sh Y)) sz) (cr_sh Y) r) 0 0 (va_A (cr_wl cI cZ ad M 0 (cr_sh Y)) sz) := by
  refine Met.ofW (cc := cr_by Y) (maxL := cr_ml Y) (ret := cr_rt Y) hpl rfl ?_
  intro p e s m args below meth c s₁ B hml hv
  obtain ⟨rfl, hsz, hP, hK, hD0⟩ := hv
  have hts := atoms_spec (ws := cr_ws Y) B.pre
  have hown : s.vm.findClass (cr_nm Y).cls = some m.cls := findClass_of_methodNamed B.named
  subst hsz
  have hD := hD0.self (sz := s.heap.size)
  have hA : ∀ q : Nat, s.heap.size ≤ q → va_A (cr_wl cI cZ ad M 0 (cr_sh Y)) s.heap.size q := fun q h => Or.inr h
  have hS : va_S (va_A (cr_wl cI cZ ad M 0 (cr_sh Y)) s.heap.size) s.heap s.heap [] := va_S.rf
  have hl := lv_entry (as.map (cr_tv ad)) (n := cr_ml Y) (by rw [cr_sz_len]; exact hlen)
  rw [← cr_al_args] at hl
  rw [lg_entry_eq]
  exact E l D cI cZ ad _ p e s m _ below meth c ⟨B.exec, B.bytes, B.returns, hml, hown, fun w h => hts w (List.mem_cons_of_mem _ h), B.notSynchronized, hK, hA⟩ s.heap [] _ hP hD hS hl
/-- a shape's references through a map of cells -/
def cr_rs (pl : Nat → Nat) (c : cr_Shp) : cr_Shp := match c with
  | .inl o => .inl (o.1, o.2.map (fun f => f.map pl))
  | .inr a => .inr a
theorem cr_fs_rs (ad pl : Nat → Nat) (row : Nat → Int32) (fs : List (Option Nat)) : ∀ j, cr_fs ad row j (fs.map (fun f => f.map pl)) = cr_fs (fun k => ad (pl k)) row j fs := by
  induction fs with
  | nil => intro j; rfl
  | cons f t ih => intro j; cases f <;> simp [cr_fs, cr_fv, ih]
theorem cr_en_rs (cI cZ : ClassId) (ad pl : Nat → Nat) (row : Nat → Int32) (c : cr_Shp) : cr_en cI cZ ad row (cr_rs pl c) = cr_en cI cZ (fun k => ad (pl k)) row c := by
  rcases c with o | a
  · simp [cr_en, cr_rs, cr_fs_rs]
  · rfl
def cr_rv (pl : Nat → Nat) (v : cr_AV) : cr_AV := match v with
  | .inl x => .inl x
  | .inr (.inl x) => .inr (.inl x)
  | .inr (.inr k) => .inr (.inr (pl k))
theorem cr_tv_rv (ad pl : Nat → Nat) (v : cr_AV) : cr_tv ad (cr_rv pl v) = cr_tv (fun k => ad (pl k)) v := by
  rcases v with x | x | x <;> rfl
/-- the callee's cells lie in the caller's world at the places that pl names -/
def cr_fit (Y Y' : cr_Y) (pl : Nat → Nat) : Prop := (∀ j c, (cr_sh Y')[j]? = some c → (cr_sh Y)[pl j]? = some (cr_rs pl c)) ∧ ∀ i j, i < (cr_sh Y').length → j < (cr_sh Y').length → pl i = pl j → i = j
theorem cr_sub_P {Y Y' : cr_Y} {pl : Nat → Nat} (hf : cr_fit Y Y' pl) {D : va_G} {cI cZ : ClassId} {ad : Nat → Nat} {M : cr_M} {H : Heap} (hP : va_P D cr_cl (cr_wl cI cZ ad M 0 (cr_sh Y)) H) : va_P D cr_cl (cr_wl cI cZ (fun k => ad (pl k)) (fun k => M (pl k)) 0 (cr_sh Y')) H := by
  intro k q hq
  obtain ⟨c, hc, rfl⟩ := cr_wl_inv hq
  have := hP (pl k) _ (cr_wl_get0 (hf.1 k c hc))
  rw [cr_en_rs] at this
  exact this
theorem cr_sub_D {Y Y' : cr_Y} {pl : Nat → Nat} (hf : cr_fit Y Y' pl) {cI cZ : ClassId} {ad : Nat → Nat} {M : cr_M} {A : Nat → Prop} (hD : va_D A (cr_wl cI cZ ad M 0 (cr_sh Y))) : va_D (fun _ => True) (cr_wl cI cZ (fun k => ad (pl k)) (fun k => M (pl k)) 0 (cr_sh Y')) := by
  refine ⟨fun i j p q hi hj hpq => ?_, fun _ _ _ => trivial⟩
  obtain ⟨c, hc, rfl⟩ := cr_wl_inv hi
  obtain ⟨d, hd, rfl⟩ := cr_wl_inv hj
  have h1 := hD.1 (pl i) (pl j) _ _ (cr_wl_get0 (hf.1 i c hc)) (cr_wl_get0 (hf.1 j d hd)) hpq
  exact hf.2 i j (List.getElem?_eq_some_iff.mp hc).1 (List.getElem?_eq_some_iff.mp hd).1 h1
/-- the callee's cells, and the rest, behind a call -/
theorem cr_join {Y Y' : cr_Y} {pl : Nat → Nat} (hf : cr_fit Y Y' pl) {D : va_G} {cI cZ : ClassId} {ad : Nat → Nat} {M M2 M' : cr_M} {A : Nat → Prop} {H H1 : Heap} (hP : va_P D cr_cl (cr_wl cI cZ ad M 0 (cr_sh Y)) H) (hD : va_D A (cr_wl cI cZ ad M 0 (cr_sh Y)))
    (hk : ∀ q : Nat, q < H.size → ¬ va_A (cr_wl cI cZ (fun k => ad (pl k)) (fun k => M (pl k)) 0 (cr_sh Y')) H.size q → H1[q]? = H[q]?)
    (hP1 : va_P D cr_cl (cr_wl cI cZ (fun k => ad (pl k)) M' 0 (cr_sh Y')) H1) (h1 : ∀ j, j < (cr_sh Y').length → M2 (pl j) = M' j) (h2 : ∀ k, (∀ j, j < (cr_sh Y').length → ¬ pl j = k) → M2 k = M k) : va_P D cr_cl (cr_wl cI cZ ad M2 0 (cr_sh Y)) H1 := by
  intro k q hq
  obtain ⟨c, hc, rfl⟩ := cr_wl_inv hq
  by_cases hin : ∃ j, j < (cr_sh Y').length ∧ pl j = k
  · obtain ⟨j, hj, rfl⟩ := hin
    obtain ⟨d, hd⟩ : ∃ d, (cr_sh Y')[j]? = some d := ⟨_, List.getElem?_eq_getElem hj⟩
    have e1 := hP1 j _ (cr_wl_get0 hd)
    have e2 := hf.1 j d hd
    rw [hc] at e2
    cases e2
    rw [h1 j hj, cr_en_rs]
    exact e1
  · have e0 : M2 k = M k := h2 k (fun j hj e => hin ⟨j, hj, e⟩)
    rw [e0]
    have e1 := hP k _ (cr_wl_get0 hc)
    refine e1.kept (hk _ e1.lt ?_)
    rintro (⟨j, x, hx⟩ | hx)
    · obtain ⟨d, hd, hq2⟩ := cr_wl_inv hx
      have e9 : ad k = ad (pl j) := congrArg Prod.fst hq2
      have e3 := hD.1 k (pl j) _ _ (cr_wl_get0 hc) (cr_wl_get0 (hf.1 j d hd)) e9
      exact hin ⟨j, (List.getElem?_eq_some_iff.mp hd).1, e3.symm⟩
    · exact absurd e1.lt (Nat.not_lt.mpr hx)
theorem cr_blind {D : va_G} {cI cZ : ClassId} {ad : Nat → Nat} {sh : List cr_Shp} {as : List cr_AV} {M : cr_M} {sz : Nat} : FrameBlind (cr_Pc D cI cZ ad sh as M sz) := fun a U g mk q => by
  obtain ⟨q0, q1, qP, qK, qD⟩ := q
  exact ⟨q0, q1, qP, va_K.moved (u := U) (U := U.calling g mk a) (Vm.Alike.refl U.vm) qK, qD⟩
theorem cr_goodIn {Y : cr_Y} (h : Cond.code (cr_nm Y) (cr_by Y) (cr_ml Y) (cr_rt Y) ∈ cr_tb) : GoodIn cr_tb (cr_ws Y) := by
  intro w hw
  rcases List.mem_cons.mp hw with rfl | hw
  · exact ⟨h, good_of_word (cr_lw h).2⟩
  · exact ⟨hw, good_of_word (cr_lw hw).2⟩
/-- what the tables say of a call, and its room: kind false by the receiver, true static -/
def cr_cs (Y Y' : cr_Y) (idx n : Nat) : Prop :=
  Cond.code (cr_nm Y') (cr_by Y') (cr_ml Y') (cr_rt Y') ∈ cr_tb ∧ Cond.methodLink (cr_nm Y).cls idx (cr_nm Y') ∈ cr_tb ∧ Cond.initialized (cr_nm Y').cls ∈ cr_tb ∧
  ((cr_nm Y').cls ≠ "java/lang/invoke/MethodHandle" ∧ (cr_nm Y').cls ≠ "java/lang/invoke/VarHandle" ∧ (parseMethodDescriptor (cr_nm Y').desc).map (fun d => d.parameters.length) = some n) ∧
  (cr_fr Y' + 1 ≤ cr_fr Y ∧ 8 + (cr_ml Y' + 11) + cr_lo Y' ≤ cr_lo Y) ∧ plainName (cr_nm Y').cls = true
def cr_csV (Y' : cr_Y) : Prop := Cond.instanceMethod (cr_nm Y') ∈ cr_tb ∧ Cond.selects (cr_nm Y').cls (cr_nm Y') (cr_nm Y') ∈ cr_tb
def cr_w8 (st : List cr_AV) : Nat := (st.map (fun v : cr_AV => match v with | .inr (.inl _) => 2 | _ => 1)).sum
theorem cr_w8_eq (ad : Nat → Nat) (st : List cr_AV) : ((st.map (cr_tv ad)).map fun v => v.category).sum = cr_w8 st := by
  unfold cr_w8
  rw [List.map_map]; congr 1; apply List.map_congr_left; intro v _; exact cr_cat
/-- behind a call: the answer on the stack -/
theorem cr_after {Y Y' : cr_Y} {pc : Nat} {lv : List (Nat × cr_AV)} {st : List cr_AV} {M M' M2 : cr_M} {r : Option cr_AV × cr_M} {v : Option cr_AV} {pl : Nat → Nat} (hf : cr_fit Y Y' pl) (h1 : ∀ j, j < (cr_sh Y').length → M2 (pl j) = M' j) (h2 : ∀ k, (∀ j, j < (cr_sh Y').length → ¬ pl j = k) → M2 k = M k)
    (k : cr_Ev Y (pc + 3) lv (v.toList ++ st) M2 r)
    {l : Launch} {D : va_G} {cI cZ : ClassId} {ad : Nat → Nat} {A : Nat → Prop} {p : Program} {e : Env} {s : State} {m : MethodId} {args : Array Value} {below : List Frame} {meth : Method} {c : Code} (C : cr_Cx Y D cI cZ A p s m args meth c) {H : Heap} {locs : List Loc} {ls : Array Slot} (hP : va_P D cr_cl (cr_wl cI cZ ad M 0 (cr_sh Y)) H) (hD : va_D A (cr_wl cI cZ ad M 0 (cr_sh Y))) (hS : va_S A s.heap H locs) (hl : lv_has ls (cr_ml Y) (lv.map (cr_tl ad))) {st0 : List Value} {a : Array Value}
    (hR : va_Run p l e (cr_rm Y) s m args below meth c H locs 0 0 0 0 (F0 m pc ls st0) (st.map (cr_tv ad)) (cr_Q D cI cZ (fun k => ad (pl k)) (va_A (cr_wl cI cZ (fun k => ad (pl k)) (fun k => M (pl k)) 0 (cr_sh Y')) H.size) (cr_sh Y') (v, M') a) (va_A (cr_wl cI cZ (fun k => ad (pl k)) (fun k => M (pl k)) 0 (cr_sh Y')) H.size)) :
    W p l e (cr_rm Y) s m args below meth c H locs 0 0 (MQ below (cr_Q D cI cZ ad A (cr_sh Y) r) args s 0 0 A) (F0 m pc ls st0) := by
  obtain ⟨hx, hb, hr, hml, hown, hts, hlk, hK, hA⟩ := id C
  have hF : ∀ q, va_A (cr_wl cI cZ (fun k => ad (pl k)) (fun k => M (pl k)) 0 (cr_sh Y')) H.size q → A q := by
    rintro q (⟨j, x, hx⟩ | hx)
    · obtain ⟨d, hd, hq2⟩ := cr_wl_inv hx
      cases hq2
      exact hD.2 (pl j) _ (cr_wl_get0 (hf.1 j d hd))
    · exact hA q (Nat.le_trans hS.1 hx)
  have fin : ∀ (t : State) (H1 : Heap) (locs1 : List Loc), t.heap = H1 → cr_B D cI cZ (fun k => ad (pl k)) (va_A (cr_wl cI cZ (fun k => ad (pl k)) (fun k => M (pl k)) 0 (cr_sh Y')) H.size) (cr_sh Y') M' t → (∀ q : Nat, q < H.size → ¬ va_A (cr_wl cI cZ (fun k => ad (pl k)) (fun k => M (pl k)) 0 (cr_sh Y')) H.size q → H1[q]? = H[q]?) → va_S A s.heap H1 locs1 →
      W p l e (cr_rm Y) s m args below meth c H1 locs1 0 0 (MQ below (cr_Q D cI cZ ad A (cr_sh Y) r) args s 0 0 A) (F0 m (pc + 3) ls ((v.toList ++ st).map (cr_tv ad))) := by
    intro t H1 locs1 ht hB hk1 hS1
    obtain ⟨hP1, hK1, hD1⟩ := hB
    rw [ht] at hP1
    exact k l D cI cZ ad A p e s m args below meth c C H1 locs1 ls (cr_join hf hP hD hk1 hP1 h1 h2) (cr_wl_D hD) hS1 hl
  rcases v with _ | v | v | v
  · exact va_callv (a := a) hR hS (fun q _ h => hF q h) hF (fun u t H1 locs1 ht hvm hw hB hz1 hk1 hS1 => fin t H1 locs1 ht hB hk1 hS1)
  · exact va_calli (a := a) hR hS (fun q _ h => hF q h) hF (fun r1 u t H1 locs1 ht hvm hw hB hz1 hk1 hS1 => by
      have := fin t H1 locs1 ht hB hk1 hS1
      have hw : r1 = v := hw
      subst hw
      exact this)
  · exact va_calll (a := a) hR hS (fun q _ h => hF q h) hF (fun r1 u t H1 locs1 ht hvm hw hB hz1 hk1 hS1 => by
      have := fin t H1 locs1 ht hB hk1 hS1
      have hw : r1 = v := hw
      subst hw
      exact this)
  · intro T hT X
    obtain ⟨_, _, _, _, _, _, _, _, _, _, h, _⟩ := hR T hT X
    exact h.elim
/-- a call by a receiver -/
theorem e_callV {Y Y' : cr_Y} {pc idx n : Nat} {lv : List (Nat × cr_AV)} {st stk : List cr_AV} {M M' M2 : cr_M} {r : Option cr_AV × cr_M} {v : Option cr_AV} {pl : Nat → Nat} {as : List cr_AV} (hd : decode (cr_by Y) pc = .ok (.invokevirtual idx, 3)) (hc : cr_cs Y Y' idx n) (hv : cr_csV Y') (hf : cr_fit Y Y' pl)
    (hsh : ∃ ci q fs, (cr_sh Y')[0]? = some (.inl (ci, fs)) ∧ cr_cl[ci]? = some q ∧ q.1 = (cr_nm Y').cls) (hn : as.length = n) (hz : cr_sz (.inr (.inr 0) :: as) ≤ cr_ml Y') (hst : stk = (as.map (cr_rv pl)).reverse ++ .inr (.inr (pl 0)) :: st) (h8 : cr_w8 st ≤ 8)
    (E : cr_EvM Y' (.inr (.inr 0) :: as) (fun k => M (pl k)) (v, M')) (h1 : ∀ j, j < (cr_sh Y').length → M2 (pl j) = M' j) (h2 : ∀ k, (∀ j, j < (cr_sh Y').length → ¬ pl j = k) → M2 k = M k) (k : cr_Ev Y (pc + 3) lv (v.toList ++ st) M2 r) : cr_Ev Y pc lv stk M r := by
  intro l D cI cZ ad A p e s m args below meth c C H locs ls hP hD hS hl
  obtain ⟨hx, hb, hr, hml, hown, hts, hlk, hK, hA⟩ := id C
  obtain ⟨c1, c2, c3, c4, c5, c6⟩ := hc
  obtain ⟨ci, qc, fs, s1, s2, s3⟩ := hsh
  subst hst
  have hsP := cr_sub_P hf hP
  have hrec := va_recv hK hsP (ci := ci) (q0 := 0) s2 (cr_wl_get0 s1)
  rw [s3] at hrec
  have hm := cr_met (as := .inr (.inr 0) :: as) c6 hz E l D cI cZ (fun k => ad (pl k)) H.size
  have hB := callB_of (R := cr_rm Y) (rm := cr_rm Y') n hts (cr_goodIn c1) rfl rfl rfl (hts _ c3) (hts _ c2) c4 c5
  have hmp : (as.map (cr_rv pl)).map (cr_tv ad) = as.map (cr_tv (fun k => ad (pl k))) := by
    rw [List.map_map]; apply List.map_congr_left; intro x _; exact cr_tv_rv ad pl x
  refine cr_after hf h1 h2 k C hP hD hS hl (va_runV (As := as.map (cr_tv (fun k => ad (pl k)))) (b := ad (pl 0)) (rest := st.map (cr_tv ad)) ⟨hx, hb, hml, hown, hts⟩ hm ⟨hB, hts _ hv.1, hts _ hv.2⟩ ⟨cr_blind, hrec, fun U hU hW => ⟨rfl, by rw [hU], by rw [hU]; exact hsP, va_K.moved hW.alike hK, cr_sub_D hf hD⟩⟩ rfl (by rw [List.length_map]; exact hn) hl.1 ?_ (lv_room (by rw [cr_w8_eq]; exact h8)) hd ⟨Nat.le_refl _, Nat.le_refl _⟩)
  show ((as.map (cr_rv pl)).reverse ++ .inr (.inr (pl 0)) :: st).map (cr_tv ad) = _
  rw [List.map_append, List.map_reverse, hmp]
  rfl
/-- a static call: no cells of its own -/
theorem e_callS {Y Y' : cr_Y} {pc idx n : Nat} {lv : List (Nat × cr_AV)} {st stk : List cr_AV} {M M' : cr_M} {r : Option cr_AV × cr_M} {v : Option cr_AV} {as : List cr_AV} (hd : decode (cr_by Y) pc = .ok (.invokestatic idx, 3)) (hc : cr_cs Y Y' idx n) (hv : Cond.static (cr_nm Y') ∈ cr_tb) (hsh : cr_sh Y' = [])
    (hn : as.length = n) (hz : cr_sz as ≤ cr_ml Y') (hst : stk = (as.map (cr_rv (fun k => k))).reverse ++ st) (h8 : cr_w8 st ≤ 8)
    (E : cr_EvM Y' as M (v, M')) (k : cr_Ev Y (pc + 3) lv (v.toList ++ st) M r) : cr_Ev Y pc lv stk M r := by
  intro l D cI cZ ad A p e s m args below meth c C H locs ls hP hD hS hl
  obtain ⟨hx, hb, hr, hml, hown, hts, hlk, hK, hA⟩ := id C
  obtain ⟨c1, c2, c3, c4, c5, c6⟩ := hc
  subst hst
  have hf : cr_fit Y Y' (fun k => k) := ⟨fun j c h => (by rw [hsh] at h; simp at h), fun i j h => (by rw [hsh] at h; exact absurd h (Nat.not_lt_zero _))⟩
  have hsP := cr_sub_P hf hP
  have hm := cr_met (as := as) c6 hz E l D cI cZ (fun k => ad k) H.size
  have hB := callB_of (R := cr_rm Y) (rm := cr_rm Y') n hts (cr_goodIn c1) rfl rfl rfl (hts _ c3) (hts _ c2) c4 c5
  have hmp : (as.map (cr_rv (fun k => k))).map (cr_tv ad) = as.map (cr_tv (fun k => ad k)) := by
    rw [List.map_map]; apply List.map_congr_left; intro x _; exact cr_tv_rv ad (fun k => k) x
  refine cr_after hf (M' := M') (M2 := M) (fun j h => (by rw [hsh] at h; exact absurd h (Nat.not_lt_zero _))) (fun _ _ => rfl) k C hP hD hS hl (va_runS (As := as.map (cr_tv (fun k => ad k))) (rest := st.map (cr_tv ad)) ⟨hx, hb, hml, hown, hts⟩ hm ⟨hB, hts _ hv⟩ ⟨cr_blind, fun U hU hW => ⟨rfl, by rw [hU], by rw [hU]; exact hsP, va_K.moved hW.alike hK, cr_sub_D hf hD⟩⟩ rfl (by rw [List.length_map]; exact hn) hl.1 ?_ (lv_room (by rw [cr_w8_eq]; exact h8)) hd ⟨Nat.le_refl _, Nat.le_refl _⟩)
  show ((as.map (cr_rv (fun k => k))).reverse ++ st).map (cr_tv ad) = _
  rw [List.map_append, List.map_reverse, hmp]
end
