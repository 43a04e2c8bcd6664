-- ===== PART A: goes FIRST, ahead of the names: the tables' words, and 'selects' of the private methods out of them =====
/-- a private method of a class that the tables say can be made, by its rows of tables_1 -/
def lw_okq (q : MethodName × Nat) : Prop := (q.1.cls ≠ "java/lang/invoke/MethodHandle" ∧ q.1.cls ≠ "java/lang/invoke/VarHandle") ∧ Cond.instantiable q.1.cls q.2 ∈ tables_1 ∧ Cond.privateMethod q.1 ∈ tables_1 ∧ Cond.instanceMethod q.1 ∈ tables_1
theorem lw_p0 : lw_okq (⟨"CallRoom", "refuse", "(I)I"⟩, 4) := ⟨⟨by decide +kernel, by decide +kernel⟩, List.mem_of_getElem? (i := 11) (by decide +kernel), List.mem_of_getElem? (i := 196) (by decide +kernel), List.mem_of_getElem? (i := 197) (by decide +kernel)⟩
theorem lw_p1 : lw_okq (⟨"CallRoom", "notWaiting", "(I)I"⟩, 4) := ⟨⟨by decide +kernel, by decide +kernel⟩, List.mem_of_getElem? (i := 11) (by decide +kernel), List.mem_of_getElem? (i := 274) (by decide +kernel), List.mem_of_getElem? (i := 275) (by decide +kernel)⟩
theorem lw_p2 : lw_okq (⟨"CallRoom$Floor", "passTick", "()I"⟩, 7) := ⟨⟨by decide +kernel, by decide +kernel⟩, List.mem_of_getElem? (i := 19) (by decide +kernel), List.mem_of_getElem? (i := 313) (by decide +kernel), List.mem_of_getElem? (i := 314) (by decide +kernel)⟩
theorem lw_p3 : lw_okq (⟨"CallRoom$Floor", "endCalls", "()I"⟩, 7) := ⟨⟨by decide +kernel, by decide +kernel⟩, List.mem_of_getElem? (i := 19) (by decide +kernel), List.mem_of_getElem? (i := 321) (by decide +kernel), List.mem_of_getElem? (i := 322) (by decide +kernel)⟩
theorem lw_p4 : lw_okq (⟨"CallRoom$Floor", "endWith", "(I)V"⟩, 7) := ⟨⟨by decide +kernel, by decide +kernel⟩, List.mem_of_getElem? (i := 19) (by decide +kernel), List.mem_of_getElem? (i := 325) (by decide +kernel), List.mem_of_getElem? (i := 326) (by decide +kernel)⟩
theorem lw_p5 : lw_okq (⟨"CallRoom$Floor", "nextToGive", "()I"⟩, 7) := ⟨⟨by decide +kernel, by decide +kernel⟩, List.mem_of_getElem? (i := 19) (by decide +kernel), List.mem_of_getElem? (i := 347) (by decide +kernel), List.mem_of_getElem? (i := 348) (by decide +kernel)⟩
theorem lw_p6 : lw_okq (⟨"CallRoom$Floor", "countTakers", "()I"⟩, 7) := ⟨⟨by decide +kernel, by decide +kernel⟩, List.mem_of_getElem? (i := 19) (by decide +kernel), List.mem_of_getElem? (i := 351) (by decide +kernel), List.mem_of_getElem? (i := 352) (by decide +kernel)⟩
theorem lw_p7 : lw_okq (⟨"CallRoom$Floor", "isTakeable", "(I)Z"⟩, 7) := ⟨⟨by decide +kernel, by decide +kernel⟩, List.mem_of_getElem? (i := 19) (by decide +kernel), List.mem_of_getElem? (i := 359) (by decide +kernel), List.mem_of_getElem? (i := 360) (by decide +kernel)⟩
theorem lw_p8 : lw_okq (⟨"CallRoom$Floor", "isKeptForOwn", "(I)Z"⟩, 7) := ⟨⟨by decide +kernel, by decide +kernel⟩, List.mem_of_getElem? (i := 19) (by decide +kernel), List.mem_of_getElem? (i := 363) (by decide +kernel), List.mem_of_getElem? (i := 364) (by decide +kernel)⟩
theorem lw_p9 : lw_okq (⟨"CallRoom$Floor", "rankOf", "(I)I"⟩, 7) := ⟨⟨by decide +kernel, by decide +kernel⟩, List.mem_of_getElem? (i := 19) (by decide +kernel), List.mem_of_getElem? (i := 367) (by decide +kernel), List.mem_of_getElem? (i := 368) (by decide +kernel)⟩
theorem lw_p10 : lw_okq (⟨"CallRoom$Floor", "bestHelper", "(I)I"⟩, 7) := ⟨⟨by decide +kernel, by decide +kernel⟩, List.mem_of_getElem? (i := 19) (by decide +kernel), List.mem_of_getElem? (i := 372) (by decide +kernel), List.mem_of_getElem? (i := 373) (by decide +kernel)⟩
theorem lw_p11 : lw_okq (⟨"CallRoom$Floor", "give", "(II)V"⟩, 7) := ⟨⟨by decide +kernel, by decide +kernel⟩, List.mem_of_getElem? (i := 19) (by decide +kernel), List.mem_of_getElem? (i := 391) (by decide +kernel), List.mem_of_getElem? (i := 392) (by decide +kernel)⟩
theorem lw_p12 : lw_okq (⟨"CallRoom$Floor", "skipQuietTicks", "(I)I"⟩, 7) := ⟨⟨by decide +kernel, by decide +kernel⟩, List.mem_of_getElem? (i := 19) (by decide +kernel), List.mem_of_getElem? (i := 404) (by decide +kernel), List.mem_of_getElem? (i := 405) (by decide +kernel)⟩
theorem lw_p13 : lw_okq (⟨"CallRoom$Floor", "nextChange", "()I"⟩, 7) := ⟨⟨by decide +kernel, by decide +kernel⟩, List.mem_of_getElem? (i := 19) (by decide +kernel), List.mem_of_getElem? (i := 408) (by decide +kernel), List.mem_of_getElem? (i := 409) (by decide +kernel)⟩
theorem lw_p14 : lw_okq (⟨"CallRoom", "helperIfGivenNow", "(I)I"⟩, 4) := ⟨⟨by decide +kernel, by decide +kernel⟩, List.mem_of_getElem? (i := 11) (by decide +kernel), List.mem_of_getElem? (i := 458) (by decide +kernel), List.mem_of_getElem? (i := 459) (by decide +kernel)⟩
theorem lw_p15 : lw_okq (⟨"CallRoomModel", "refuse", "(I)I"⟩, 41) := ⟨⟨by decide +kernel, by decide +kernel⟩, List.mem_of_getElem? (i := 547) (by decide +kernel), List.mem_of_getElem? (i := 682) (by decide +kernel), List.mem_of_getElem? (i := 683) (by decide +kernel)⟩
def lw_privs_1 : List (MethodName × Nat) := [(⟨"CallRoom", "refuse", "(I)I"⟩, 4), (⟨"CallRoom", "notWaiting", "(I)I"⟩, 4), (⟨"CallRoom$Floor", "passTick", "()I"⟩, 7), (⟨"CallRoom$Floor", "endCalls", "()I"⟩, 7), (⟨"CallRoom$Floor", "endWith", "(I)V"⟩, 7), (⟨"CallRoom$Floor", "nextToGive", "()I"⟩, 7), (⟨"CallRoom$Floor", "countTakers", "()I"⟩, 7), (⟨"CallRoom$Floor", "isTakeable", "(I)Z"⟩, 7), (⟨"CallRoom$Floor", "isKeptForOwn", "(I)Z"⟩, 7), (⟨"CallRoom$Floor", "rankOf", "(I)I"⟩, 7), (⟨"CallRoom$Floor", "bestHelper", "(I)I"⟩, 7), (⟨"CallRoom$Floor", "give", "(II)V"⟩, 7), (⟨"CallRoom$Floor", "skipQuietTicks", "(I)I"⟩, 7), (⟨"CallRoom$Floor", "nextChange", "()I"⟩, 7), (⟨"CallRoom", "helperIfGivenNow", "(I)I"⟩, 4), (⟨"CallRoomModel", "refuse", "(I)I"⟩, 41)]
theorem lw_r1 : ∀ q ∈ lw_privs_1, lw_okq q := List.forall_mem_cons.mpr ⟨lw_p0, List.forall_mem_cons.mpr ⟨lw_p1, List.forall_mem_cons.mpr ⟨lw_p2, List.forall_mem_cons.mpr ⟨lw_p3, List.forall_mem_cons.mpr ⟨lw_p4, List.forall_mem_cons.mpr ⟨lw_p5, List.forall_mem_cons.mpr ⟨lw_p6, List.forall_mem_cons.mpr ⟨lw_p7, List.forall_mem_cons.mpr ⟨lw_p8, List.forall_mem_cons.mpr ⟨lw_p9, List.forall_mem_cons.mpr ⟨lw_p10, List.forall_mem_cons.mpr ⟨lw_p11, List.forall_mem_cons.mpr ⟨lw_p12, List.forall_mem_cons.mpr ⟨lw_p13, List.forall_mem_cons.mpr ⟨lw_p14, List.forall_mem_cons.mpr ⟨lw_p15, fun _ h => absurd h List.not_mem_nil⟩⟩⟩⟩⟩⟩⟩⟩⟩⟩⟩⟩⟩⟩⟩⟩
theorem lw_p16 : lw_okq (⟨"CallRoomModel", "gradeOf", "(II)I"⟩, 41) := ⟨⟨by decide +kernel, by decide +kernel⟩, List.mem_of_getElem? (i := 547) (by decide +kernel), List.mem_of_getElem? (i := 693) (by decide +kernel), List.mem_of_getElem? (i := 694) (by decide +kernel)⟩
theorem lw_p17 : lw_okq (⟨"CallRoomModel", "becomes", "(II)V"⟩, 41) := ⟨⟨by decide +kernel, by decide +kernel⟩, List.mem_of_getElem? (i := 547) (by decide +kernel), List.mem_of_getElem? (i := 701) (by decide +kernel), List.mem_of_getElem? (i := 702) (by decide +kernel)⟩
theorem lw_p18 : lw_okq (⟨"CallRoomModel", "loses", "(I)V"⟩, 41) := ⟨⟨by decide +kernel, by decide +kernel⟩, List.mem_of_getElem? (i := 547) (by decide +kernel), List.mem_of_getElem? (i := 733) (by decide +kernel), List.mem_of_getElem? (i := 734) (by decide +kernel)⟩
theorem lw_p19 : lw_okq (⟨"CallRoomModel", "goesOn", "()I"⟩, 41) := ⟨⟨by decide +kernel, by decide +kernel⟩, List.mem_of_getElem? (i := 547) (by decide +kernel), List.mem_of_getElem? (i := 749) (by decide +kernel), List.mem_of_getElem? (i := 750) (by decide +kernel)⟩
theorem lw_p20 : lw_okq (⟨"CallRoomModel", "waitedOf", "(I)I"⟩, 41) := ⟨⟨by decide +kernel, by decide +kernel⟩, List.mem_of_getElem? (i := 547) (by decide +kernel), List.mem_of_getElem? (i := 753) (by decide +kernel), List.mem_of_getElem? (i := 754) (by decide +kernel)⟩
theorem lw_p21 : lw_okq (⟨"CallRoomModel", "give", "()V"⟩, 41) := ⟨⟨by decide +kernel, by decide +kernel⟩, List.mem_of_getElem? (i := 547) (by decide +kernel), List.mem_of_getElem? (i := 757) (by decide +kernel), List.mem_of_getElem? (i := 758) (by decide +kernel)⟩
theorem lw_p22 : lw_okq (⟨"CallRoomModel", "nextCall", "()I"⟩, 41) := ⟨⟨by decide +kernel, by decide +kernel⟩, List.mem_of_getElem? (i := 547) (by decide +kernel), List.mem_of_getElem? (i := 761) (by decide +kernel), List.mem_of_getElem? (i := 762) (by decide +kernel)⟩
theorem lw_p23 : lw_okq (⟨"CallRoomModel", "isTakeable", "(I)Z"⟩, 41) := ⟨⟨by decide +kernel, by decide +kernel⟩, List.mem_of_getElem? (i := 547) (by decide +kernel), List.mem_of_getElem? (i := 765) (by decide +kernel), List.mem_of_getElem? (i := 766) (by decide +kernel)⟩
theorem lw_p24 : lw_okq (⟨"CallRoomModel", "may", "(II)Z"⟩, 41) := ⟨⟨by decide +kernel, by decide +kernel⟩, List.mem_of_getElem? (i := 547) (by decide +kernel), List.mem_of_getElem? (i := 769) (by decide +kernel), List.mem_of_getElem? (i := 770) (by decide +kernel)⟩
theorem lw_p25 : lw_okq (⟨"CallRoomModel", "hasRoom", "(I)Z"⟩, 41) := ⟨⟨by decide +kernel, by decide +kernel⟩, List.mem_of_getElem? (i := 547) (by decide +kernel), List.mem_of_getElem? (i := 773) (by decide +kernel), List.mem_of_getElem? (i := 774) (by decide +kernel)⟩
theorem lw_p26 : lw_okq (⟨"CallRoomModel", "rankOf", "(I)I"⟩, 41) := ⟨⟨by decide +kernel, by decide +kernel⟩, List.mem_of_getElem? (i := 547) (by decide +kernel), List.mem_of_getElem? (i := 777) (by decide +kernel), List.mem_of_getElem? (i := 778) (by decide +kernel)⟩
theorem lw_p27 : lw_okq (⟨"CallRoomModel", "freeFor", "(I)I"⟩, 41) := ⟨⟨by decide +kernel, by decide +kernel⟩, List.mem_of_getElem? (i := 547) (by decide +kernel), List.mem_of_getElem? (i := 781) (by decide +kernel), List.mem_of_getElem? (i := 782) (by decide +kernel)⟩
theorem lw_p28 : lw_okq (⟨"CallRoomModel", "helperFor", "(I)I"⟩, 41) := ⟨⟨by decide +kernel, by decide +kernel⟩, List.mem_of_getElem? (i := 547) (by decide +kernel), List.mem_of_getElem? (i := 785) (by decide +kernel), List.mem_of_getElem? (i := 786) (by decide +kernel)⟩
theorem lw_p29 : lw_okq (⟨"CallRoomModel", "isAhead", "(III)Z"⟩, 41) := ⟨⟨by decide +kernel, by decide +kernel⟩, List.mem_of_getElem? (i := 547) (by decide +kernel), List.mem_of_getElem? (i := 789) (by decide +kernel), List.mem_of_getElem? (i := 790) (by decide +kernel)⟩
theorem lw_p30 : lw_okq (⟨"CallRoomModel", "sortsOf", "(I)I"⟩, 41) := ⟨⟨by decide +kernel, by decide +kernel⟩, List.mem_of_getElem? (i := 547) (by decide +kernel), List.mem_of_getElem? (i := 793) (by decide +kernel), List.mem_of_getElem? (i := 794) (by decide +kernel)⟩
theorem lw_p31 : lw_okq (⟨"CallRoomModel", "keep", "()V"⟩, 41) := ⟨⟨by decide +kernel, by decide +kernel⟩, List.mem_of_getElem? (i := 547) (by decide +kernel), List.mem_of_getElem? (i := 801) (by decide +kernel), List.mem_of_getElem? (i := 802) (by decide +kernel)⟩
def lw_privs_2 : List (MethodName × Nat) := [(⟨"CallRoomModel", "gradeOf", "(II)I"⟩, 41), (⟨"CallRoomModel", "becomes", "(II)V"⟩, 41), (⟨"CallRoomModel", "loses", "(I)V"⟩, 41), (⟨"CallRoomModel", "goesOn", "()I"⟩, 41), (⟨"CallRoomModel", "waitedOf", "(I)I"⟩, 41), (⟨"CallRoomModel", "give", "()V"⟩, 41), (⟨"CallRoomModel", "nextCall", "()I"⟩, 41), (⟨"CallRoomModel", "isTakeable", "(I)Z"⟩, 41), (⟨"CallRoomModel", "may", "(II)Z"⟩, 41), (⟨"CallRoomModel", "hasRoom", "(I)Z"⟩, 41), (⟨"CallRoomModel", "rankOf", "(I)I"⟩, 41), (⟨"CallRoomModel", "freeFor", "(I)I"⟩, 41), (⟨"CallRoomModel", "helperFor", "(I)I"⟩, 41), (⟨"CallRoomModel", "isAhead", "(III)Z"⟩, 41), (⟨"CallRoomModel", "sortsOf", "(I)I"⟩, 41), (⟨"CallRoomModel", "keep", "()V"⟩, 41)]
theorem lw_r2 : ∀ q ∈ lw_privs_2, lw_okq q := List.forall_mem_cons.mpr ⟨lw_p16, List.forall_mem_cons.mpr ⟨lw_p17, List.forall_mem_cons.mpr ⟨lw_p18, List.forall_mem_cons.mpr ⟨lw_p19, List.forall_mem_cons.mpr ⟨lw_p20, List.forall_mem_cons.mpr ⟨lw_p21, List.forall_mem_cons.mpr ⟨lw_p22, List.forall_mem_cons.mpr ⟨lw_p23, List.forall_mem_cons.mpr ⟨lw_p24, List.forall_mem_cons.mpr ⟨lw_p25, List.forall_mem_cons.mpr ⟨lw_p26, List.forall_mem_cons.mpr ⟨lw_p27, List.forall_mem_cons.mpr ⟨lw_p28, List.forall_mem_cons.mpr ⟨lw_p29, List.forall_mem_cons.mpr ⟨lw_p30, List.forall_mem_cons.mpr ⟨lw_p31, fun _ h => absurd h List.not_mem_nil⟩⟩⟩⟩⟩⟩⟩⟩⟩⟩⟩⟩⟩⟩⟩⟩
theorem lw_p32 : lw_okq (⟨"CallRoomModel", "putBack", "()V"⟩, 41) := ⟨⟨by decide +kernel, by decide +kernel⟩, List.mem_of_getElem? (i := 547) (by decide +kernel), List.mem_of_getElem? (i := 805) (by decide +kernel), List.mem_of_getElem? (i := 806) (by decide +kernel)⟩
theorem lw_p33 : lw_okq (⟨"CallRoomModel", "whoOf", "(I)I"⟩, 41) := ⟨⟨by decide +kernel, by decide +kernel⟩, List.mem_of_getElem? (i := 547) (by decide +kernel), List.mem_of_getElem? (i := 813) (by decide +kernel), List.mem_of_getElem? (i := 814) (by decide +kernel)⟩
theorem lw_p34 : lw_okq (⟨"CallRoomModel", "inState", "(I)I"⟩, 41) := ⟨⟨by decide +kernel, by decide +kernel⟩, List.mem_of_getElem? (i := 547) (by decide +kernel), List.mem_of_getElem? (i := 865) (by decide +kernel), List.mem_of_getElem? (i := 866) (by decide +kernel)⟩
def lw_privs_3 : List (MethodName × Nat) := [(⟨"CallRoomModel", "putBack", "()V"⟩, 41), (⟨"CallRoomModel", "whoOf", "(I)I"⟩, 41), (⟨"CallRoomModel", "inState", "(I)I"⟩, 41)]
theorem lw_r3 : ∀ q ∈ lw_privs_3, lw_okq q := List.forall_mem_cons.mpr ⟨lw_p32, List.forall_mem_cons.mpr ⟨lw_p33, List.forall_mem_cons.mpr ⟨lw_p34, fun _ h => absurd h List.not_mem_nil⟩⟩⟩
def lw_privs : List (MethodName × Nat) := lw_privs_1 ++ (lw_privs_2 ++ (lw_privs_3))
def lw_tbl : List Cond := k2_sels lw_privs ++ tables_1
theorem lw_privs_ok : ∀ q ∈ lw_privs, lw_okq q := by
  show ∀ q ∈ lw_privs_1 ++ (lw_privs_2 ++ (lw_privs_3)), lw_okq q
  exact List.forall_mem_append.mpr ⟨lw_r1, List.forall_mem_append.mpr ⟨lw_r2, lw_r3⟩⟩
def RX0 : String := "CallRoom$Calls"
def TX0 : u_T := fun k => match k with
  | 0 => ("CallRoom$Calls", "size", "I", false)
  | 1 => ("CallRoom$Calls", "doing", "[I", true)
  | 2 => ("CallRoom$Calls", "kind", "[I", true)
  | 3 => ("CallRoom$Calls", "own", "[I", true)
  | 4 => ("CallRoom$Calls", "sort", "[I", true)
  | 5 => ("CallRoom$Calls", "length", "[I", true)
  | 6 => ("CallRoom$Calls", "patience", "[I", true)
  | 7 => ("CallRoom$Calls", "came", "[I", true)
  | 8 => ("CallRoom$Calls", "since", "[I", true)
  | 9 => ("CallRoom$Calls", "helper", "[I", true)
  | 10 => ("CallRoom$Calls", "until", "[I", true)
  | 11 => ("CallRoom$Calls", "firstWaited", "[I", true)
  | _ => ("CallRoom$Calls", "lastWaited", "[I", true)
def tyX0 : Nat → FieldType := fun k => match k with
  | 0 => .int
  | 1 => .array .int
  | 2 => .array .int
  | 3 => .array .int
  | 4 => .array .int
  | 5 => .array .int
  | 6 => .array .int
  | 7 => .array .int
  | 8 => .array .int
  | 9 => .array .int
  | 10 => .array .int
  | 11 => .array .int
  | _ => .array .int
theorem nmX0 : ∀ a, a < 13 → ∀ b, b < 13 → a ≠ b → (TX0 a).2.1 ≠ (TX0 b).2.1 := by decide +kernel
theorem tyX0_ok : ∀ k, k < 13 → parseFieldDescriptor (TX0 k).2.2.1 = some (tyX0 k) := by decide +kernel
abbrev cX0_init : ByteArray := prog_2_method_1_code
def yX0_init : MethodName := ⟨RX0, "<init>", "()V"⟩
abbrev cX0_has : ByteArray := prog_2_method_2_code
def yX0_has : MethodName := ⟨RX0, "has", "(I)Z"⟩
abbrev cX0_add : ByteArray := prog_2_method_3_code
def yX0_add : MethodName := ⟨RX0, "add", "(II)I"⟩
abbrev cX0_describe : ByteArray := prog_2_method_4_code
def yX0_describe : MethodName := ⟨RX0, "describe", "(IIII)V"⟩
abbrev cX0_arrive : ByteArray := prog_2_method_5_code
def yX0_arrive : MethodName := ⟨RX0, "arrive", "(II)V"⟩
abbrev cX0_waitAgain : ByteArray := prog_2_method_6_code
def yX0_waitAgain : MethodName := ⟨RX0, "waitAgain", "(II)V"⟩
abbrev cX0_putBack : ByteArray := prog_2_method_7_code
def yX0_putBack : MethodName := ⟨RX0, "putBack", "(II)V"⟩
abbrev cX0_start : ByteArray := prog_2_method_8_code
def yX0_start : MethodName := ⟨RX0, "start", "(IIII)V"⟩
abbrev cX0_ringBackDue : ByteArray := prog_2_method_9_code
def yX0_ringBackDue : MethodName := ⟨RX0, "ringBackDue", "(I)V"⟩
abbrev cX0_loseImpatient : ByteArray := prog_2_method_10_code
def yX0_loseImpatient : MethodName := ⟨RX0, "loseImpatient", "(I)V"⟩
abbrev cX0_nextChange : ByteArray := prog_2_method_11_code
def yX0_nextChange : MethodName := ⟨RX0, "nextChange", "(III)I"⟩
abbrev cX0_firstWith : ByteArray := prog_2_method_12_code
def yX0_firstWith : MethodName := ⟨RX0, "firstWith", "(I)I"⟩
abbrev cX0_givenWithin : ByteArray := prog_2_method_13_code
def yX0_givenWithin : MethodName := ⟨RX0, "givenWithin", "(I)I"⟩
abbrev cX0_countDoing : ByteArray := prog_2_method_14_code
def yX0_countDoing : MethodName := ⟨RX0, "countDoing", "(I)I"⟩
abbrev cX0_copyFrom : ByteArray := prog_2_method_15_code
def yX0_copyFrom : MethodName := ⟨RX0, "copyFrom", "(LCallRoom$Calls;)V"⟩
def RX1 : String := "CallRoom$Floor"
def TX1 : u_T := fun k => match k with
  | 0 => ("CallRoom$Floor", "helpers", "LCallRoom$Helpers;", true)
  | 1 => ("CallRoom$Floor", "calls", "LCallRoom$Calls;", true)
  | 2 => ("CallRoom$Floor", "freeFor", "[I", true)
  | 3 => ("CallRoom$Floor", "withRoomFor", "[I", true)
  | 4 => ("CallRoom$Floor", "tick", "I", false)
  | 5 => ("CallRoom$Floor", "rule", "I", false)
  | _ => ("CallRoom$Floor", "prefer", "I", false)
def tyX1 : Nat → FieldType := fun k => match k with
  | 0 => .object "CallRoom$Helpers"
  | 1 => .object "CallRoom$Calls"
  | 2 => .array .int
  | 3 => .array .int
  | 4 => .int
  | 5 => .int
  | _ => .int
theorem nmX1 : ∀ a, a < 7 → ∀ b, b < 7 → a ≠ b → (TX1 a).2.1 ≠ (TX1 b).2.1 := by decide +kernel
theorem tyX1_ok : ∀ k, k < 7 → parseFieldDescriptor (TX1 k).2.2.1 = some (tyX1 k) := by decide +kernel
abbrev cX1_init : ByteArray := prog_3_method_1_code
def yX1_init : MethodName := ⟨RX1, "<init>", "()V"⟩
abbrev cX1_copyFrom : ByteArray := prog_3_method_2_code
def yX1_copyFrom : MethodName := ⟨RX1, "copyFrom", "(LCallRoom$Floor;)V"⟩
abbrev cX1_goOn : ByteArray := prog_3_method_3_code
def yX1_goOn : MethodName := ⟨RX1, "goOn", "(I)I"⟩
abbrev cX1_ticksTillOn : ByteArray := prog_3_method_4_code
def yX1_ticksTillOn : MethodName := ⟨RX1, "ticksTillOn", "(I)I"⟩
abbrev cX1_passTick : ByteArray := prog_3_method_5_code
def yX1_passTick : MethodName := ⟨RX1, "passTick", "()I"⟩
abbrev cX1_skipQuietTicks : ByteArray := prog_3_method_6_code
def yX1_skipQuietTicks : MethodName := ⟨RX1, "skipQuietTicks", "(I)I"⟩
abbrev cX1_nextChange : ByteArray := prog_3_method_7_code
def yX1_nextChange : MethodName := ⟨RX1, "nextChange", "()I"⟩
abbrev cX1_endCalls : ByteArray := prog_3_method_8_code
def yX1_endCalls : MethodName := ⟨RX1, "endCalls", "()I"⟩
abbrev cX1_endWith : ByteArray := prog_3_method_9_code
def yX1_endWith : MethodName := ⟨RX1, "endWith", "(I)V"⟩
abbrev cX1_giveAll : ByteArray := prog_3_method_10_code
def yX1_giveAll : MethodName := ⟨RX1, "giveAll", "()V"⟩
abbrev cX1_give : ByteArray := prog_3_method_11_code
def yX1_give : MethodName := ⟨RX1, "give", "(II)V"⟩
abbrev cX1_nextToGive : ByteArray := prog_3_method_12_code
def yX1_nextToGive : MethodName := ⟨RX1, "nextToGive", "()I"⟩
abbrev cX1_rankOf : ByteArray := prog_3_method_13_code
def yX1_rankOf : MethodName := ⟨RX1, "rankOf", "(I)I"⟩
abbrev cX1_countTakers : ByteArray := prog_3_method_14_code
def yX1_countTakers : MethodName := ⟨RX1, "countTakers", "()I"⟩
abbrev cX1_isTakeable : ByteArray := prog_3_method_15_code
def yX1_isTakeable : MethodName := ⟨RX1, "isTakeable", "(I)Z"⟩
abbrev cX1_isKeptForOwn : ByteArray := prog_3_method_16_code
def yX1_isKeptForOwn : MethodName := ⟨RX1, "isKeptForOwn", "(I)Z"⟩
abbrev cX1_bestHelper : ByteArray := prog_3_method_17_code
def yX1_bestHelper : MethodName := ⟨RX1, "bestHelper", "(I)I"⟩
abbrev cX1_hindrance : ByteArray := prog_3_method_18_code
def yX1_hindrance : MethodName := ⟨RX1, "hindrance", "(I)I"⟩
def RX2 : String := "CallRoom$Helpers"
def TX2 : u_T := fun k => match k with
  | 0 => ("CallRoom$Helpers", "size", "I", false)
  | 1 => ("CallRoom$Helpers", "grades", "[I", true)
  | 2 => ("CallRoom$Helpers", "doing", "[I", true)
  | 3 => ("CallRoom$Helpers", "since", "[I", true)
  | 4 => ("CallRoom$Helpers", "held", "[I", true)
  | 5 => ("CallRoom$Helpers", "heldKind", "[I", true)
  | 6 => ("CallRoom$Helpers", "served", "[I", true)
  | 7 => ("CallRoom$Helpers", "busyTicks", "[I", true)
  | _ => ("CallRoom$Helpers", "breakOver", "[I", true)
def tyX2 : Nat → FieldType := fun k => match k with
  | 0 => .int
  | 1 => .array .int
  | 2 => .array .int
  | 3 => .array .int
  | 4 => .array .int
  | 5 => .array .int
  | 6 => .array .int
  | 7 => .array .int
  | _ => .array .int
theorem nmX2 : ∀ a, a < 9 → ∀ b, b < 9 → a ≠ b → (TX2 a).2.1 ≠ (TX2 b).2.1 := by decide +kernel
theorem tyX2_ok : ∀ k, k < 9 → parseFieldDescriptor (TX2 k).2.2.1 = some (tyX2 k) := by decide +kernel
abbrev cX2_init : ByteArray := prog_4_method_1_code
def yX2_init : MethodName := ⟨RX2, "<init>", "()V"⟩
abbrev cX2_has : ByteArray := prog_4_method_2_code
def yX2_has : MethodName := ⟨RX2, "has", "(I)Z"⟩
abbrev cX2_add : ByteArray := prog_4_method_3_code
def yX2_add : MethodName := ⟨RX2, "add", "(II)I"⟩
abbrev cX2_become : ByteArray := prog_4_method_4_code
def yX2_become : MethodName := ⟨RX2, "become", "(III)V"⟩
abbrev cX2_gradeFor : ByteArray := prog_4_method_5_code
def yX2_gradeFor : MethodName := ⟨RX2, "gradeFor", "(II)I"⟩
abbrev cX2_setGrade : ByteArray := prog_4_method_6_code
def yX2_setGrade : MethodName := ⟨RX2, "setGrade", "(III)V"⟩
abbrev cX2_sortsOf : ByteArray := prog_4_method_7_code
def yX2_sortsOf : MethodName := ⟨RX2, "sortsOf", "(I)I"⟩
abbrev cX2_canTake : ByteArray := prog_4_method_8_code
def yX2_canTake : MethodName := ⟨RX2, "canTake", "(IIZ)Z"⟩
abbrev cX2_someCanTake : ByteArray := prog_4_method_9_code
def yX2_someCanTake : MethodName := ⟨RX2, "someCanTake", "(IZ)Z"⟩
abbrev cX2_someInHasGrade : ByteArray := prog_4_method_10_code
def yX2_someInHasGrade : MethodName := ⟨RX2, "someInHasGrade", "(I)Z"⟩
abbrev cX2_isBetter : ByteArray := prog_4_method_11_code
def yX2_isBetter : MethodName := ⟨RX2, "isBetter", "(III)Z"⟩
abbrev cX2_take : ByteArray := prog_4_method_12_code
def yX2_take : MethodName := ⟨RX2, "take", "(III)V"⟩
abbrev cX2_letGo : ByteArray := prog_4_method_13_code
def yX2_letGo : MethodName := ⟨RX2, "letGo", "(II)V"⟩
abbrev cX2_addBusyTicks : ByteArray := prog_4_method_14_code
def yX2_addBusyTicks : MethodName := ⟨RX2, "addBusyTicks", "(I)V"⟩
abbrev cX2_endBreaks : ByteArray := prog_4_method_15_code
def yX2_endBreaks : MethodName := ⟨RX2, "endBreaks", "(I)V"⟩
abbrev cX2_nextBreakOver : ByteArray := prog_4_method_16_code
def yX2_nextBreakOver : MethodName := ⟨RX2, "nextBreakOver", "()I"⟩
abbrev cX2_countFree : ByteArray := prog_4_method_17_code
def yX2_countFree : MethodName := ⟨RX2, "countFree", "()I"⟩
abbrev cX2_copyFrom : ByteArray := prog_4_method_18_code
def yX2_copyFrom : MethodName := ⟨RX2, "copyFrom", "(LCallRoom$Helpers;)V"⟩
def RX3 : String := "CallRoom$Shifts"
def TX3 : u_T := fun k => match k with
  | 0 => ("CallRoom$Shifts", "wants", "[I", true)
  | _ => ("CallRoom$Shifts", "beginning", "[I", true)
def tyX3 : Nat → FieldType := fun k => match k with
  | 0 => .array .int
  | _ => .array .int
theorem nmX3 : ∀ a, a < 2 → ∀ b, b < 2 → a ≠ b → (TX3 a).2.1 ≠ (TX3 b).2.1 := by decide +kernel
theorem tyX3_ok : ∀ k, k < 2 → parseFieldDescriptor (TX3 k).2.2.1 = some (tyX3 k) := by decide +kernel
abbrev cX3_init : ByteArray := prog_5_method_1_code
def yX3_init : MethodName := ⟨RX3, "<init>", "()V"⟩
abbrev cX3_plan : ByteArray := prog_5_method_2_code
def yX3_plan : MethodName := ⟨RX3, "plan", "(I)I"⟩
def RX4 : String := "CallRoom"
def TX4 : u_T := fun k => match k with
  | 0 => ("CallRoom", "floor", "LCallRoom$Floor;", true)
  | 1 => ("CallRoom", "trial", "LCallRoom$Floor;", true)
  | 2 => ("CallRoom", "shifts", "LCallRoom$Shifts;", true)
  | _ => ("CallRoom", "refusals", "[I", true)
def tyX4 : Nat → FieldType := fun k => match k with
  | 0 => .object "CallRoom$Floor"
  | 1 => .object "CallRoom$Floor"
  | 2 => .object "CallRoom$Shifts"
  | _ => .array .int
theorem nmX4 : ∀ a, a < 4 → ∀ b, b < 4 → a ≠ b → (TX4 a).2.1 ≠ (TX4 b).2.1 := by decide +kernel
theorem tyX4_ok : ∀ k, k < 4 → parseFieldDescriptor (TX4 k).2.2.1 = some (tyX4 k) := by decide +kernel
abbrev cX4_init : ByteArray := prog_1_method_1_code
def yX4_init : MethodName := ⟨RX4, "<init>", "()V"⟩
abbrev cX4_helper : ByteArray := prog_1_method_2_code
def yX4_helper : MethodName := ⟨RX4, "helper", "(I)I"⟩
abbrev cX4_grade : ByteArray := prog_1_method_3_code
def yX4_grade : MethodName := ⟨RX4, "grade", "(III)I"⟩
abbrev cX4_duty : ByteArray := prog_1_method_4_code
def yX4_duty : MethodName := ⟨RX4, "duty", "(I)I"⟩
abbrev cX4_out : ByteArray := prog_1_method_5_code
def yX4_out : MethodName := ⟨RX4, "out", "(I)I"⟩
abbrev cX4_pause : ByteArray := prog_1_method_6_code
def yX4_pause : MethodName := ⟨RX4, "pause", "(II)I"⟩
abbrev cX4_call : ByteArray := prog_1_method_7_code
def yX4_call : MethodName := ⟨RX4, "call", "(IIIII)I"⟩
abbrev cX4_rule : ByteArray := prog_1_method_8_code
def yX4_rule : MethodName := ⟨RX4, "rule", "(I)I"⟩
abbrev cX4_prefer : ByteArray := prog_1_method_9_code
def yX4_prefer : MethodName := ⟨RX4, "prefer", "(I)I"⟩
abbrev cX4_ring : ByteArray := prog_1_method_10_code
def yX4_ring : MethodName := ⟨RX4, "ring", "(II)I"⟩
abbrev cX4_pass : ByteArray := prog_1_method_11_code
def yX4_pass : MethodName := ⟨RX4, "pass", "(III)I"⟩
abbrev cX4_leave : ByteArray := prog_1_method_12_code
def yX4_leave : MethodName := ⟨RX4, "leave", "(I)I"⟩
abbrev cX4_urge : ByteArray := prog_1_method_13_code
def yX4_urge : MethodName := ⟨RX4, "urge", "(I)I"⟩
abbrev cX4_ticks : ByteArray := prog_1_method_14_code
def yX4_ticks : MethodName := ⟨RX4, "ticks", "(I)I"⟩
abbrev cX4_wait : ByteArray := prog_1_method_15_code
def yX4_wait : MethodName := ⟨RX4, "wait", "(I)I"⟩
abbrev cX4_who : ByteArray := prog_1_method_16_code
def yX4_who : MethodName := ⟨RX4, "who", "(I)I"⟩
abbrev cX4_why : ByteArray := prog_1_method_17_code
def yX4_why : MethodName := ⟨RX4, "why", "(I)I"⟩
abbrev cX4_within : ByteArray := prog_1_method_18_code
def yX4_within : MethodName := ⟨RX4, "within", "(I)I"⟩
abbrev cX4_loss : ByteArray := prog_1_method_19_code
def yX4_loss : MethodName := ⟨RX4, "loss", "(II)I"⟩
abbrev cX4_wanted : ByteArray := prog_1_method_20_code
def yX4_wanted : MethodName := ⟨RX4, "wanted", "(II)I"⟩
abbrev cX4_want : ByteArray := prog_1_method_21_code
def yX4_want : MethodName := ⟨RX4, "want", "(II)I"⟩
abbrev cX4_cover : ByteArray := prog_1_method_22_code
def yX4_cover : MethodName := ⟨RX4, "cover", "(I)I"⟩
abbrev cX4_begins : ByteArray := prog_1_method_23_code
def yX4_begins : MethodName := ⟨RX4, "begins", "(I)I"⟩
abbrev cX4_helperOf : ByteArray := prog_1_method_24_code
def yX4_helperOf : MethodName := ⟨RX4, "helperOf", "(II)I"⟩
abbrev cX4_callOf : ByteArray := prog_1_method_25_code
def yX4_callOf : MethodName := ⟨RX4, "callOf", "(II)I"⟩
abbrev cX4_count : ByteArray := prog_1_method_26_code
def yX4_count : MethodName := ⟨RX4, "count", "(I)I"⟩
abbrev cX4_refuse : ByteArray := prog_1_method_27_code
def yX4_refuse : MethodName := ⟨RX4, "refuse", "(I)I"⟩
abbrev cX4_notWaiting : ByteArray := prog_1_method_28_code
def yX4_notWaiting : MethodName := ⟨RX4, "notWaiting", "(I)I"⟩
abbrev cX4_helperIfGivenNow : ByteArray := prog_1_method_29_code
def yX4_helperIfGivenNow : MethodName := ⟨RX4, "helperIfGivenNow", "(I)I"⟩
abbrev cX4_isSort : ByteArray := prog_1_method_30_code
def yX4_isSort : MethodName := ⟨RX4, "isSort", "(I)Z"⟩
abbrev cX4_isQuarter : ByteArray := prog_1_method_31_code
def yX4_isQuarter : MethodName := ⟨RX4, "isQuarter", "(I)Z"⟩
abbrev cX4_outside : ByteArray := prog_1_method_32_code
def yX4_outside : MethodName := ⟨RX4, "outside", "(III)I"⟩
abbrev cX4_lossWithOneMore : ByteArray := prog_1_method_33_code
def yX4_lossWithOneMore : MethodName := ⟨RX4, "lossWithOneMore", "(JII)J"⟩
def RX5 : String := "CallRoomModel"
def TX5 : u_T := fun k => match k with
  | 0 => ("CallRoomModel", "refusals", "[I", true)
  | 1 => ("CallRoomModel", "wants", "[I", true)
  | 2 => ("CallRoomModel", "begins", "[I", true)
  | 3 => ("CallRoomModel", "tick", "I", false)
  | 4 => ("CallRoomModel", "helpers", "I", false)
  | 5 => ("CallRoomModel", "calls", "I", false)
  | 6 => ("CallRoomModel", "rule", "I", false)
  | 7 => ("CallRoomModel", "prefer", "I", false)
  | 8 => ("CallRoomModel", "grades", "[I", true)
  | 9 => ("CallRoomModel", "does", "[I", true)
  | 10 => ("CallRoomModel", "since", "[I", true)
  | 11 => ("CallRoomModel", "over", "[I", true)
  | 12 => ("CallRoomModel", "had", "[I", true)
  | 13 => ("CallRoomModel", "busy", "[I", true)
  | 14 => ("CallRoomModel", "kind", "[I", true)
  | 15 => ("CallRoomModel", "sort", "[I", true)
  | 16 => ("CallRoomModel", "length", "[I", true)
  | 17 => ("CallRoomModel", "patience", "[I", true)
  | 18 => ("CallRoomModel", "came", "[I", true)
  | 19 => ("CallRoomModel", "own", "[I", true)
  | 20 => ("CallRoomModel", "state", "[I", true)
  | 21 => ("CallRoomModel", "waits", "[I", true)
  | 22 => ("CallRoomModel", "helper", "[I", true)
  | 23 => ("CallRoomModel", "ends", "[I", true)
  | 24 => ("CallRoomModel", "waited", "[I", true)
  | 25 => ("CallRoomModel", "first", "[I", true)
  | 26 => ("CallRoomModel", "load", "[I", true)
  | 27 => ("CallRoomModel", "keptLoad", "[I", true)
  | 28 => ("CallRoomModel", "writes", "[Z", true)
  | 29 => ("CallRoomModel", "keptWrites", "[Z", true)
  | 30 => ("CallRoomModel", "keptTick", "I", false)
  | 31 => ("CallRoomModel", "keptDoes", "[I", true)
  | 32 => ("CallRoomModel", "keptSince", "[I", true)
  | 33 => ("CallRoomModel", "keptHad", "[I", true)
  | 34 => ("CallRoomModel", "keptBusy", "[I", true)
  | 35 => ("CallRoomModel", "keptState", "[I", true)
  | 36 => ("CallRoomModel", "keptWaits", "[I", true)
  | 37 => ("CallRoomModel", "keptHelper", "[I", true)
  | 38 => ("CallRoomModel", "keptEnds", "[I", true)
  | 39 => ("CallRoomModel", "keptWaited", "[I", true)
  | _ => ("CallRoomModel", "keptFirst", "[I", true)
def tyX5 : Nat → FieldType := fun k => match k with
  | 0 => .array .int
  | 1 => .array .int
  | 2 => .array .int
  | 3 => .int
  | 4 => .int
  | 5 => .int
  | 6 => .int
  | 7 => .int
  | 8 => .array .int
  | 9 => .array .int
  | 10 => .array .int
  | 11 => .array .int
  | 12 => .array .int
  | 13 => .array .int
  | 14 => .array .int
  | 15 => .array .int
  | 16 => .array .int
  | 17 => .array .int
  | 18 => .array .int
  | 19 => .array .int
  | 20 => .array .int
  | 21 => .array .int
  | 22 => .array .int
  | 23 => .array .int
  | 24 => .array .int
  | 25 => .array .int
  | 26 => .array .int
  | 27 => .array .int
  | 28 => .array .boolean
  | 29 => .array .boolean
  | 30 => .int
  | 31 => .array .int
  | 32 => .array .int
  | 33 => .array .int
  | 34 => .array .int
  | 35 => .array .int
  | 36 => .array .int
  | 37 => .array .int
  | 38 => .array .int
  | 39 => .array .int
  | _ => .array .int
theorem nmX5 : ∀ a, a < 41 → ∀ b, b < 41 → a ≠ b → (TX5 a).2.1 ≠ (TX5 b).2.1 := by decide +kernel
theorem tyX5_ok : ∀ k, k < 41 → parseFieldDescriptor (TX5 k).2.2.1 = some (tyX5 k) := by decide +kernel
abbrev cX5_init : ByteArray := prog_7_method_1_code
def yX5_init : MethodName := ⟨RX5, "<init>", "()V"⟩
abbrev cX5_refuse : ByteArray := prog_7_method_2_code
def yX5_refuse : MethodName := ⟨RX5, "refuse", "(I)I"⟩
abbrev cX5_isIn : ByteArray := prog_7_method_3_code
def yX5_isIn : MethodName := ⟨RX5, "isIn", "(II)Z"⟩
abbrev cX5_gradeOf : ByteArray := prog_7_method_4_code
def yX5_gradeOf : MethodName := ⟨RX5, "gradeOf", "(II)I"⟩
abbrev cX5_helper : ByteArray := prog_7_method_5_code
def yX5_helper : MethodName := ⟨RX5, "helper", "(I)I"⟩
abbrev cX5_grade : ByteArray := prog_7_method_6_code
def yX5_grade : MethodName := ⟨RX5, "grade", "(III)I"⟩
abbrev cX5_becomes : ByteArray := prog_7_method_7_code
def yX5_becomes : MethodName := ⟨RX5, "becomes", "(II)V"⟩
abbrev cX5_duty : ByteArray := prog_7_method_8_code
def yX5_duty : MethodName := ⟨RX5, "duty", "(I)I"⟩
abbrev cX5_out : ByteArray := prog_7_method_9_code
def yX5_out : MethodName := ⟨RX5, "out", "(I)I"⟩
abbrev cX5_pause : ByteArray := prog_7_method_10_code
def yX5_pause : MethodName := ⟨RX5, "pause", "(II)I"⟩
abbrev cX5_call : ByteArray := prog_7_method_11_code
def yX5_call : MethodName := ⟨RX5, "call", "(IIIII)I"⟩
abbrev cX5_rule : ByteArray := prog_7_method_12_code
def yX5_rule : MethodName := ⟨RX5, "rule", "(I)I"⟩
abbrev cX5_prefer : ByteArray := prog_7_method_13_code
def yX5_prefer : MethodName := ⟨RX5, "prefer", "(I)I"⟩
abbrev cX5_ring : ByteArray := prog_7_method_14_code
def yX5_ring : MethodName := ⟨RX5, "ring", "(II)I"⟩
abbrev cX5_loses : ByteArray := prog_7_method_15_code
def yX5_loses : MethodName := ⟨RX5, "loses", "(I)V"⟩
abbrev cX5_pass : ByteArray := prog_7_method_16_code
def yX5_pass : MethodName := ⟨RX5, "pass", "(III)I"⟩
abbrev cX5_leave : ByteArray := prog_7_method_17_code
def yX5_leave : MethodName := ⟨RX5, "leave", "(I)I"⟩
abbrev cX5_urge : ByteArray := prog_7_method_18_code
def yX5_urge : MethodName := ⟨RX5, "urge", "(I)I"⟩
abbrev cX5_waitedOf : ByteArray := prog_7_method_19_code
def yX5_waitedOf : MethodName := ⟨RX5, "waitedOf", "(I)I"⟩
abbrev cX5_hasRoom : ByteArray := prog_7_method_20_code
def yX5_hasRoom : MethodName := ⟨RX5, "hasRoom", "(I)Z"⟩
abbrev cX5_may : ByteArray := prog_7_method_21_code
def yX5_may : MethodName := ⟨RX5, "may", "(II)Z"⟩
abbrev cX5_isTakeable : ByteArray := prog_7_method_22_code
def yX5_isTakeable : MethodName := ⟨RX5, "isTakeable", "(I)Z"⟩
abbrev cX5_freeFor : ByteArray := prog_7_method_23_code
def yX5_freeFor : MethodName := ⟨RX5, "freeFor", "(I)I"⟩
abbrev cX5_rankOf : ByteArray := prog_7_method_24_code
def yX5_rankOf : MethodName := ⟨RX5, "rankOf", "(I)I"⟩
abbrev cX5_nextCall : ByteArray := prog_7_method_25_code
def yX5_nextCall : MethodName := ⟨RX5, "nextCall", "()I"⟩
abbrev cX5_sortsOf : ByteArray := prog_7_method_26_code
def yX5_sortsOf : MethodName := ⟨RX5, "sortsOf", "(I)I"⟩
abbrev cX5_isAhead : ByteArray := prog_7_method_27_code
def yX5_isAhead : MethodName := ⟨RX5, "isAhead", "(III)Z"⟩
abbrev cX5_helperFor : ByteArray := prog_7_method_28_code
def yX5_helperFor : MethodName := ⟨RX5, "helperFor", "(I)I"⟩
abbrev cX5_give : ByteArray := prog_7_method_29_code
def yX5_give : MethodName := ⟨RX5, "give", "()V"⟩
abbrev cX5_goesOn : ByteArray := prog_7_method_30_code
def yX5_goesOn : MethodName := ⟨RX5, "goesOn", "()I"⟩
abbrev cX5_ticks : ByteArray := prog_7_method_31_code
def yX5_ticks : MethodName := ⟨RX5, "ticks", "(I)I"⟩
abbrev cX5_keep : ByteArray := prog_7_method_32_code
def yX5_keep : MethodName := ⟨RX5, "keep", "()V"⟩
abbrev cX5_putBack : ByteArray := prog_7_method_33_code
def yX5_putBack : MethodName := ⟨RX5, "putBack", "()V"⟩
abbrev cX5_wait : ByteArray := prog_7_method_34_code
def yX5_wait : MethodName := ⟨RX5, "wait", "(I)I"⟩
abbrev cX5_whoOf : ByteArray := prog_7_method_35_code
def yX5_whoOf : MethodName := ⟨RX5, "whoOf", "(I)I"⟩
abbrev cX5_who : ByteArray := prog_7_method_36_code
def yX5_who : MethodName := ⟨RX5, "who", "(I)I"⟩
abbrev cX5_why : ByteArray := prog_7_method_37_code
def yX5_why : MethodName := ⟨RX5, "why", "(I)I"⟩
abbrev cX5_within : ByteArray := prog_7_method_38_code
def yX5_within : MethodName := ⟨RX5, "within", "(I)I"⟩
abbrev cX5_lossOf : ByteArray := prog_7_method_39_code
def yX5_lossOf : MethodName := ⟨RX5, "lossOf", "(II)I"⟩
abbrev cX5_loss : ByteArray := prog_7_method_40_code
def yX5_loss : MethodName := ⟨RX5, "loss", "(II)I"⟩
abbrev cX5_wanted : ByteArray := prog_7_method_41_code
def yX5_wanted : MethodName := ⟨RX5, "wanted", "(II)I"⟩
abbrev cX5_want : ByteArray := prog_7_method_42_code
def yX5_want : MethodName := ⟨RX5, "want", "(II)I"⟩
abbrev cX5_cover : ByteArray := prog_7_method_43_code
def yX5_cover : MethodName := ⟨RX5, "cover", "(I)I"⟩
abbrev cX5_begins : ByteArray := prog_7_method_44_code
def yX5_begins : MethodName := ⟨RX5, "begins", "(I)I"⟩
abbrev cX5_helperOf : ByteArray := prog_7_method_45_code
def yX5_helperOf : MethodName := ⟨RX5, "helperOf", "(II)I"⟩
abbrev cX5_callOf : ByteArray := prog_7_method_46_code
def yX5_callOf : MethodName := ⟨RX5, "callOf", "(II)I"⟩
abbrev cX5_inState : ByteArray := prog_7_method_47_code
def yX5_inState : MethodName := ⟨RX5, "inState", "(I)I"⟩
abbrev cX5_count : ByteArray := prog_7_method_48_code
def yX5_count : MethodName := ⟨RX5, "count", "(I)I"⟩
def cr_tb : List Cond := lw_tbl.filter goodWord
theorem cr_in {w : Cond} {i : Nat} (h : lw_tbl[i]? = some w) (g : goodWord w = true) : w ∈ cr_tb := List.mem_filter.mpr ⟨List.mem_of_getElem? h, g⟩
theorem cr_lw {w : Cond} (h : w ∈ cr_tb) : w ∈ lw_tbl ∧ goodWord w = true := List.mem_filter.mp h
theorem iX0 : ∀ w ∈ u_ws RX0 TX0 13, w ∈ cr_tb := by decide +kernel
theorem iX1 : ∀ w ∈ u_ws RX1 TX1 7, w ∈ cr_tb := by decide +kernel
theorem iX2 : ∀ w ∈ u_ws RX2 TX2 9, w ∈ cr_tb := by decide +kernel
theorem iX3 : ∀ w ∈ u_ws RX3 TX3 2, w ∈ cr_tb := by decide +kernel
theorem iX4 : ∀ w ∈ u_ws RX4 TX4 4, w ∈ cr_tb := by decide +kernel
theorem iX5 : ∀ w ∈ u_ws RX5 TX5 41, w ∈ cr_tb := by decide +kernel
abbrev cr_cl : List vw_C := [(RX0, TX0, 13), (RX1, TX1, 7), (RX2, TX2, 9), (RX3, TX3, 2), (RX4, TX4, 4), (RX5, TX5, 41)]
abbrev cJ_max : ByteArray := prog_9_method_65_code
def yJ_max : MethodName := ⟨"java/lang/Math", "max", "(II)I"⟩
abbrev cJ_min : ByteArray := prog_9_method_69_code
def yJ_min : MethodName := ⟨"java/lang/Math", "min", "(II)I"⟩
abbrev cJ_bit : ByteArray := prog_8_method_49_code
def yJ_bit : MethodName := ⟨"java/lang/Integer", "bitCount", "(I)I"⟩
