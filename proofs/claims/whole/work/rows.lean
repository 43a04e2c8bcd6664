section
-- ===== PART A: goes FIRST, ahead of the names: the tables' words, and 'selects' of the private methods out of them =====
/-- a private method of a class that the tables say can be made, by its rows of tables_1 -/
def lw_okq (q : MethodName × Nat) : Prop := (q.1.cls ≠ "java/lang/invoke/MethodHandle" ∧ q.1.cls ≠ "java/lang/invoke/VarHandle") ∧ Cond.instantiable q.1.cls q.2 ∈ tables_1 ∧ Cond.privateMethod q.1 ∈ tables_1 ∧ Cond.instanceMethod q.1 ∈ tables_1
theorem lw_p0 : lw_okq (⟨"CallRoom", "refuse", "(I)I"⟩, 4) := ⟨⟨by decide +kernel, by decide +kernel⟩, List.mem_of_getElem? (i := 11) (by decide +kernel), List.mem_of_getElem? (i := 196) (by decide +kernel), List.mem_of_getElem? (i := 197) (by decide +kernel)⟩
theorem lw_p1 : lw_okq (⟨"CallRoom", "notWaiting", "(I)I"⟩, 4) := ⟨⟨by decide +kernel, by decide +kernel⟩, List.mem_of_getElem? (i := 11) (by decide +kernel), List.mem_of_getElem? (i := 274) (by decide +kernel), List.mem_of_getElem? (i := 275) (by decide +kernel)⟩
theorem lw_p2 : lw_okq (⟨"CallRoom$Floor", "passTick", "()I"⟩, 7) := ⟨⟨by decide +kernel, by decide +kernel⟩, List.mem_of_getElem? (i := 19) (by decide +kernel), List.mem_of_getElem? (i := 313) (by decide +kernel), List.mem_of_getElem? (i := 314) (by decide +kernel)⟩
theorem lw_p3 : lw_okq (⟨"CallRoom$Floor", "endCalls", "()I"⟩, 7) := ⟨⟨by decide +kernel, by decide +kernel⟩, List.mem_of_getElem? (i := 19) (by decide +kernel), List.mem_of_getElem? (i := 321) (by decide +kernel), List.mem_of_getElem? (i := 322) (by decide +kernel)⟩
theorem lw_p4 : lw_okq (⟨"CallRoom$Floor", "endWith", "(I)V"⟩, 7) := ⟨⟨by decide +kernel, by decide +kernel⟩, List.mem_of_getElem? (i := 19) (by decide +kernel), List.mem_of_getElem? (i := 325) (by decide +kernel), List.mem_of_getElem? (i := 326) (by decide +kernel)⟩
theorem lw_p5 : lw_okq (⟨"CallRoom$Floor", "nextToGive", "()I"⟩, 7) := ⟨⟨by decide +kernel, by decide +kernel⟩, List.mem_of_getElem? (i := 19) (by decide +kernel), List.mem_of_getElem? (i := 347) (by decide +kernel), List.mem_of_getElem? (i := 348) (by decide +kernel)⟩
theorem lw_p6 : lw_okq (⟨"CallRoom$Floor", "countTakers", "()I"⟩, 7) := ⟨⟨by decide +kernel, by decide +kernel⟩, List.mem_of_getElem? (i := 19) (by decide +kernel), List.mem_of_getElem? (i := 351) (by decide +kernel), List.mem_of_getElem? (i := 352) (by decide +kernel)⟩
theorem lw_p7 : lw_okq (⟨"CallRoom$Floor", "isTakeable", "(I)Z"⟩, 7) := ⟨⟨by decide +kernel, by decide +kernel⟩, List.mem_of_getElem? (i := 19) (by decide +kernel), List.mem_of_getElem? (i := 359) (by decide +kernel), List.mem_of_getElem? (i := 360) (by decide +kernel)⟩
theorem lw_p8 : lw_okq (⟨"CallRoom$Floor", "isKeptForOwn", "(I)Z"⟩, 7) := ⟨⟨by decide +kernel, by decide +kernel⟩, List.mem_of_getElem? (i := 19) (by decide +kernel), List.mem_of_getElem? (i := 363) (by decide +kernel), List.mem_of_getElem? (i := 364) (by decide +kernel)⟩
theorem lw_p9 : lw_okq (⟨"CallRoom$Floor", "rankOf", "(I)I"⟩, 7) := ⟨⟨by decide +kernel, by decide +kernel⟩, List.mem_of_getElem? (i := 19) (by decide +kernel), List.mem_of_getElem? (i := 367) (by decide +kernel), List.mem_of_getElem? (i := 368) (by decide +kernel)⟩
theorem lw_p10 : lw_okq (⟨"CallRoom$Floor", "bestHelper", "(I)I"⟩, 7) := ⟨⟨by decide +kernel, by decide +kernel⟩, List.mem_of_getElem? (i := 19) (by decide +kernel), List.mem_of_getElem? (i := 372) (by decide +kernel), List.mem_of_getElem? (i := 373) (by decide +kernel)⟩
theorem lw_p11 : lw_okq (⟨"CallRoom$Floor", "give", "(II)V"⟩, 7) := ⟨⟨by decide +kernel, by decide +kernel⟩, List.mem_of_getElem? (i := 19) (by decide +kernel), List.mem_of_getElem? (i := 391) (by decide +kernel), List.mem_of_getElem? (i := 392) (by decide +kernel)⟩
theorem lw_p12 : lw_okq (⟨"CallRoom$Floor", "skipQuietTicks", "(I)I"⟩, 7) := ⟨⟨by decide +kernel, by decide +kernel⟩, List.mem_of_getElem? (i := 19) (by decide +kernel), List.mem_of_getElem? (i := 404) (by decide +kernel), List.mem_of_getElem? (i := 405) (by decide +kernel)⟩
theorem lw_p13 : lw_okq (⟨"CallRoom$Floor", "nextChange", "()I"⟩, 7) := ⟨⟨by decide +kernel, by decide +kernel⟩, List.mem_of_getElem? (i := 19) (by decide +kernel), List.mem_of_getElem? (i := 408) (by decide +kernel), List.mem_of_getElem? (i := 409) (by decide +kernel)⟩
theorem lw_p14 : lw_okq (⟨"CallRoom", "helperIfGivenNow", "(I)I"⟩, 4) := ⟨⟨by decide +kernel, by decide +kernel⟩, List.mem_of_getElem? (i := 11) (by decide +kernel), List.mem_of_getElem? (i := 458) (by decide +kernel), List.mem_of_getElem? (i := 459) (by decide +kernel)⟩
theorem lw_p15 : lw_okq (⟨"CallRoomModel", "refuse", "(I)I"⟩, 41) := ⟨⟨by decide +kernel, by decide +kernel⟩, List.mem_of_getElem? (i := 547) (by decide +kernel), List.mem_of_getElem? (i := 682) (by decide +kernel), List.mem_of_getElem? (i := 683) (by decide +kernel)⟩
def lw_privs_1 : List (MethodName × Nat) := [(⟨"CallRoom", "refuse", "(I)I"⟩, 4), (⟨"CallRoom", "notWaiting", "(I)I"⟩, 4), (⟨"CallRoom$Floor", "passTick", "()I"⟩, 7), (⟨"CallRoom$Floor", "endCalls", "()I"⟩, 7), (⟨"CallRoom$Floor", "endWith", "(I)V"⟩, 7), (⟨"CallRoom$Floor", "nextToGive", "()I"⟩, 7), (⟨"CallRoom$Floor", "countTakers", "()I"⟩, 7), (⟨"CallRoom$Floor", "isTakeable", "(I)Z"⟩, 7), (⟨"CallRoom$Floor", "isKeptForOwn", "(I)Z"⟩, 7), (⟨"CallRoom$Floor", "rankOf", "(I)I"⟩, 7), (⟨"CallRoom$Floor", "bestHelper", "(I)I"⟩, 7), (⟨"CallRoom$Floor", "give", "(II)V"⟩, 7), (⟨"CallRoom$Floor", "skipQuietTicks", "(I)I"⟩, 7), (⟨"CallRoom$Floor", "nextChange", "()I"⟩, 7), (⟨"CallRoom", "helperIfGivenNow", "(I)I"⟩, 4), (⟨"CallRoomModel", "refuse", "(I)I"⟩, 41)]
theorem lw_r1 : ∀ q ∈ lw_privs_1, lw_okq q := List.forall_mem_cons.mpr ⟨lw_p0, List.forall_mem_cons.mpr ⟨lw_p1, List.forall_mem_cons.mpr ⟨lw_p2, List.forall_mem_cons.mpr ⟨lw_p3, List.forall_mem_cons.mpr ⟨lw_p4, List.forall_mem_cons.mpr ⟨lw_p5, List.forall_mem_cons.mpr ⟨lw_p6, List.forall_mem_cons.mpr ⟨lw_p7, List.forall_mem_cons.mpr ⟨lw_p8, List.forall_mem_cons.mpr ⟨lw_p9, List.forall_mem_cons.mpr ⟨lw_p10, List.forall_mem_cons.mpr ⟨lw_p11, List.forall_mem_cons.mpr ⟨lw_p12, List.forall_mem_cons.mpr ⟨lw_p13, List.forall_mem_cons.mpr ⟨lw_p14, List.forall_mem_cons.mpr ⟨lw_p15, fun _ h => absurd h List.not_mem_nil⟩⟩⟩⟩⟩⟩⟩⟩⟩⟩⟩⟩⟩⟩⟩⟩
theorem lw_p16 : lw_okq (⟨"CallRoomModel", "gradeOf", "(II)I"⟩, 41) := ⟨⟨by decide +kernel, by decide +kernel⟩, List.mem_of_getElem? (i := 547) (by decide +kernel), List.mem_of_getElem? (i := 693) (by decide +kernel), List.mem_of_getElem? (i := 694) (by decide +kernel)⟩
theorem lw_p17 : lw_okq (⟨"CallRoomModel", "becomes", "(II)V"⟩, 41) := ⟨⟨by decide +kernel, by decide +kernel⟩, List.mem_of_getElem? (i := 547) (by decide +kernel), List.mem_of_getElem? (i := 701) (by decide +kernel), List.mem_of_getElem? (i := 702) (by decide +kernel)⟩
theorem lw_p18 : lw_okq (⟨"CallRoomModel", "loses", "(I)V"⟩, 41) := ⟨⟨by decide +kernel, by decide +kernel⟩, List.mem_of_getElem? (i := 547) (by decide +kernel), List.mem_of_getElem? (i := 733) (by decide +kernel), List.mem_of_getElem? (i := 734) (by decide +kernel)⟩
theorem lw_p19 : lw_okq (⟨"CallRoomModel", "goesOn", "()I"⟩, 41) := ⟨⟨by decide +kernel, by decide +kernel⟩, List.mem_of_getElem? (i := 547) (by decide +kernel), List.mem_of_getElem? (i := 749) (by decide +kernel), List.mem_of_getElem? (i := 750) (by decide +kernel)⟩
theorem lw_p20 : lw_okq (⟨"CallRoomModel", "waitedOf", "(I)I"⟩, 41) := ⟨⟨by decide +kernel, by decide +kernel⟩, List.mem_of_getElem? (i := 547) (by decide +kernel), List.mem_of_getElem? (i := 753) (by decide +kernel), List.mem_of_getElem? (i := 754) (by decide +kernel)⟩
theorem lw_p21 : lw_okq (⟨"CallRoomModel", "give", "()V"⟩, 41) := ⟨⟨by decide +kernel, by decide +kernel⟩, List.mem_of_getElem? (i := 547) (by decide +kernel), List.mem_of_getElem? (i := 757) (by decide +kernel), List.mem_of_getElem? (i := 758) (by decide +kernel)⟩
theorem lw_p22 : lw_okq (⟨"CallRoomModel", "nextCall", "()I"⟩, 41) := ⟨⟨by decide +kernel, by decide +kernel⟩, List.mem_of_getElem? (i := 547) (by decide +kernel), List.mem_of_getElem? (i := 761) (by decide +kernel), List.mem_of_getElem? (i := 762) (by decide +kernel)⟩
theorem lw_p23 : lw_okq (⟨"CallRoomModel", "isTakeable", "(I)Z"⟩, 41) := ⟨⟨by decide +kernel, by decide +kernel⟩, List.mem_of_getElem? (i := 547) (by decide +kernel), List.mem_of_getElem? (i := 765) (by decide +kernel), List.mem_of_getElem? (i := 766) (by decide +kernel)⟩
theorem lw_p24 : lw_okq (⟨"CallRoomModel", "may", "(II)Z"⟩, 41) := ⟨⟨by decide +kernel, by decide +kernel⟩, List.mem_of_getElem? (i := 547) (by decide +kernel), List.mem_of_getElem? (i := 769) (by decide +kernel), List.mem_of_getElem? (i := 770) (by decide +kernel)⟩
theorem lw_p25 : lw_okq (⟨"CallRoomModel", "hasRoom", "(I)Z"⟩, 41) := ⟨⟨by decide +kernel, by decide +kernel⟩, List.mem_of_getElem? (i := 547) (by decide +kernel), List.mem_of_getElem? (i := 773) (by decide +kernel), List.mem_of_getElem? (i := 774) (by decide +kernel)⟩
theorem lw_p26 : lw_okq (⟨"CallRoomModel", "rankOf", "(I)I"⟩, 41) := ⟨⟨by decide +kernel, by decide +kernel⟩, List.mem_of_getElem? (i := 547) (by decide +kernel), List.mem_of_getElem? (i := 777) (by decide +kernel), List.mem_of_getElem? (i := 778) (by decide +kernel)⟩
theorem lw_p27 : lw_okq (⟨"CallRoomModel", "freeFor", "(I)I"⟩, 41) := ⟨⟨by decide +kernel, by decide +kernel⟩, List.mem_of_getElem? (i := 547) (by decide +kernel), List.mem_of_getElem? (i := 781) (by decide +kernel), List.mem_of_getElem? (i := 782) (by decide +kernel)⟩
theorem lw_p28 : lw_okq (⟨"CallRoomModel", "helperFor", "(I)I"⟩, 41) := ⟨⟨by decide +kernel, by decide +kernel⟩, List.mem_of_getElem? (i := 547) (by decide +kernel), List.mem_of_getElem? (i := 785) (by decide +kernel), List.mem_of_getElem? (i := 786) (by decide +kernel)⟩
theorem lw_p29 : lw_okq (⟨"CallRoomModel", "isAhead", "(III)Z"⟩, 41) := ⟨⟨by decide +kernel, by decide +kernel⟩, List.mem_of_getElem? (i := 547) (by decide +kernel), List.mem_of_getElem? (i := 789) (by decide +kernel), List.mem_of_getElem? (i := 790) (by decide +kernel)⟩
theorem lw_p30 : lw_okq (⟨"CallRoomModel", "sortsOf", "(I)I"⟩, 41) := ⟨⟨by decide +kernel, by decide +kernel⟩, List.mem_of_getElem? (i := 547) (by decide +kernel), List.mem_of_getElem? (i := 793) (by decide +kernel), List.mem_of_getElem? (i := 794) (by decide +kernel)⟩
theorem lw_p31 : lw_okq (⟨"CallRoomModel", "keep", "()V"⟩, 41) := ⟨⟨by decide +kernel, by decide +kernel⟩, List.mem_of_getElem? (i := 547) (by decide +kernel), List.mem_of_getElem? (i := 801) (by decide +kernel), List.mem_of_getElem? (i := 802) (by decide +kernel)⟩
def lw_privs_2 : List (MethodName × Nat) := [(⟨"CallRoomModel", "gradeOf", "(II)I"⟩, 41), (⟨"CallRoomModel", "becomes", "(II)V"⟩, 41), (⟨"CallRoomModel", "loses", "(I)V"⟩, 41), (⟨"CallRoomModel", "goesOn", "()I"⟩, 41), (⟨"CallRoomModel", "waitedOf", "(I)I"⟩, 41), (⟨"CallRoomModel", "give", "()V"⟩, 41), (⟨"CallRoomModel", "nextCall", "()I"⟩, 41), (⟨"CallRoomModel", "isTakeable", "(I)Z"⟩, 41), (⟨"CallRoomModel", "may", "(II)Z"⟩, 41), (⟨"CallRoomModel", "hasRoom", "(I)Z"⟩, 41), (⟨"CallRoomModel", "rankOf", "(I)I"⟩, 41), (⟨"CallRoomModel", "freeFor", "(I)I"⟩, 41), (⟨"CallRoomModel", "helperFor", "(I)I"⟩, 41), (⟨"CallRoomModel", "isAhead", "(III)Z"⟩, 41), (⟨"CallRoomModel", "sortsOf", "(I)I"⟩, 41), (⟨"CallRoomModel", "keep", "()V"⟩, 41)]
theorem lw_r2 : ∀ q ∈ lw_privs_2, lw_okq q := List.forall_mem_cons.mpr ⟨lw_p16, List.forall_mem_cons.mpr ⟨lw_p17, List.forall_mem_cons.mpr ⟨lw_p18, List.forall_mem_cons.mpr ⟨lw_p19, List.forall_mem_cons.mpr ⟨lw_p20, List.forall_mem_cons.mpr ⟨lw_p21, List.forall_mem_cons.mpr ⟨lw_p22, List.forall_mem_cons.mpr ⟨lw_p23, List.forall_mem_cons.mpr ⟨lw_p24, List.forall_mem_cons.mpr ⟨lw_p25, List.forall_mem_cons.mpr ⟨lw_p26, List.forall_mem_cons.mpr ⟨lw_p27, List.forall_mem_cons.mpr ⟨lw_p28, List.forall_mem_cons.mpr ⟨lw_p29, List.forall_mem_cons.mpr ⟨lw_p30, List.forall_mem_cons.mpr ⟨lw_p31, fun _ h => absurd h List.not_mem_nil⟩⟩⟩⟩⟩⟩⟩⟩⟩⟩⟩⟩⟩⟩⟩⟩
theorem lw_p32 : lw_okq (⟨"CallRoomModel", "putBack", "()V"⟩, 41) := ⟨⟨by decide +kernel, by decide +kernel⟩, List.mem_of_getElem? (i := 547) (by decide +kernel), List.mem_of_getElem? (i := 805) (by decide +kernel), List.mem_of_getElem? (i := 806) (by decide +kernel)⟩
theorem lw_p33 : lw_okq (⟨"CallRoomModel", "whoOf", "(I)I"⟩, 41) := ⟨⟨by decide +kernel, by decide +kernel⟩, List.mem_of_getElem? (i := 547) (by decide +kernel), List.mem_of_getElem? (i := 813) (by decide +kernel), List.mem_of_getElem? (i := 814) (by decide +kernel)⟩
theorem lw_p34 : lw_okq (⟨"CallRoomModel", "inState", "(I)I"⟩, 41) := ⟨⟨by decide +kernel, by decide +kernel⟩, List.mem_of_getElem? (i := 547) (by decide +kernel), List.mem_of_getElem? (i := 865) (by decide +kernel), List.mem_of_getElem? (i := 866) (by decide +kernel)⟩
def lw_privs_3 : List (MethodName × Nat) := [(⟨"CallRoomModel", "putBack", "()V"⟩, 41), (⟨"CallRoomModel", "whoOf", "(I)I"⟩, 41), (⟨"CallRoomModel", "inState", "(I)I"⟩, 41)]
theorem lw_r3 : ∀ q ∈ lw_privs_3, lw_okq q := List.forall_mem_cons.mpr ⟨lw_p32, List.forall_mem_cons.mpr ⟨lw_p33, List.forall_mem_cons.mpr ⟨lw_p34, fun _ h => absurd h List.not_mem_nil⟩⟩⟩
def lw_privs : List (MethodName × Nat) := lw_privs_1 ++ (lw_privs_2 ++ (lw_privs_3))
def lw_tbl : List Cond := k2_sels lw_privs ++ tables_1
theorem lw_privs_ok : ∀ q ∈ lw_privs, lw_okq q := by
  show ∀ q ∈ lw_privs_1 ++ (lw_privs_2 ++ (lw_privs_3)), lw_okq q
  exact List.forall_mem_append.mpr ⟨lw_r1, List.forall_mem_append.mpr ⟨lw_r2, lw_r3⟩⟩
def RX0 : String := "CallRoom$Calls"
def TX0 : u_T := fun k => match k with
  | 0 => ("CallRoom$Calls", "size", "I", false)
  | 1 => ("CallRoom$Calls", "doing", "[I", true)
  | 2 => ("CallRoom$Calls", "kind", "[I", true)
  | 3 => ("CallRoom$Calls", "own", "[I", true)
  | 4 => ("CallRoom$Calls", "sort", "[I", true)
  | 5 => ("CallRoom$Calls", "length", "[I", true)
  | 6 => ("CallRoom$Calls", "patience", "[I", true)
  | 7 => ("CallRoom$Calls", "came", "[I", true)
  | 8 => ("CallRoom$Calls", "since", "[I", true)
  | 9 => ("CallRoom$Calls", "helper", "[I", true)
  | 10 => ("CallRoom$Calls", "until", "[I", true)
  | 11 => ("CallRoom$Calls", "firstWaited", "[I", true)
  | _ => ("CallRoom$Calls", "lastWaited", "[I", true)
def tyX0 : Nat → FieldType := fun k => match k with
  | 0 => .int
  | 1 => .array .int
  | 2 => .array .int
  | 3 => .array .int
  | 4 => .array .int
  | 5 => .array .int
  | 6 => .array .int
  | 7 => .array .int
  | 8 => .array .int
  | 9 => .array .int
  | 10 => .array .int
  | 11 => .array .int
  | _ => .array .int
theorem nmX0 : ∀ a, a < 13 → ∀ b, b < 13 → a ≠ b → (TX0 a).2.1 ≠ (TX0 b).2.1 := by decide +kernel
theorem tyX0_ok : ∀ k, k < 13 → parseFieldDescriptor (TX0 k).2.2.1 = some (tyX0 k) := by decide +kernel
abbrev cX0_init : ByteArray := prog_2_method_1_code
def yX0_init : MethodName := ⟨RX0, "<init>", "()V"⟩
abbrev cX0_has : ByteArray := prog_2_method_2_code
def yX0_has : MethodName := ⟨RX0, "has", "(I)Z"⟩
abbrev cX0_add : ByteArray := prog_2_method_3_code
def yX0_add : MethodName := ⟨RX0, "add", "(II)I"⟩
abbrev cX0_describe : ByteArray := prog_2_method_4_code
def yX0_describe : MethodName := ⟨RX0, "describe", "(IIII)V"⟩
abbrev cX0_arrive : ByteArray := prog_2_method_5_code
def yX0_arrive : MethodName := ⟨RX0, "arrive", "(II)V"⟩
abbrev cX0_waitAgain : ByteArray := prog_2_method_6_code
def yX0_waitAgain : MethodName := ⟨RX0, "waitAgain", "(II)V"⟩
abbrev cX0_putBack : ByteArray := prog_2_method_7_code
def yX0_putBack : MethodName := ⟨RX0, "putBack", "(II)V"⟩
abbrev cX0_start : ByteArray := prog_2_method_8_code
def yX0_start : MethodName := ⟨RX0, "start", "(IIII)V"⟩
abbrev cX0_ringBackDue : ByteArray := prog_2_method_9_code
def yX0_ringBackDue : MethodName := ⟨RX0, "ringBackDue", "(I)V"⟩
abbrev cX0_loseImpatient : ByteArray := prog_2_method_10_code
def yX0_loseImpatient : MethodName := ⟨RX0, "loseImpatient", "(I)V"⟩
abbrev cX0_nextChange : ByteArray := prog_2_method_11_code
def yX0_nextChange : MethodName := ⟨RX0, "nextChange", "(III)I"⟩
abbrev cX0_firstWith : ByteArray := prog_2_method_12_code
def yX0_firstWith : MethodName := ⟨RX0, "firstWith", "(I)I"⟩
abbrev cX0_givenWithin : ByteArray := prog_2_method_13_code
def yX0_givenWithin : MethodName := ⟨RX0, "givenWithin", "(I)I"⟩
abbrev cX0_countDoing : ByteArray := prog_2_method_14_code
def yX0_countDoing : MethodName := ⟨RX0, "countDoing", "(I)I"⟩
abbrev cX0_copyFrom : ByteArray := prog_2_method_15_code
def yX0_copyFrom : MethodName := ⟨RX0, "copyFrom", "(LCallRoom$Calls;)V"⟩
def RX1 : String := "CallRoom$Floor"
def TX1 : u_T := fun k => match k with
  | 0 => ("CallRoom$Floor", "helpers", "LCallRoom$Helpers;", true)
  | 1 => ("CallRoom$Floor", "calls", "LCallRoom$Calls;", true)
  | 2 => ("CallRoom$Floor", "freeFor", "[I", true)
  | 3 => ("CallRoom$Floor", "withRoomFor", "[I", true)
  | 4 => ("CallRoom$Floor", "tick", "I", false)
  | 5 => ("CallRoom$Floor", "rule", "I", false)
  | _ => ("CallRoom$Floor", "prefer", "I", false)
def tyX1 : Nat → FieldType := fun k => match k with
  | 0 => .object "CallRoom$Helpers"
  | 1 => .object "CallRoom$Calls"
  | 2 => .array .int
  | 3 => .array .int
  | 4 => .int
  | 5 => .int
  | _ => .int
theorem nmX1 : ∀ a, a < 7 → ∀ b, b < 7 → a ≠ b → (TX1 a).2.1 ≠ (TX1 b).2.1 := by decide +kernel
theorem tyX1_ok : ∀ k, k < 7 → parseFieldDescriptor (TX1 k).2.2.1 = some (tyX1 k) := by decide +kernel
abbrev cX1_init : ByteArray := prog_3_method_1_code
def yX1_init : MethodName := ⟨RX1, "<init>", "()V"⟩
abbrev cX1_copyFrom : ByteArray := prog_3_method_2_code
def yX1_copyFrom : MethodName := ⟨RX1, "copyFrom", "(LCallRoom$Floor;)V"⟩
abbrev cX1_goOn : ByteArray := prog_3_method_3_code
def yX1_goOn : MethodName := ⟨RX1, "goOn", "(I)I"⟩
abbrev cX1_ticksTillOn : ByteArray := prog_3_method_4_code
def yX1_ticksTillOn : MethodName := ⟨RX1, "ticksTillOn", "(I)I"⟩
abbrev cX1_passTick : ByteArray := prog_3_method_5_code
def yX1_passTick : MethodName := ⟨RX1, "passTick", "()I"⟩
abbrev cX1_skipQuietTicks : ByteArray := prog_3_method_6_code
def yX1_skipQuietTicks : MethodName := ⟨RX1, "skipQuietTicks", "(I)I"⟩
abbrev cX1_nextChange : ByteArray := prog_3_method_7_code
def yX1_nextChange : MethodName := ⟨RX1, "nextChange", "()I"⟩
abbrev cX1_endCalls : ByteArray := prog_3_method_8_code
def yX1_endCalls : MethodName := ⟨RX1, "endCalls", "()I"⟩
abbrev cX1_endWith : ByteArray := prog_3_method_9_code
def yX1_endWith : MethodName := ⟨RX1, "endWith", "(I)V"⟩
abbrev cX1_giveAll : ByteArray := prog_3_method_10_code
def yX1_giveAll : MethodName := ⟨RX1, "giveAll", "()V"⟩
abbrev cX1_give : ByteArray := prog_3_method_11_code
def yX1_give : MethodName := ⟨RX1, "give", "(II)V"⟩
abbrev cX1_nextToGive : ByteArray := prog_3_method_12_code
def yX1_nextToGive : MethodName := ⟨RX1, "nextToGive", "()I"⟩
abbrev cX1_rankOf : ByteArray := prog_3_method_13_code
def yX1_rankOf : MethodName := ⟨RX1, "rankOf", "(I)I"⟩
abbrev cX1_countTakers : ByteArray := prog_3_method_14_code
def yX1_countTakers : MethodName := ⟨RX1, "countTakers", "()I"⟩
abbrev cX1_isTakeable : ByteArray := prog_3_method_15_code
def yX1_isTakeable : MethodName := ⟨RX1, "isTakeable", "(I)Z"⟩
abbrev cX1_isKeptForOwn : ByteArray := prog_3_method_16_code
def yX1_isKeptForOwn : MethodName := ⟨RX1, "isKeptForOwn", "(I)Z"⟩
abbrev cX1_bestHelper : ByteArray := prog_3_method_17_code
def yX1_bestHelper : MethodName := ⟨RX1, "bestHelper", "(I)I"⟩
abbrev cX1_hindrance : ByteArray := prog_3_method_18_code
def yX1_hindrance : MethodName := ⟨RX1, "hindrance", "(I)I"⟩
def RX2 : String := "CallRoom$Helpers"
def TX2 : u_T := fun k => match k with
  | 0 => ("CallRoom$Helpers", "size", "I", false)
  | 1 => ("CallRoom$Helpers", "grades", "[I", true)
  | 2 => ("CallRoom$Helpers", "doing", "[I", true)
  | 3 => ("CallRoom$Helpers", "since", "[I", true)
  | 4 => ("CallRoom$Helpers", "held", "[I", true)
  | 5 => ("CallRoom$Helpers", "heldKind", "[I", true)
  | 6 => ("CallRoom$Helpers", "served", "[I", true)
  | 7 => ("CallRoom$Helpers", "busyTicks", "[I", true)
  | _ => ("CallRoom$Helpers", "breakOver", "[I", true)
def tyX2 : Nat → FieldType := fun k => match k with
  | 0 => .int
  | 1 => .array .int
  | 2 => .array .int
  | 3 => .array .int
  | 4 => .array .int
  | 5 => .array .int
  | 6 => .array .int
  | 7 => .array .int
  | _ => .array .int
theorem nmX2 : ∀ a, a < 9 → ∀ b, b < 9 → a ≠ b → (TX2 a).2.1 ≠ (TX2 b).2.1 := by decide +kernel
theorem tyX2_ok : ∀ k, k < 9 → parseFieldDescriptor (TX2 k).2.2.1 = some (tyX2 k) := by decide +kernel
abbrev cX2_init : ByteArray := prog_4_method_1_code
def yX2_init : MethodName := ⟨RX2, "<init>", "()V"⟩
abbrev cX2_has : ByteArray := prog_4_method_2_code
def yX2_has : MethodName := ⟨RX2, "has", "(I)Z"⟩
abbrev cX2_add : ByteArray := prog_4_method_3_code
def yX2_add : MethodName := ⟨RX2, "add", "(II)I"⟩
abbrev cX2_become : ByteArray := prog_4_method_4_code
def yX2_become : MethodName := ⟨RX2, "become", "(III)V"⟩
abbrev cX2_gradeFor : ByteArray := prog_4_method_5_code
def yX2_gradeFor : MethodName := ⟨RX2, "gradeFor", "(II)I"⟩
abbrev cX2_setGrade : ByteArray := prog_4_method_6_code
def yX2_setGrade : MethodName := ⟨RX2, "setGrade", "(III)V"⟩
abbrev cX2_sortsOf : ByteArray := prog_4_method_7_code
def yX2_sortsOf : MethodName := ⟨RX2, "sortsOf", "(I)I"⟩
abbrev cX2_canTake : ByteArray := prog_4_method_8_code
def yX2_canTake : MethodName := ⟨RX2, "canTake", "(IIZ)Z"⟩
abbrev cX2_someCanTake : ByteArray := prog_4_method_9_code
def yX2_someCanTake : MethodName := ⟨RX2, "someCanTake", "(IZ)Z"⟩
abbrev cX2_someInHasGrade : ByteArray := prog_4_method_10_code
def yX2_someInHasGrade : MethodName := ⟨RX2, "someInHasGrade", "(I)Z"⟩
abbrev cX2_isBetter : ByteArray := prog_4_method_11_code
def yX2_isBetter : MethodName := ⟨RX2, "isBetter", "(III)Z"⟩
abbrev cX2_take : ByteArray := prog_4_method_12_code
def yX2_take : MethodName := ⟨RX2, "take", "(III)V"⟩
abbrev cX2_letGo : ByteArray := prog_4_method_13_code
def yX2_letGo : MethodName := ⟨RX2, "letGo", "(II)V"⟩
abbrev cX2_addBusyTicks : ByteArray := prog_4_method_14_code
def yX2_addBusyTicks : MethodName := ⟨RX2, "addBusyTicks", "(I)V"⟩
abbrev cX2_endBreaks : ByteArray := prog_4_method_15_code
def yX2_endBreaks : MethodName := ⟨RX2, "endBreaks", "(I)V"⟩
abbrev cX2_nextBreakOver : ByteArray := prog_4_method_16_code
def yX2_nextBreakOver : MethodName := ⟨RX2, "nextBreakOver", "()I"⟩
abbrev cX2_countFree : ByteArray := prog_4_method_17_code
def yX2_countFree : MethodName := ⟨RX2, "countFree", "()I"⟩
abbrev cX2_copyFrom : ByteArray := prog_4_method_18_code
def yX2_copyFrom : MethodName := ⟨RX2, "copyFrom", "(LCallRoom$Helpers;)V"⟩
def RX3 : String := "CallRoom$Shifts"
def TX3 : u_T := fun k => match k with
  | 0 => ("CallRoom$Shifts", "wants", "[I", true)
  | _ => ("CallRoom$Shifts", "beginning", "[I", true)
def tyX3 : Nat → FieldType := fun k => match k with
  | 0 => .array .int
  | _ => .array .int
theorem nmX3 : ∀ a, a < 2 → ∀ b, b < 2 → a ≠ b → (TX3 a).2.1 ≠ (TX3 b).2.1 := by decide +kernel
theorem tyX3_ok : ∀ k, k < 2 → parseFieldDescriptor (TX3 k).2.2.1 = some (tyX3 k) := by decide +kernel
abbrev cX3_init : ByteArray := prog_5_method_1_code
def yX3_init : MethodName := ⟨RX3, "<init>", "()V"⟩
abbrev cX3_plan : ByteArray := prog_5_method_2_code
def yX3_plan : MethodName := ⟨RX3, "plan", "(I)I"⟩
def RX4 : String := "CallRoom"
def TX4 : u_T := fun k => match k with
  | 0 => ("CallRoom", "floor", "LCallRoom$Floor;", true)
  | 1 => ("CallRoom", "trial", "LCallRoom$Floor;", true)
  | 2 => ("CallRoom", "shifts", "LCallRoom$Shifts;", true)
  | _ => ("CallRoom", "refusals", "[I", true)
def tyX4 : Nat → FieldType := fun k => match k with
  | 0 => .object "CallRoom$Floor"
  | 1 => .object "CallRoom$Floor"
  | 2 => .object "CallRoom$Shifts"
  | _ => .array .int
theorem nmX4 : ∀ a, a < 4 → ∀ b, b < 4 → a ≠ b → (TX4 a).2.1 ≠ (TX4 b).2.1 := by decide +kernel
theorem tyX4_ok : ∀ k, k < 4 → parseFieldDescriptor (TX4 k).2.2.1 = some (tyX4 k) := by decide +kernel
abbrev cX4_init : ByteArray := prog_1_method_1_code
def yX4_init : MethodName := ⟨RX4, "<init>", "()V"⟩
abbrev cX4_helper : ByteArray := prog_1_method_2_code
def yX4_helper : MethodName := ⟨RX4, "helper", "(I)I"⟩
abbrev cX4_grade : ByteArray := prog_1_method_3_code
def yX4_grade : MethodName := ⟨RX4, "grade", "(III)I"⟩
abbrev cX4_duty : ByteArray := prog_1_method_4_code
def yX4_duty : MethodName := ⟨RX4, "duty", "(I)I"⟩
abbrev cX4_out : ByteArray := prog_1_method_5_code
def yX4_out : MethodName := ⟨RX4, "out", "(I)I"⟩
abbrev cX4_pause : ByteArray := prog_1_method_6_code
def yX4_pause : MethodName := ⟨RX4, "pause", "(II)I"⟩
abbrev cX4_call : ByteArray := prog_1_method_7_code
def yX4_call : MethodName := ⟨RX4, "call", "(IIIII)I"⟩
abbrev cX4_rule : ByteArray := prog_1_method_8_code
def yX4_rule : MethodName := ⟨RX4, "rule", "(I)I"⟩
abbrev cX4_prefer : ByteArray := prog_1_method_9_code
def yX4_prefer : MethodName := ⟨RX4, "prefer", "(I)I"⟩
abbrev cX4_ring : ByteArray := prog_1_method_10_code
def yX4_ring : MethodName := ⟨RX4, "ring", "(II)I"⟩
abbrev cX4_pass : ByteArray := prog_1_method_11_code
def yX4_pass : MethodName := ⟨RX4, "pass", "(III)I"⟩
abbrev cX4_leave : ByteArray := prog_1_method_12_code
def yX4_leave : MethodName := ⟨RX4, "leave", "(I)I"⟩
abbrev cX4_urge : ByteArray := prog_1_method_13_code
def yX4_urge : MethodName := ⟨RX4, "urge", "(I)I"⟩
abbrev cX4_ticks : ByteArray := prog_1_method_14_code
def yX4_ticks : MethodName := ⟨RX4, "ticks", "(I)I"⟩
abbrev cX4_wait : ByteArray := prog_1_method_15_code
def yX4_wait : MethodName := ⟨RX4, "wait", "(I)I"⟩
abbrev cX4_who : ByteArray := prog_1_method_16_code
def yX4_who : MethodName := ⟨RX4, "who", "(I)I"⟩
abbrev cX4_why : ByteArray := prog_1_method_17_code
def yX4_why : MethodName := ⟨RX4, "why", "(I)I"⟩
abbrev cX4_within : ByteArray := prog_1_method_18_code
def yX4_within : MethodName := ⟨RX4, "within", "(I)I"⟩
abbrev cX4_loss : ByteArray := prog_1_method_19_code
def yX4_loss : MethodName := ⟨RX4, "loss", "(II)I"⟩
abbrev cX4_wanted : ByteArray := prog_1_method_20_code
def yX4_wanted : MethodName := ⟨RX4, "wanted", "(II)I"⟩
abbrev cX4_want : ByteArray := prog_1_method_21_code
def yX4_want : MethodName := ⟨RX4, "want", "(II)I"⟩
abbrev cX4_cover : ByteArray := prog_1_method_22_code
def yX4_cover : MethodName := ⟨RX4, "cover", "(I)I"⟩
abbrev cX4_begins : ByteArray := prog_1_method_23_code
def yX4_begins : MethodName := ⟨RX4, "begins", "(I)I"⟩
abbrev cX4_helperOf : ByteArray := prog_1_method_24_code
def yX4_helperOf : MethodName := ⟨RX4, "helperOf", "(II)I"⟩
abbrev cX4_callOf : ByteArray := prog_1_method_25_code
def yX4_callOf : MethodName := ⟨RX4, "callOf", "(II)I"⟩
abbrev cX4_count : ByteArray := prog_1_method_26_code
def yX4_count : MethodName := ⟨RX4, "count", "(I)I"⟩
abbrev cX4_refuse : ByteArray := prog_1_method_27_code
def yX4_refuse : MethodName := ⟨RX4, "refuse", "(I)I"⟩
abbrev cX4_notWaiting : ByteArray := prog_1_method_28_code
def yX4_notWaiting : MethodName := ⟨RX4, "notWaiting", "(I)I"⟩
abbrev cX4_helperIfGivenNow : ByteArray := prog_1_method_29_code
def yX4_helperIfGivenNow : MethodName := ⟨RX4, "helperIfGivenNow", "(I)I"⟩
abbrev cX4_isSort : ByteArray := prog_1_method_30_code
def yX4_isSort : MethodName := ⟨RX4, "isSort", "(I)Z"⟩
abbrev cX4_isQuarter : ByteArray := prog_1_method_31_code
def yX4_isQuarter : MethodName := ⟨RX4, "isQuarter", "(I)Z"⟩
abbrev cX4_outside : ByteArray := prog_1_method_32_code
def yX4_outside : MethodName := ⟨RX4, "outside", "(III)I"⟩
abbrev cX4_lossWithOneMore : ByteArray := prog_1_method_33_code
def yX4_lossWithOneMore : MethodName := ⟨RX4, "lossWithOneMore", "(JII)J"⟩
def RX5 : String := "CallRoomModel"
def TX5 : u_T := fun k => match k with
  | 0 => ("CallRoomModel", "refusals", "[I", true)
  | 1 => ("CallRoomModel", "wants", "[I", true)
  | 2 => ("CallRoomModel", "begins", "[I", true)
  | 3 => ("CallRoomModel", "tick", "I", false)
  | 4 => ("CallRoomModel", "helpers", "I", false)
  | 5 => ("CallRoomModel", "calls", "I", false)
  | 6 => ("CallRoomModel", "rule", "I", false)
  | 7 => ("CallRoomModel", "prefer", "I", false)
  | 8 => ("CallRoomModel", "grades", "[I", true)
  | 9 => ("CallRoomModel", "does", "[I", true)
  | 10 => ("CallRoomModel", "since", "[I", true)
  | 11 => ("CallRoomModel", "over", "[I", true)
  | 12 => ("CallRoomModel", "had", "[I", true)
  | 13 => ("CallRoomModel", "busy", "[I", true)
  | 14 => ("CallRoomModel", "kind", "[I", true)
  | 15 => ("CallRoomModel", "sort", "[I", true)
  | 16 => ("CallRoomModel", "length", "[I", true)
  | 17 => ("CallRoomModel", "patience", "[I", true)
  | 18 => ("CallRoomModel", "came", "[I", true)
  | 19 => ("CallRoomModel", "own", "[I", true)
  | 20 => ("CallRoomModel", "state", "[I", true)
  | 21 => ("CallRoomModel", "waits", "[I", true)
  | 22 => ("CallRoomModel", "helper", "[I", true)
  | 23 => ("CallRoomModel", "ends", "[I", true)
  | 24 => ("CallRoomModel", "waited", "[I", true)
  | 25 => ("CallRoomModel", "first", "[I", true)
  | 26 => ("CallRoomModel", "load", "[I", true)
  | 27 => ("CallRoomModel", "keptLoad", "[I", true)
  | 28 => ("CallRoomModel", "writes", "[Z", true)
  | 29 => ("CallRoomModel", "keptWrites", "[Z", true)
  | 30 => ("CallRoomModel", "keptTick", "I", false)
  | 31 => ("CallRoomModel", "keptDoes", "[I", true)
  | 32 => ("CallRoomModel", "keptSince", "[I", true)
  | 33 => ("CallRoomModel", "keptHad", "[I", true)
  | 34 => ("CallRoomModel", "keptBusy", "[I", true)
  | 35 => ("CallRoomModel", "keptState", "[I", true)
  | 36 => ("CallRoomModel", "keptWaits", "[I", true)
  | 37 => ("CallRoomModel", "keptHelper", "[I", true)
  | 38 => ("CallRoomModel", "keptEnds", "[I", true)
  | 39 => ("CallRoomModel", "keptWaited", "[I", true)
  | _ => ("CallRoomModel", "keptFirst", "[I", true)
def tyX5 : Nat → FieldType := fun k => match k with
  | 0 => .array .int
  | 1 => .array .int
  | 2 => .array .int
  | 3 => .int
  | 4 => .int
  | 5 => .int
  | 6 => .int
  | 7 => .int
  | 8 => .array .int
  | 9 => .array .int
  | 10 => .array .int
  | 11 => .array .int
  | 12 => .array .int
  | 13 => .array .int
  | 14 => .array .int
  | 15 => .array .int
  | 16 => .array .int
  | 17 => .array .int
  | 18 => .array .int
  | 19 => .array .int
  | 20 => .array .int
  | 21 => .array .int
  | 22 => .array .int
  | 23 => .array .int
  | 24 => .array .int
  | 25 => .array .int
  | 26 => .array .int
  | 27 => .array .int
  | 28 => .array .boolean
  | 29 => .array .boolean
  | 30 => .int
  | 31 => .array .int
  | 32 => .array .int
  | 33 => .array .int
  | 34 => .array .int
  | 35 => .array .int
  | 36 => .array .int
  | 37 => .array .int
  | 38 => .array .int
  | 39 => .array .int
  | _ => .array .int
theorem nmX5 : ∀ a, a < 41 → ∀ b, b < 41 → a ≠ b → (TX5 a).2.1 ≠ (TX5 b).2.1 := by decide +kernel
theorem tyX5_ok : ∀ k, k < 41 → parseFieldDescriptor (TX5 k).2.2.1 = some (tyX5 k) := by decide +kernel
abbrev cX5_init : ByteArray := prog_7_method_1_code
def yX5_init : MethodName := ⟨RX5, "<init>", "()V"⟩
abbrev cX5_refuse : ByteArray := prog_7_method_2_code
def yX5_refuse : MethodName := ⟨RX5, "refuse", "(I)I"⟩
abbrev cX5_isIn : ByteArray := prog_7_method_3_code
def yX5_isIn : MethodName := ⟨RX5, "isIn", "(II)Z"⟩
abbrev cX5_gradeOf : ByteArray := prog_7_method_4_code
def yX5_gradeOf : MethodName := ⟨RX5, "gradeOf", "(II)I"⟩
abbrev cX5_helper : ByteArray := prog_7_method_5_code
def yX5_helper : MethodName := ⟨RX5, "helper", "(I)I"⟩
abbrev cX5_grade : ByteArray := prog_7_method_6_code
def yX5_grade : MethodName := ⟨RX5, "grade", "(III)I"⟩
abbrev cX5_becomes : ByteArray := prog_7_method_7_code
def yX5_becomes : MethodName := ⟨RX5, "becomes", "(II)V"⟩
abbrev cX5_duty : ByteArray := prog_7_method_8_code
def yX5_duty : MethodName := ⟨RX5, "duty", "(I)I"⟩
abbrev cX5_out : ByteArray := prog_7_method_9_code
def yX5_out : MethodName := ⟨RX5, "out", "(I)I"⟩
abbrev cX5_pause : ByteArray := prog_7_method_10_code
def yX5_pause : MethodName := ⟨RX5, "pause", "(II)I"⟩
abbrev cX5_call : ByteArray := prog_7_method_11_code
def yX5_call : MethodName := ⟨RX5, "call", "(IIIII)I"⟩
abbrev cX5_rule : ByteArray := prog_7_method_12_code
def yX5_rule : MethodName := ⟨RX5, "rule", "(I)I"⟩
abbrev cX5_prefer : ByteArray := prog_7_method_13_code
def yX5_prefer : MethodName := ⟨RX5, "prefer", "(I)I"⟩
abbrev cX5_ring : ByteArray := prog_7_method_14_code
def yX5_ring : MethodName := ⟨RX5, "ring", "(II)I"⟩
abbrev cX5_loses : ByteArray := prog_7_method_15_code
def yX5_loses : MethodName := ⟨RX5, "loses", "(I)V"⟩
abbrev cX5_pass : ByteArray := prog_7_method_16_code
def yX5_pass : MethodName := ⟨RX5, "pass", "(III)I"⟩
abbrev cX5_leave : ByteArray := prog_7_method_17_code
def yX5_leave : MethodName := ⟨RX5, "leave", "(I)I"⟩
abbrev cX5_urge : ByteArray := prog_7_method_18_code
def yX5_urge : MethodName := ⟨RX5, "urge", "(I)I"⟩
abbrev cX5_waitedOf : ByteArray := prog_7_method_19_code
def yX5_waitedOf : MethodName := ⟨RX5, "waitedOf", "(I)I"⟩
abbrev cX5_hasRoom : ByteArray := prog_7_method_20_code
def yX5_hasRoom : MethodName := ⟨RX5, "hasRoom", "(I)Z"⟩
abbrev cX5_may : ByteArray := prog_7_method_21_code
def yX5_may : MethodName := ⟨RX5, "may", "(II)Z"⟩
abbrev cX5_isTakeable : ByteArray := prog_7_method_22_code
def yX5_isTakeable : MethodName := ⟨RX5, "isTakeable", "(I)Z"⟩
abbrev cX5_freeFor : ByteArray := prog_7_method_23_code
def yX5_freeFor : MethodName := ⟨RX5, "freeFor", "(I)I"⟩
abbrev cX5_rankOf : ByteArray := prog_7_method_24_code
def yX5_rankOf : MethodName := ⟨RX5, "rankOf", "(I)I"⟩
abbrev cX5_nextCall : ByteArray := prog_7_method_25_code
def yX5_nextCall : MethodName := ⟨RX5, "nextCall", "()I"⟩
abbrev cX5_sortsOf : ByteArray := prog_7_method_26_code
def yX5_sortsOf : MethodName := ⟨RX5, "sortsOf", "(I)I"⟩
abbrev cX5_isAhead : ByteArray := prog_7_method_27_code
def yX5_isAhead : MethodName := ⟨RX5, "isAhead", "(III)Z"⟩
abbrev cX5_helperFor : ByteArray := prog_7_method_28_code
def yX5_helperFor : MethodName := ⟨RX5, "helperFor", "(I)I"⟩
abbrev cX5_give : ByteArray := prog_7_method_29_code
def yX5_give : MethodName := ⟨RX5, "give", "()V"⟩
abbrev cX5_goesOn : ByteArray := prog_7_method_30_code
def yX5_goesOn : MethodName := ⟨RX5, "goesOn", "()I"⟩
abbrev cX5_ticks : ByteArray := prog_7_method_31_code
def yX5_ticks : MethodName := ⟨RX5, "ticks", "(I)I"⟩
abbrev cX5_keep : ByteArray := prog_7_method_32_code
def yX5_keep : MethodName := ⟨RX5, "keep", "()V"⟩
abbrev cX5_putBack : ByteArray := prog_7_method_33_code
def yX5_putBack : MethodName := ⟨RX5, "putBack", "()V"⟩
abbrev cX5_wait : ByteArray := prog_7_method_34_code
def yX5_wait : MethodName := ⟨RX5, "wait", "(I)I"⟩
abbrev cX5_whoOf : ByteArray := prog_7_method_35_code
def yX5_whoOf : MethodName := ⟨RX5, "whoOf", "(I)I"⟩
abbrev cX5_who : ByteArray := prog_7_method_36_code
def yX5_who : MethodName := ⟨RX5, "who", "(I)I"⟩
abbrev cX5_why : ByteArray := prog_7_method_37_code
def yX5_why : MethodName := ⟨RX5, "why", "(I)I"⟩
abbrev cX5_within : ByteArray := prog_7_method_38_code
def yX5_within : MethodName := ⟨RX5, "within", "(I)I"⟩
abbrev cX5_lossOf : ByteArray := prog_7_method_39_code
def yX5_lossOf : MethodName := ⟨RX5, "lossOf", "(II)I"⟩
abbrev cX5_loss : ByteArray := prog_7_method_40_code
def yX5_loss : MethodName := ⟨RX5, "loss", "(II)I"⟩
abbrev cX5_wanted : ByteArray := prog_7_method_41_code
def yX5_wanted : MethodName := ⟨RX5, "wanted", "(II)I"⟩
abbrev cX5_want : ByteArray := prog_7_method_42_code
def yX5_want : MethodName := ⟨RX5, "want", "(II)I"⟩
abbrev cX5_cover : ByteArray := prog_7_method_43_code
def yX5_cover : MethodName := ⟨RX5, "cover", "(I)I"⟩
abbrev cX5_begins : ByteArray := prog_7_method_44_code
def yX5_begins : MethodName := ⟨RX5, "begins", "(I)I"⟩
abbrev cX5_helperOf : ByteArray := prog_7_method_45_code
def yX5_helperOf : MethodName := ⟨RX5, "helperOf", "(II)I"⟩
abbrev cX5_callOf : ByteArray := prog_7_method_46_code
def yX5_callOf : MethodName := ⟨RX5, "callOf", "(II)I"⟩
abbrev cX5_inState : ByteArray := prog_7_method_47_code
def yX5_inState : MethodName := ⟨RX5, "inState", "(I)I"⟩
abbrev cX5_count : ByteArray := prog_7_method_48_code
def yX5_count : MethodName := ⟨RX5, "count", "(I)I"⟩
def cr_tb : List Cond := lw_tbl.filter goodWord
theorem cr_in {w : Cond} {i : Nat} (h : lw_tbl[i]? = some w) (g : goodWord w = true) : w ∈ cr_tb := List.mem_filter.mpr ⟨List.mem_of_getElem? h, g⟩
theorem cr_lw {w : Cond} (h : w ∈ cr_tb) : w ∈ lw_tbl ∧ goodWord w = true := List.mem_filter.mp h
theorem iX0 : ∀ w ∈ u_ws RX0 TX0 13, w ∈ cr_tb := by decide +kernel
theorem iX1 : ∀ w ∈ u_ws RX1 TX1 7, w ∈ cr_tb := by decide +kernel
theorem iX2 : ∀ w ∈ u_ws RX2 TX2 9, w ∈ cr_tb := by decide +kernel
theorem iX3 : ∀ w ∈ u_ws RX3 TX3 2, w ∈ cr_tb := by decide +kernel
theorem iX4 : ∀ w ∈ u_ws RX4 TX4 4, w ∈ cr_tb := by decide +kernel
theorem iX5 : ∀ w ∈ u_ws RX5 TX5 41, w ∈ cr_tb := by decide +kernel
abbrev cr_cl : List vw_C := [(RX0, TX0, 13), (RX1, TX1, 7), (RX2, TX2, 9), (RX3, TX3, 2), (RX4, TX4, 4), (RX5, TX5, 41)]
abbrev cJ_max : ByteArray := prog_9_method_65_code
def yJ_max : MethodName := ⟨"java/lang/Math", "max", "(II)I"⟩
abbrev cJ_min : ByteArray := prog_9_method_69_code
def yJ_min : MethodName := ⟨"java/lang/Math", "min", "(II)I"⟩
abbrev cJ_bit : ByteArray := prog_8_method_49_code
def yJ_bit : MethodName := ⟨"java/lang/Integer", "bitCount", "(I)I"⟩
end
section
/-! own picture of the worlds: cells by number, ints by cell and place -/
abbrev cr_AV : Type := Int32 ⊕ (Int64 ⊕ Nat)
abbrev cr_M : Type := Nat → Nat → Int32
/-- a cell's shape: an object (its class's number, its fields: none an int, some r a reference to cell r), or an array (length, boolean or int) -/
abbrev cr_Shp : Type := (Nat × List (Option Nat)) ⊕ (Nat × Bool)
/-- a method: name, bytes, locals, answer, the shape of its world, frames, words -/
abbrev cr_Y : Type := MethodName × ByteArray × Nat × Option FieldType × List cr_Shp × Nat × Nat
def cr_nm (Y : cr_Y) : MethodName := Y.1
def cr_by (Y : cr_Y) : ByteArray := Y.2.1
def cr_ml (Y : cr_Y) : Nat := Y.2.2.1
def cr_rt (Y : cr_Y) : Option FieldType := Y.2.2.2.1
def cr_sh (Y : cr_Y) : List cr_Shp := Y.2.2.2.2.1
def cr_fr (Y : cr_Y) : Nat := Y.2.2.2.2.2.1
def cr_lo (Y : cr_Y) : Nat := Y.2.2.2.2.2.2
def cr_rm (Y : cr_Y) : Room := { frames := cr_fr Y, cells := 0, slots := 0, locals := cr_lo Y }
def cr_tv (ad : Nat → Nat) (v : cr_AV) : Value := match v with
  | .inl x => .int x
  | .inr (.inl x) => .long x
  | .inr (.inr k) => .ref (ad k)
def cr_tl (ad : Nat → Nat) (q : Nat × cr_AV) : Nat × Value := (q.1, cr_tv ad q.2)
def cr_fv (ad : Nat → Nat) (row : Nat → Int32) (j : Nat) (f : Option Nat) : Value := match f with
  | none => .int (row j)
  | some r => .ref (ad r)
def cr_fs (ad : Nat → Nat) (row : Nat → Int32) : Nat → List (Option Nat) → List Value
  | _, [] => []
  | j, f :: t => cr_fv ad row j f :: cr_fs ad row (j + 1) t
def cr_ca (cI cZ : ClassId) (b : Bool) : ClassId := match b with
  | true => cZ
  | false => cI
def cr_en (cI cZ : ClassId) (ad : Nat → Nat) (row : Nat → Int32) (c : cr_Shp) : va_E := match c with
  | .inl o => .inr (o.1, cr_fs ad row 0 o.2)
  | .inr a => .inl (cr_ca cI cZ a.2, a.1, .inl row)
def cr_wl (cI cZ : ClassId) (ad : Nat → Nat) (M : cr_M) : Nat → List cr_Shp → va_W
  | _, [] => []
  | k, c :: t => (ad k, cr_en cI cZ ad (M k) c) :: cr_wl cI cZ ad M (k + 1) t
/-- one place of the memory changes -/
def cr_up (M : cr_M) (k i : Nat) (x : Int32) : cr_M := va_up M k (upd (M k) i x)
theorem cr_wl_get (cI cZ : ClassId) (ad : Nat → Nat) (M : cr_M) (sh : List cr_Shp) : ∀ (k i : Nat), (cr_wl cI cZ ad M k sh)[i]? = (sh[i]?).map (fun c => (ad (k + i), cr_en cI cZ ad (M (k + i)) c)) := by
  induction sh with
  | nil => intro k i; simp [cr_wl]
  | cons c t ih =>
    intro k i
    cases i with
    | zero => simp [cr_wl]
    | succ i =>
      have h : k + 1 + i = k + (i + 1) := by omega
      simp [cr_wl, ih, h]
theorem cr_wl_get0 {cI cZ : ClassId} {ad : Nat → Nat} {M : cr_M} {sh : List cr_Shp} {i : Nat} {c : cr_Shp} (h : sh[i]? = some c) : (cr_wl cI cZ ad M 0 sh)[i]? = some (ad i, cr_en cI cZ ad (M i) c) := by
  rw [cr_wl_get, h]; simp
theorem cr_wl_inv {cI cZ : ClassId} {ad : Nat → Nat} {M : cr_M} {sh : List cr_Shp} {i : Nat} {q : Nat × va_E} (h : (cr_wl cI cZ ad M 0 sh)[i]? = some q) : ∃ c, sh[i]? = some c ∧ q = (ad i, cr_en cI cZ ad (M i) c) := by
  rw [cr_wl_get] at h
  cases hc : sh[i]? with
  | none => rw [hc] at h; cases h
  | some c => rw [hc] at h; refine ⟨c, rfl, ?_⟩; simpa using h.symm
theorem cr_wl_set {cI cZ : ClassId} {ad : Nat → Nat} {M : cr_M} {sh : List cr_Shp} {k : Nat} {c : cr_Shp} (h : sh[k]? = some c) (row : Nat → Int32) : (cr_wl cI cZ ad M 0 sh).set k (ad k, cr_en cI cZ ad row c) = cr_wl cI cZ ad (va_up M k row) 0 sh := by
  apply List.ext_getElem?
  intro i
  rw [List.getElem?_set, cr_wl_get, cr_wl_get]
  by_cases hi : k = i
  · subst hi
    have hl : k < (cr_wl cI cZ ad M 0 sh).length := by
      have := cr_wl_get0 (cI := cI) (cZ := cZ) (ad := ad) (M := M) h
      exact (List.getElem?_eq_some_iff.mp this).1
    simp [hl, h, va_up]
  · have hi2 : ¬ i = k := fun e => hi e.symm
    simp [hi, hi2, va_up]
theorem cr_fs_get (ad : Nat → Nat) (row : Nat → Int32) (fs : List (Option Nat)) : ∀ (j i : Nat), (cr_fs ad row j fs)[i]? = (fs[i]?).map (cr_fv ad row (j + i)) := by
  induction fs with
  | nil => intro j i; simp [cr_fs]
  | cons f t ih =>
    intro j i
    cases i with
    | zero => simp [cr_fs]
    | succ i =>
      have h : j + 1 + i = j + (i + 1) := by omega
      simp [cr_fs, ih, h]
theorem cr_fs_set {ad : Nat → Nat} {row : Nat → Int32} {fs : List (Option Nat)} {j : Nat} (h : fs[j]? = some none) (x : Int32) : (cr_fs ad row 0 fs).set j (.int x) = cr_fs ad (upd row j x) 0 fs := by
  apply List.ext_getElem?
  intro i
  rw [List.getElem?_set, cr_fs_get, cr_fs_get]
  by_cases hi : j = i
  · subst hi
    have hl : j < (cr_fs ad row 0 fs).length := by
      have h2 : (cr_fs ad row 0 fs)[j]? = some (cr_fv ad row (0 + j) none) := by rw [cr_fs_get, h]; rfl
      exact (List.getElem?_eq_some_iff.mp h2).1
    simp [hl, h, cr_fv, upd]
  · have hi2 : ¬ i = j := fun e => hi e.symm
    simp only [hi, if_false]
    cases hf : fs[i]? with
    | none => rfl
    | some f => cases f <;> simp [cr_fv, upd, hi2]
/-- the addresses alone decide how the cells lie -/
theorem cr_wl_D {cI cZ : ClassId} {ad : Nat → Nat} {M M2 : cr_M} {sh : List cr_Shp} {A : Nat → Prop} (h : va_D A (cr_wl cI cZ ad M 0 sh)) : va_D A (cr_wl cI cZ ad M2 0 sh) := by
  refine ⟨fun i j p q hi hj hpq => ?_, fun k q hk => ?_⟩
  · obtain ⟨c, hc, rfl⟩ := cr_wl_inv hi
    obtain ⟨d, hd, rfl⟩ := cr_wl_inv hj
    exact h.1 i j _ _ (cr_wl_get0 hc) (cr_wl_get0 hd) hpq
  · obtain ⟨c, hc, rfl⟩ := cr_wl_inv hk
    exact (h.2 k (ad k, cr_en cI cZ ad (M k) c) (cr_wl_get0 hc) : A (ad k))
abbrev cr_ty (cI cZ : ClassId) : List (ClassId × FieldType) := [(cI, .int), (cZ, .boolean)]
def cr_B (D : va_G) (cI cZ : ClassId) (ad : Nat → Nat) (A : Nat → Prop) (sh : List cr_Shp) (M : cr_M) (t : State) : Prop :=
  va_P D cr_cl (cr_wl cI cZ ad M 0 sh) t.heap ∧ va_K D cr_cl (cr_ty cI cZ) t ∧ va_D A (cr_wl cI cZ ad M 0 sh)
def cr_Q (D : va_G) (cI cZ : ClassId) (ad : Nat → Nat) (A : Nat → Prop) (sh : List cr_Shp) (r : Option cr_AV × cr_M) : Array Value → State → Outcome → State → Prop := match r.1 with
  | none => va_Qv (fun _ : Unit => True) (fun _ t => cr_B D cI cZ ad A sh r.2 t) A
  | some (.inl v) => va_Qi (fun (x : Int32) (_ : Unit) => x = v) (fun _ t => cr_B D cI cZ ad A sh r.2 t) A
  | some (.inr (.inl v)) => va_Ql (fun (x : Int64) (_ : Unit) => x = v) (fun _ t => cr_B D cI cZ ad A sh r.2 t) A
  | some (.inr (.inr _)) => fun _ _ _ _ => False
def cr_Cx (Y : cr_Y) (D : va_G) (cI cZ : ClassId) (A : Nat → Prop) (p : Program) (s : State) (m : MethodId) (args : Array Value) (meth : Method) (c : Code) : Prop :=
  p.tables.exec = Jvm.exec ∧ c.code = cr_by Y ∧ meth.sig.returnType = cr_rt Y ∧ c.maxLocals = cr_ml Y ∧ s.vm.findClass (cr_nm Y).cls = some m.cls ∧ (∀ w ∈ cr_tb, w.before args s = true) ∧ meth.locks = false ∧ va_K D cr_cl (cr_ty cI cZ) s ∧ (∀ q : Nat, s.heap.size ≤ q → A q)
/-- from pc, with these locals, this stack and this memory, the method Y comes to its end with r (its answer, the memory then) -/
def cr_Ev (Y : cr_Y) (pc : Nat) (lv : List (Nat × cr_AV)) (st : List cr_AV) (M : cr_M) (r : Option cr_AV × cr_M) : Prop :=
  ∀ (l : Launch) (D : va_G) (cI cZ : ClassId) (ad : Nat → Nat) (A : Nat → Prop) (p : Program) (e : Env) (s : State) (m : MethodId) (args : Array Value) (below : List Frame) (meth : Method) (c : Code),
    cr_Cx Y D cI cZ A p s m args meth c → ∀ (H : Heap) (locs : List Loc) (ls : Array Slot), va_P D cr_cl (cr_wl cI cZ ad M 0 (cr_sh Y)) H → va_D A (cr_wl cI cZ ad M 0 (cr_sh Y)) → va_S A s.heap H locs → lv_has ls (cr_ml Y) (lv.map (cr_tl ad)) →
    W p l e (cr_rm Y) s m args below meth c H locs 0 0 (MQ below (cr_Q D cI cZ ad A (cr_sh Y) r) args s 0 0 A) (F0 m pc ls (st.map (cr_tv ad)))
def cr_lk : List (Nat × cr_AV) → Nat → Option cr_AV
  | [], _ => none
  | (j, v) :: t, i => if j = i then some v else cr_lk t i
theorem cr_lk_mem {lv : List (Nat × cr_AV)} {i : Nat} {v : cr_AV} (h : cr_lk lv i = some v) : (i, v) ∈ lv := by
  induction lv with
  | nil => cases h
  | cons a t ih =>
    obtain ⟨j, w⟩ := a
    unfold cr_lk at h
    by_cases hj : j = i
    · rw [if_pos hj] at h
      cases h; subst hj
      exact List.mem_cons_self
    · rw [if_neg hj] at h
      exact List.mem_cons_of_mem _ (ih h)
theorem cr_lk_at {ls : Array Slot} {n : Nat} {ad : Nat → Nat} {lv : List (Nat × cr_AV)} {i : Nat} {v : cr_AV} (hl : lv_has ls n (lv.map (cr_tl ad))) (h : cr_lk lv i = some v) : ls[i]? = some (.val (cr_tv ad v)) :=
  hl.2.2 (i, cr_tv ad v) (List.mem_map.mpr ⟨(i, v), cr_lk_mem h, rfl⟩)
/-- a local of one word is put -/
def cr_s1 : List (Nat × cr_AV) → Nat → List (Nat × cr_AV)
  | [], _ => []
  | (j, v) :: t, i => if j = i then cr_s1 t i else match v with
    | .inr (.inl _) => if j + 1 = i then cr_s1 t i else (j, v) :: cr_s1 t i
    | _ => (j, v) :: cr_s1 t i
def cr_s2 : List (Nat × cr_AV) → Nat → List (Nat × cr_AV)
  | [], _ => []
  | (j, v) :: t, i => if j = i then cr_s2 t i else if j = i + 1 then cr_s2 t i else match v with
    | .inr (.inl _) => if j + 1 = i then cr_s2 t i else (j, v) :: cr_s2 t i
    | _ => (j, v) :: cr_s2 t i
theorem cr_cat {ad : Nat → Nat} {v : cr_AV} : (cr_tv ad v).category = (match v with | .inr (.inl _) => 2 | _ => 1) := by
  rcases v with x | x | x <;> rfl
theorem cr_s1_mem {lv : List (Nat × cr_AV)} {i : Nat} {q : Nat × cr_AV} (h : q ∈ cr_s1 lv i) : q ∈ lv ∧ ¬ q.1 = i ∧ ∀ ad, ¬ (q.1 + 1 = i ∧ (cr_tv ad q.2).category = 2) := by
  induction lv with
  | nil => cases h
  | cons a t ih =>
    obtain ⟨j, v⟩ := a
    unfold cr_s1 at h
    by_cases hj : j = i
    · rw [if_pos hj] at h
      obtain ⟨h1, h2⟩ := ih h
      exact ⟨List.mem_cons_of_mem _ h1, h2⟩
    · rw [if_neg hj] at h
      rcases v with x | x | x
      · rcases List.mem_cons.mp h with rfl | h
        · exact ⟨List.mem_cons_self, hj, fun ad hc => by simp [cr_tv, Value.category] at hc⟩
        · obtain ⟨h1, h2⟩ := ih h
          exact ⟨List.mem_cons_of_mem _ h1, h2⟩
      · by_cases h3 : j + 1 = i
        · simp only [h3, if_true] at h
          obtain ⟨h1, h2⟩ := ih h
          exact ⟨List.mem_cons_of_mem _ h1, h2⟩
        · simp only [h3, if_false] at h
          rcases List.mem_cons.mp h with rfl | h
          · exact ⟨List.mem_cons_self, hj, fun ad hc => h3 hc.1⟩
          · obtain ⟨h1, h2⟩ := ih h
            exact ⟨List.mem_cons_of_mem _ h1, h2⟩
      · rcases List.mem_cons.mp h with rfl | h
        · exact ⟨List.mem_cons_self, hj, fun ad hc => by simp [cr_tv, Value.category] at hc⟩
        · obtain ⟨h1, h2⟩ := ih h
          exact ⟨List.mem_cons_of_mem _ h1, h2⟩
theorem cr_s2_mem {lv : List (Nat × cr_AV)} {i : Nat} {q : Nat × cr_AV} (h : q ∈ cr_s2 lv i) : q ∈ lv ∧ ¬ q.1 = i ∧ ¬ q.1 = i + 1 ∧ ∀ ad, ¬ (q.1 + 1 = i ∧ (cr_tv ad q.2).category = 2) := by
  induction lv with
  | nil => cases h
  | cons a t ih =>
    obtain ⟨j, v⟩ := a
    unfold cr_s2 at h
    by_cases hj : j = i
    · rw [if_pos hj] at h
      obtain ⟨h1, h2⟩ := ih h
      exact ⟨List.mem_cons_of_mem _ h1, h2⟩
    · rw [if_neg hj] at h
      by_cases hj2 : j = i + 1
      · rw [if_pos hj2] at h
        obtain ⟨h1, h2⟩ := ih h
        exact ⟨List.mem_cons_of_mem _ h1, h2⟩
      · rw [if_neg hj2] at h
        rcases v with x | x | x
        · rcases List.mem_cons.mp h with rfl | h
          · exact ⟨List.mem_cons_self, hj, hj2, fun ad hc => by simp [cr_tv, Value.category] at hc⟩
          · obtain ⟨h1, h2⟩ := ih h
            exact ⟨List.mem_cons_of_mem _ h1, h2⟩
        · by_cases h3 : j + 1 = i
          · simp only [h3, if_true] at h
            obtain ⟨h1, h2⟩ := ih h
            exact ⟨List.mem_cons_of_mem _ h1, h2⟩
          · simp only [h3, if_false] at h
            rcases List.mem_cons.mp h with rfl | h
            · exact ⟨List.mem_cons_self, hj, hj2, fun ad hc => h3 hc.1⟩
            · obtain ⟨h1, h2⟩ := ih h
              exact ⟨List.mem_cons_of_mem _ h1, h2⟩
        · rcases List.mem_cons.mp h with rfl | h
          · exact ⟨List.mem_cons_self, hj, hj2, fun ad hc => by simp [cr_tv, Value.category] at hc⟩
          · obtain ⟨h1, h2⟩ := ih h
            exact ⟨List.mem_cons_of_mem _ h1, h2⟩
theorem cr_s1_has {ls : Array Slot} {n : Nat} {ad : Nat → Nat} {lv : List (Nat × cr_AV)} {i : Nat} {v : cr_AV} (h : lv_has ls n ((i, cr_tv ad v) :: (lv.map (cr_tl ad)).filter (fun q => !(q.1 == i) && !(q.1 + 1 == i && q.2.category == 2)))) : lv_has ls n (((i, v) :: cr_s1 lv i).map (cr_tl ad)) := by
  refine ⟨h.1, h.2.1, fun q hq => h.2.2 q ?_⟩
  obtain ⟨a, ha, rfl⟩ := List.mem_map.mp hq
  rcases List.mem_cons.mp ha with rfl | ha
  · exact List.mem_cons_self
  · obtain ⟨h1, h2, h3⟩ := cr_s1_mem ha
    refine List.mem_cons_of_mem _ (List.mem_filter.mpr ⟨List.mem_map.mpr ⟨a, h1, rfl⟩, ?_⟩)
    have h4 := h3 ad
    simp [cr_tl, h2]
    exact Decidable.not_and_iff_or_not.mp h4
theorem cr_s2_has {ls : Array Slot} {n : Nat} {ad : Nat → Nat} {lv : List (Nat × cr_AV)} {i : Nat} {v : cr_AV} (h : lv_has ls n ((i, cr_tv ad v) :: (lv.map (cr_tl ad)).filter (fun q => !(q.1 == i) && (!(q.1 == i + 1) && !(q.1 + 1 == i && q.2.category == 2))))) : lv_has ls n (((i, v) :: cr_s2 lv i).map (cr_tl ad)) := by
  refine ⟨h.1, h.2.1, fun q hq => h.2.2 q ?_⟩
  obtain ⟨a, ha, rfl⟩ := List.mem_map.mp hq
  rcases List.mem_cons.mp ha with rfl | ha
  · exact List.mem_cons_self
  · obtain ⟨h1, h2, h3, h4⟩ := cr_s2_mem ha
    refine List.mem_cons_of_mem _ (List.mem_filter.mpr ⟨List.mem_map.mpr ⟨a, h1, rfl⟩, ?_⟩)
    have h5 := h4 ad
    simp [cr_tl, h2, h3]
    exact Decidable.not_and_iff_or_not.mp h5
theorem e_iconst {Y : cr_Y} {pc : Nat} {lv : List (Nat × cr_AV)} {st : List cr_AV} {M : cr_M} {r : Option cr_AV × cr_M} {n : Int} {v : Int32} (hd : decode (cr_by Y) pc = .ok (.iconst n, 1)) (hv : Int32.ofInt n = v) (k : cr_Ev Y (pc + 1) lv (.inl v :: st) M r) : cr_Ev Y pc lv (st) M r := by
  intro l D cI cZ ad A p e s m args below meth c C H locs ls hP hD hS hl
  obtain ⟨hx, hb, hr, hml, hown, hts, hlk, hK, hA⟩ := id C
  exact lv_iconst hx hb hd hv (k l D cI cZ ad A p e s m args below meth c C H locs ls hP hD hS hl)
theorem e_bipush {Y : cr_Y} {pc : Nat} {lv : List (Nat × cr_AV)} {st : List cr_AV} {M : cr_M} {r : Option cr_AV × cr_M} {n : Int} {v : Int32} (hd : decode (cr_by Y) pc = .ok (.bipush n, 2)) (hv : (Int8.ofInt n).toInt32 = v) (k : cr_Ev Y (pc + 2) lv (.inl v :: st) M r) : cr_Ev Y pc lv (st) M r := by
  intro l D cI cZ ad A p e s m args below meth c C H locs ls hP hD hS hl
  obtain ⟨hx, hb, hr, hml, hown, hts, hlk, hK, hA⟩ := id C
  exact lv_bipush hx hb hd hv (k l D cI cZ ad A p e s m args below meth c C H locs ls hP hD hS hl)
theorem e_sipush {Y : cr_Y} {pc : Nat} {lv : List (Nat × cr_AV)} {st : List cr_AV} {M : cr_M} {r : Option cr_AV × cr_M} {n : Int} {v : Int32} (hd : decode (cr_by Y) pc = .ok (.sipush n, 3)) (hv : (Int16.ofInt n).toInt32 = v) (k : cr_Ev Y (pc + 3) lv (.inl v :: st) M r) : cr_Ev Y pc lv (st) M r := by
  intro l D cI cZ ad A p e s m args below meth c C H locs ls hP hD hS hl
  obtain ⟨hx, hb, hr, hml, hown, hts, hlk, hK, hA⟩ := id C
  exact lv_sipush hx hb hd hv (k l D cI cZ ad A p e s m args below meth c C H locs ls hP hD hS hl)
theorem e_lconst {Y : cr_Y} {pc : Nat} {lv : List (Nat × cr_AV)} {st : List cr_AV} {M : cr_M} {r : Option cr_AV × cr_M} {n : Fin 2} {v : Int64} (hd : decode (cr_by Y) pc = .ok (.lconst n, 1)) (hv : Int64.ofNat (n : Nat) = v) (k : cr_Ev Y (pc + 1) lv (.inr (.inl v) :: st) M r) : cr_Ev Y pc lv (st) M r := by
  intro l D cI cZ ad A p e s m args below meth c C H locs ls hP hD hS hl
  obtain ⟨hx, hb, hr, hml, hown, hts, hlk, hK, hA⟩ := id C
  exact lv_lconst hx hb hd hv (k l D cI cZ ad A p e s m args below meth c C H locs ls hP hD hS hl)
theorem e_ldc {Y : cr_Y} {pc : Nat} {lv : List (Nat × cr_AV)} {st : List cr_AV} {M : cr_M} {r : Option cr_AV × cr_M} {i : Nat} {v : Int32} (hd : decode (cr_by Y) pc = .ok (.ldc i, 2)) (hc : Cond.constant (cr_nm Y).cls i v ∈ cr_tb) (k : cr_Ev Y (pc + 2) lv (.inl v :: st) M r) : cr_Ev Y pc lv (st) M r := by
  intro l D cI cZ ad A p e s m args below meth c C H locs ls hP hD hS hl
  obtain ⟨hx, hb, hr, hml, hown, hts, hlk, hK, hA⟩ := id C
  exact lv_ldc hx hb hown (hts _ hc) hd (k l D cI cZ ad A p e s m args below meth c C H locs ls hP hD hS hl)
theorem e_ldcw {Y : cr_Y} {pc : Nat} {lv : List (Nat × cr_AV)} {st : List cr_AV} {M : cr_M} {r : Option cr_AV × cr_M} {i : Nat} {v : Int32} (hd : decode (cr_by Y) pc = .ok (.ldc_w i, 3)) (hc : Cond.constant (cr_nm Y).cls i v ∈ cr_tb) (k : cr_Ev Y (pc + 3) lv (.inl v :: st) M r) : cr_Ev Y pc lv (st) M r := by
  intro l D cI cZ ad A p e s m args below meth c C H locs ls hP hD hS hl
  obtain ⟨hx, hb, hr, hml, hown, hts, hlk, hK, hA⟩ := id C
  exact lv_ldcw hx hb hown (hts _ hc) hd (k l D cI cZ ad A p e s m args below meth c C H locs ls hP hD hS hl)
theorem e_ldc2 {Y : cr_Y} {pc : Nat} {lv : List (Nat × cr_AV)} {st : List cr_AV} {M : cr_M} {r : Option cr_AV × cr_M} {i : Nat} {v : Int64} (hd : decode (cr_by Y) pc = .ok (.ldc2_w i, 3)) (hc : Cond.constantLong (cr_nm Y).cls i v ∈ cr_tb) (k : cr_Ev Y (pc + 3) lv (.inr (.inl v) :: st) M r) : cr_Ev Y pc lv (st) M r := by
  intro l D cI cZ ad A p e s m args below meth c C H locs ls hP hD hS hl
  obtain ⟨hx, hb, hr, hml, hown, hts, hlk, hK, hA⟩ := id C
  exact lv_ldc2 hx hb hown (hts _ hc) hd (k l D cI cZ ad A p e s m args below meth c C H locs ls hP hD hS hl)
theorem e_iload_n {Y : cr_Y} {pc : Nat} {lv : List (Nat × cr_AV)} {st : List cr_AV} {M : cr_M} {r : Option cr_AV × cr_M} {i : Fin 4} {x : Int32} (hd : decode (cr_by Y) pc = .ok (.iload_n i, 1)) (hv : cr_lk lv (i : Nat) = some (.inl x)) (k : cr_Ev Y (pc + 1) lv (.inl x :: st) M r) : cr_Ev Y pc lv (st) M r := by
  intro l D cI cZ ad A p e s m args below meth c C H locs ls hP hD hS hl
  obtain ⟨hx, hb, hr, hml, hown, hts, hlk, hK, hA⟩ := id C
  exact lv_iload_n hx hb hd rfl (cr_lk_at hl hv) (k l D cI cZ ad A p e s m args below meth c C H locs ls hP hD hS hl)
theorem e_iload {Y : cr_Y} {pc : Nat} {lv : List (Nat × cr_AV)} {st : List cr_AV} {M : cr_M} {r : Option cr_AV × cr_M} {i : Nat} {x : Int32} (hd : decode (cr_by Y) pc = .ok (.iload i, 2)) (hv : cr_lk lv i = some (.inl x)) (k : cr_Ev Y (pc + 2) lv (.inl x :: st) M r) : cr_Ev Y pc lv (st) M r := by
  intro l D cI cZ ad A p e s m args below meth c C H locs ls hP hD hS hl
  obtain ⟨hx, hb, hr, hml, hown, hts, hlk, hK, hA⟩ := id C
  exact lv_iload hx hb hd (cr_lk_at hl hv) (k l D cI cZ ad A p e s m args below meth c C H locs ls hP hD hS hl)
theorem e_lload_n {Y : cr_Y} {pc : Nat} {lv : List (Nat × cr_AV)} {st : List cr_AV} {M : cr_M} {r : Option cr_AV × cr_M} {i : Fin 4} {x : Int64} (hd : decode (cr_by Y) pc = .ok (.lload_n i, 1)) (hv : cr_lk lv (i : Nat) = some (.inr (.inl x))) (k : cr_Ev Y (pc + 1) lv (.inr (.inl x) :: st) M r) : cr_Ev Y pc lv (st) M r := by
  intro l D cI cZ ad A p e s m args below meth c C H locs ls hP hD hS hl
  obtain ⟨hx, hb, hr, hml, hown, hts, hlk, hK, hA⟩ := id C
  exact lv_lload_n hx hb hd rfl (cr_lk_at hl hv) (k l D cI cZ ad A p e s m args below meth c C H locs ls hP hD hS hl)
theorem e_lload {Y : cr_Y} {pc : Nat} {lv : List (Nat × cr_AV)} {st : List cr_AV} {M : cr_M} {r : Option cr_AV × cr_M} {i : Nat} {x : Int64} (hd : decode (cr_by Y) pc = .ok (.lload i, 2)) (hv : cr_lk lv i = some (.inr (.inl x))) (k : cr_Ev Y (pc + 2) lv (.inr (.inl x) :: st) M r) : cr_Ev Y pc lv (st) M r := by
  intro l D cI cZ ad A p e s m args below meth c C H locs ls hP hD hS hl
  obtain ⟨hx, hb, hr, hml, hown, hts, hlk, hK, hA⟩ := id C
  exact lv_lload hx hb hd (cr_lk_at hl hv) (k l D cI cZ ad A p e s m args below meth c C H locs ls hP hD hS hl)
theorem e_aload_n {Y : cr_Y} {pc : Nat} {lv : List (Nat × cr_AV)} {st : List cr_AV} {M : cr_M} {r : Option cr_AV × cr_M} {i : Fin 4} {x : Nat} (hd : decode (cr_by Y) pc = .ok (.aload_n i, 1)) (hv : cr_lk lv (i : Nat) = some (.inr (.inr x))) (k : cr_Ev Y (pc + 1) lv (.inr (.inr x) :: st) M r) : cr_Ev Y pc lv (st) M r := by
  intro l D cI cZ ad A p e s m args below meth c C H locs ls hP hD hS hl
  obtain ⟨hx, hb, hr, hml, hown, hts, hlk, hK, hA⟩ := id C
  exact lv_aload_n hx hb hd rfl (cr_lk_at hl hv) (k l D cI cZ ad A p e s m args below meth c C H locs ls hP hD hS hl)
theorem e_aload {Y : cr_Y} {pc : Nat} {lv : List (Nat × cr_AV)} {st : List cr_AV} {M : cr_M} {r : Option cr_AV × cr_M} {i : Nat} {x : Nat} (hd : decode (cr_by Y) pc = .ok (.aload i, 2)) (hv : cr_lk lv i = some (.inr (.inr x))) (k : cr_Ev Y (pc + 2) lv (.inr (.inr x) :: st) M r) : cr_Ev Y pc lv (st) M r := by
  intro l D cI cZ ad A p e s m args below meth c C H locs ls hP hD hS hl
  obtain ⟨hx, hb, hr, hml, hown, hts, hlk, hK, hA⟩ := id C
  exact lv_aload hx hb hd (cr_lk_at hl hv) (k l D cI cZ ad A p e s m args below meth c C H locs ls hP hD hS hl)
theorem e_istore_n {Y : cr_Y} {pc : Nat} {lv : List (Nat × cr_AV)} {st : List cr_AV} {M : cr_M} {r : Option cr_AV × cr_M} {i : Fin 4} {x : Int32} (hd : decode (cr_by Y) pc = .ok (.istore_n i, 1)) (hn : (i : Nat) < cr_ml Y) (k : cr_Ev Y (pc + 1) (((i : Nat), .inl x) :: cr_s1 lv i) st M r) : cr_Ev Y pc lv (.inl x :: st) M r := by
  intro l D cI cZ ad A p e s m args below meth c C H locs ls hP hD hS hl
  obtain ⟨hx, hb, hr, hml, hown, hts, hlk, hK, hA⟩ := id C
  exact lv_istore_n hx hb hd rfl hl hn rfl (fun ls' hl' => k l D cI cZ ad A p e s m args below meth c C H locs ls' hP hD hS (cr_s1_has hl'))
theorem e_istore {Y : cr_Y} {pc : Nat} {lv : List (Nat × cr_AV)} {st : List cr_AV} {M : cr_M} {r : Option cr_AV × cr_M} {i : Nat} {x : Int32} (hd : decode (cr_by Y) pc = .ok (.istore i, 2)) (hn : i < cr_ml Y) (k : cr_Ev Y (pc + 2) ((i, .inl x) :: cr_s1 lv i) st M r) : cr_Ev Y pc lv (.inl x :: st) M r := by
  intro l D cI cZ ad A p e s m args below meth c C H locs ls hP hD hS hl
  obtain ⟨hx, hb, hr, hml, hown, hts, hlk, hK, hA⟩ := id C
  exact lv_istore hx hb hd hl hn rfl (fun ls' hl' => k l D cI cZ ad A p e s m args below meth c C H locs ls' hP hD hS (cr_s1_has hl'))
theorem e_lstore_n {Y : cr_Y} {pc : Nat} {lv : List (Nat × cr_AV)} {st : List cr_AV} {M : cr_M} {r : Option cr_AV × cr_M} {i : Fin 4} {x : Int64} (hd : decode (cr_by Y) pc = .ok (.lstore_n i, 1)) (hn : (i : Nat) + 1 < cr_ml Y) (k : cr_Ev Y (pc + 1) (((i : Nat), .inr (.inl x)) :: cr_s2 lv i) st M r) : cr_Ev Y pc lv (.inr (.inl x) :: st) M r := by
  intro l D cI cZ ad A p e s m args below meth c C H locs ls hP hD hS hl
  obtain ⟨hx, hb, hr, hml, hown, hts, hlk, hK, hA⟩ := id C
  exact lv_lstore_n hx hb hd rfl hl hn rfl (fun ls' hl' => k l D cI cZ ad A p e s m args below meth c C H locs ls' hP hD hS (cr_s2_has hl'))
theorem e_lstore {Y : cr_Y} {pc : Nat} {lv : List (Nat × cr_AV)} {st : List cr_AV} {M : cr_M} {r : Option cr_AV × cr_M} {i : Nat} {x : Int64} (hd : decode (cr_by Y) pc = .ok (.lstore i, 2)) (hn : i + 1 < cr_ml Y) (k : cr_Ev Y (pc + 2) ((i, .inr (.inl x)) :: cr_s2 lv i) st M r) : cr_Ev Y pc lv (.inr (.inl x) :: st) M r := by
  intro l D cI cZ ad A p e s m args below meth c C H locs ls hP hD hS hl
  obtain ⟨hx, hb, hr, hml, hown, hts, hlk, hK, hA⟩ := id C
  exact lv_lstore hx hb hd hl hn rfl (fun ls' hl' => k l D cI cZ ad A p e s m args below meth c C H locs ls' hP hD hS (cr_s2_has hl'))
theorem e_astore_n {Y : cr_Y} {pc : Nat} {lv : List (Nat × cr_AV)} {st : List cr_AV} {M : cr_M} {r : Option cr_AV × cr_M} {i : Fin 4} {x : Nat} (hd : decode (cr_by Y) pc = .ok (.astore_n i, 1)) (hn : (i : Nat) < cr_ml Y) (k : cr_Ev Y (pc + 1) (((i : Nat), .inr (.inr x)) :: cr_s1 lv i) st M r) : cr_Ev Y pc lv (.inr (.inr x) :: st) M r := by
  intro l D cI cZ ad A p e s m args below meth c C H locs ls hP hD hS hl
  obtain ⟨hx, hb, hr, hml, hown, hts, hlk, hK, hA⟩ := id C
  exact lv_astore_n hx hb hd rfl hl hn rfl (fun ls' hl' => k l D cI cZ ad A p e s m args below meth c C H locs ls' hP hD hS (cr_s1_has hl'))
theorem e_astore {Y : cr_Y} {pc : Nat} {lv : List (Nat × cr_AV)} {st : List cr_AV} {M : cr_M} {r : Option cr_AV × cr_M} {i : Nat} {x : Nat} (hd : decode (cr_by Y) pc = .ok (.astore i, 2)) (hn : i < cr_ml Y) (k : cr_Ev Y (pc + 2) ((i, .inr (.inr x)) :: cr_s1 lv i) st M r) : cr_Ev Y pc lv (.inr (.inr x) :: st) M r := by
  intro l D cI cZ ad A p e s m args below meth c C H locs ls hP hD hS hl
  obtain ⟨hx, hb, hr, hml, hown, hts, hlk, hK, hA⟩ := id C
  exact lv_astore hx hb hd hl hn rfl (fun ls' hl' => k l D cI cZ ad A p e s m args below meth c C H locs ls' hP hD hS (cr_s1_has hl'))
theorem e_iinc {Y : cr_Y} {pc : Nat} {lv : List (Nat × cr_AV)} {st : List cr_AV} {M : cr_M} {r : Option cr_AV × cr_M} {i : Nat} {n : Int} {x v : Int32} (hd : decode (cr_by Y) pc = .ok (.iinc i n, 3)) (hv : cr_lk lv i = some (.inl x)) (hn : i < cr_ml Y) (he : x + Int32.ofInt n = v) (k : cr_Ev Y (pc + 3) ((i, .inl v) :: cr_s1 lv i) st M r) : cr_Ev Y pc lv st M r := by
  intro l D cI cZ ad A p e s m args below meth c C H locs ls hP hD hS hl
  obtain ⟨hx, hb, hr, hml, hown, hts, hlk, hK, hA⟩ := id C
  obtain ⟨j, hj⟩ := List.getElem?_of_mem (List.mem_map.mpr ⟨(i, (.inl x : cr_AV)), cr_lk_mem hv, rfl⟩ : cr_tl ad (i, .inl x) ∈ lv.map (cr_tl ad))
  exact lv_iinc (v := v) hx hb hd hl hj he hn rfl (fun ls' hl' => k l D cI cZ ad A p e s m args below meth c C H locs ls' hP hD hS (cr_s1_has hl'))
theorem e_iadd {Y : cr_Y} {pc : Nat} {lv : List (Nat × cr_AV)} {st : List cr_AV} {M : cr_M} {r : Option cr_AV × cr_M} {x y : Int32} (hd : decode (cr_by Y) pc = .ok (.iadd, 1)) (k : cr_Ev Y (pc + 1) lv (.inl (x + y) :: st) M r) : cr_Ev Y pc lv (.inl y :: .inl x :: st) M r := by
  intro l D cI cZ ad A p e s m args below meth c C H locs ls hP hD hS hl
  obtain ⟨hx, hb, hr, hml, hown, hts, hlk, hK, hA⟩ := id C
  exact lv_iadd hx hb hd (k l D cI cZ ad A p e s m args below meth c C H locs ls hP hD hS hl)
theorem e_isub {Y : cr_Y} {pc : Nat} {lv : List (Nat × cr_AV)} {st : List cr_AV} {M : cr_M} {r : Option cr_AV × cr_M} {x y : Int32} (hd : decode (cr_by Y) pc = .ok (.isub, 1)) (k : cr_Ev Y (pc + 1) lv (.inl (x - y) :: st) M r) : cr_Ev Y pc lv (.inl y :: .inl x :: st) M r := by
  intro l D cI cZ ad A p e s m args below meth c C H locs ls hP hD hS hl
  obtain ⟨hx, hb, hr, hml, hown, hts, hlk, hK, hA⟩ := id C
  exact lv_isub hx hb hd (k l D cI cZ ad A p e s m args below meth c C H locs ls hP hD hS hl)
theorem e_imul {Y : cr_Y} {pc : Nat} {lv : List (Nat × cr_AV)} {st : List cr_AV} {M : cr_M} {r : Option cr_AV × cr_M} {x y : Int32} (hd : decode (cr_by Y) pc = .ok (.imul, 1)) (k : cr_Ev Y (pc + 1) lv (.inl (x * y) :: st) M r) : cr_Ev Y pc lv (.inl y :: .inl x :: st) M r := by
  intro l D cI cZ ad A p e s m args below meth c C H locs ls hP hD hS hl
  obtain ⟨hx, hb, hr, hml, hown, hts, hlk, hK, hA⟩ := id C
  exact lv_imul hx hb hd (k l D cI cZ ad A p e s m args below meth c C H locs ls hP hD hS hl)
theorem e_iand {Y : cr_Y} {pc : Nat} {lv : List (Nat × cr_AV)} {st : List cr_AV} {M : cr_M} {r : Option cr_AV × cr_M} {x y : Int32} (hd : decode (cr_by Y) pc = .ok (.iand, 1)) (k : cr_Ev Y (pc + 1) lv (.inl (x &&& y) :: st) M r) : cr_Ev Y pc lv (.inl y :: .inl x :: st) M r := by
  intro l D cI cZ ad A p e s m args below meth c C H locs ls hP hD hS hl
  obtain ⟨hx, hb, hr, hml, hown, hts, hlk, hK, hA⟩ := id C
  exact lv_iand hx hb hd (k l D cI cZ ad A p e s m args below meth c C H locs ls hP hD hS hl)
theorem e_ior {Y : cr_Y} {pc : Nat} {lv : List (Nat × cr_AV)} {st : List cr_AV} {M : cr_M} {r : Option cr_AV × cr_M} {x y : Int32} (hd : decode (cr_by Y) pc = .ok (.ior, 1)) (k : cr_Ev Y (pc + 1) lv (.inl (x ||| y) :: st) M r) : cr_Ev Y pc lv (.inl y :: .inl x :: st) M r := by
  intro l D cI cZ ad A p e s m args below meth c C H locs ls hP hD hS hl
  obtain ⟨hx, hb, hr, hml, hown, hts, hlk, hK, hA⟩ := id C
  exact lv_ior hx hb hd (k l D cI cZ ad A p e s m args below meth c C H locs ls hP hD hS hl)
theorem e_ixor {Y : cr_Y} {pc : Nat} {lv : List (Nat × cr_AV)} {st : List cr_AV} {M : cr_M} {r : Option cr_AV × cr_M} {x y : Int32} (hd : decode (cr_by Y) pc = .ok (.ixor, 1)) (k : cr_Ev Y (pc + 1) lv (.inl (x ^^^ y) :: st) M r) : cr_Ev Y pc lv (.inl y :: .inl x :: st) M r := by
  intro l D cI cZ ad A p e s m args below meth c C H locs ls hP hD hS hl
  obtain ⟨hx, hb, hr, hml, hown, hts, hlk, hK, hA⟩ := id C
  exact lv_ixor hx hb hd (k l D cI cZ ad A p e s m args below meth c C H locs ls hP hD hS hl)
theorem e_ishl {Y : cr_Y} {pc : Nat} {lv : List (Nat × cr_AV)} {st : List cr_AV} {M : cr_M} {r : Option cr_AV × cr_M} {x y : Int32} (hd : decode (cr_by Y) pc = .ok (.ishl, 1)) (k : cr_Ev Y (pc + 1) lv (.inl (x <<< (y &&& 31)) :: st) M r) : cr_Ev Y pc lv (.inl y :: .inl x :: st) M r := by
  intro l D cI cZ ad A p e s m args below meth c C H locs ls hP hD hS hl
  obtain ⟨hx, hb, hr, hml, hown, hts, hlk, hK, hA⟩ := id C
  exact lv_ishl hx hb hd (k l D cI cZ ad A p e s m args below meth c C H locs ls hP hD hS hl)
theorem e_ishr {Y : cr_Y} {pc : Nat} {lv : List (Nat × cr_AV)} {st : List cr_AV} {M : cr_M} {r : Option cr_AV × cr_M} {x y : Int32} (hd : decode (cr_by Y) pc = .ok (.ishr, 1)) (k : cr_Ev Y (pc + 1) lv (.inl (x >>> (y &&& 31)) :: st) M r) : cr_Ev Y pc lv (.inl y :: .inl x :: st) M r := by
  intro l D cI cZ ad A p e s m args below meth c C H locs ls hP hD hS hl
  obtain ⟨hx, hb, hr, hml, hown, hts, hlk, hK, hA⟩ := id C
  exact lv_ishr hx hb hd (k l D cI cZ ad A p e s m args below meth c C H locs ls hP hD hS hl)
theorem e_idiv {Y : cr_Y} {pc : Nat} {lv : List (Nat × cr_AV)} {st : List cr_AV} {M : cr_M} {r : Option cr_AV × cr_M} {x y : Int32} (hd : decode (cr_by Y) pc = .ok (.idiv, 1)) (hne : ¬ y = 0) (k : cr_Ev Y (pc + 1) lv (.inl (x / y) :: st) M r) : cr_Ev Y pc lv (.inl y :: .inl x :: st) M r := by
  intro l D cI cZ ad A p e s m args below meth c C H locs ls hP hD hS hl
  obtain ⟨hx, hb, hr, hml, hown, hts, hlk, hK, hA⟩ := id C
  exact lv_idiv hx hb hd hne (k l D cI cZ ad A p e s m args below meth c C H locs ls hP hD hS hl)
theorem e_iushr {Y : cr_Y} {pc : Nat} {lv : List (Nat × cr_AV)} {st : List cr_AV} {M : cr_M} {r : Option cr_AV × cr_M} {x y v : Int32} (hd : decode (cr_by Y) pc = .ok (.iushr, 1)) (hv : (x.toUInt32 >>> (y.toUInt32 &&& Int32.toUInt32 31)).toInt32 = v) (k : cr_Ev Y (pc + 1) lv (.inl v :: st) M r) : cr_Ev Y pc lv (.inl y :: .inl x :: st) M r := by
  intro l D cI cZ ad A p e s m args below meth c C H locs ls hP hD hS hl
  obtain ⟨hx, hb, hr, hml, hown, hts, hlk, hK, hA⟩ := id C
  exact lv_iushr hx hb hd hv (k l D cI cZ ad A p e s m args below meth c C H locs ls hP hD hS hl)
theorem e_ineg {Y : cr_Y} {pc : Nat} {lv : List (Nat × cr_AV)} {st : List cr_AV} {M : cr_M} {r : Option cr_AV × cr_M} {x : Int32} (hd : decode (cr_by Y) pc = .ok (.ineg, 1)) (k : cr_Ev Y (pc + 1) lv (.inl (-x) :: st) M r) : cr_Ev Y pc lv (.inl x :: st) M r := by
  intro l D cI cZ ad A p e s m args below meth c C H locs ls hP hD hS hl
  obtain ⟨hx, hb, hr, hml, hown, hts, hlk, hK, hA⟩ := id C
  exact lv_ineg hx hb hd (k l D cI cZ ad A p e s m args below meth c C H locs ls hP hD hS hl)
theorem e_ladd {Y : cr_Y} {pc : Nat} {lv : List (Nat × cr_AV)} {st : List cr_AV} {M : cr_M} {r : Option cr_AV × cr_M} {x y : Int64} (hd : decode (cr_by Y) pc = .ok (.ladd, 1)) (k : cr_Ev Y (pc + 1) lv (.inr (.inl (x + y)) :: st) M r) : cr_Ev Y pc lv (.inr (.inl y) :: .inr (.inl x) :: st) M r := by
  intro l D cI cZ ad A p e s m args below meth c C H locs ls hP hD hS hl
  obtain ⟨hx, hb, hr, hml, hown, hts, hlk, hK, hA⟩ := id C
  exact lv_ladd hx hb hd (k l D cI cZ ad A p e s m args below meth c C H locs ls hP hD hS hl)
theorem e_lmul {Y : cr_Y} {pc : Nat} {lv : List (Nat × cr_AV)} {st : List cr_AV} {M : cr_M} {r : Option cr_AV × cr_M} {x y : Int64} (hd : decode (cr_by Y) pc = .ok (.lmul, 1)) (k : cr_Ev Y (pc + 1) lv (.inr (.inl (x * y)) :: st) M r) : cr_Ev Y pc lv (.inr (.inl y) :: .inr (.inl x) :: st) M r := by
  intro l D cI cZ ad A p e s m args below meth c C H locs ls hP hD hS hl
  obtain ⟨hx, hb, hr, hml, hown, hts, hlk, hK, hA⟩ := id C
  exact lv_lmul hx hb hd (k l D cI cZ ad A p e s m args below meth c C H locs ls hP hD hS hl)
theorem e_ldiv {Y : cr_Y} {pc : Nat} {lv : List (Nat × cr_AV)} {st : List cr_AV} {M : cr_M} {r : Option cr_AV × cr_M} {x y : Int64} (hd : decode (cr_by Y) pc = .ok (.ldiv, 1)) (hne : ¬ y = 0) (k : cr_Ev Y (pc + 1) lv (.inr (.inl (x / y)) :: st) M r) : cr_Ev Y pc lv (.inr (.inl y) :: .inr (.inl x) :: st) M r := by
  intro l D cI cZ ad A p e s m args below meth c C H locs ls hP hD hS hl
  obtain ⟨hx, hb, hr, hml, hown, hts, hlk, hK, hA⟩ := id C
  exact lv_ldiv hx hb hd hne (k l D cI cZ ad A p e s m args below meth c C H locs ls hP hD hS hl)
theorem e_lcmp {Y : cr_Y} {pc : Nat} {lv : List (Nat × cr_AV)} {st : List cr_AV} {M : cr_M} {r : Option cr_AV × cr_M} {x y : Int64} (hd : decode (cr_by Y) pc = .ok (.lcmp, 1)) (k : cr_Ev Y (pc + 1) lv (.inl (lg_cmp x y) :: st) M r) : cr_Ev Y pc lv (.inr (.inl y) :: .inr (.inl x) :: st) M r := by
  intro l D cI cZ ad A p e s m args below meth c C H locs ls hP hD hS hl
  obtain ⟨hx, hb, hr, hml, hown, hts, hlk, hK, hA⟩ := id C
  exact W.lcmp hx hb hd (k l D cI cZ ad A p e s m args below meth c C H locs ls hP hD hS hl)
theorem e_i2l {Y : cr_Y} {pc : Nat} {lv : List (Nat × cr_AV)} {st : List cr_AV} {M : cr_M} {r : Option cr_AV × cr_M} {x : Int32} (hd : decode (cr_by Y) pc = .ok (.i2l, 1)) (k : cr_Ev Y (pc + 1) lv (.inr (.inl x.toInt64) :: st) M r) : cr_Ev Y pc lv (.inl x :: st) M r := by
  intro l D cI cZ ad A p e s m args below meth c C H locs ls hP hD hS hl
  obtain ⟨hx, hb, hr, hml, hown, hts, hlk, hK, hA⟩ := id C
  exact lv_i2l hx hb hd rfl (k l D cI cZ ad A p e s m args below meth c C H locs ls hP hD hS hl)
theorem e_l2i {Y : cr_Y} {pc : Nat} {lv : List (Nat × cr_AV)} {st : List cr_AV} {M : cr_M} {r : Option cr_AV × cr_M} {x : Int64} (hd : decode (cr_by Y) pc = .ok (.l2i, 1)) (k : cr_Ev Y (pc + 1) lv (.inl x.toInt32 :: st) M r) : cr_Ev Y pc lv (.inr (.inl x) :: st) M r := by
  intro l D cI cZ ad A p e s m args below meth c C H locs ls hP hD hS hl
  obtain ⟨hx, hb, hr, hml, hown, hts, hlk, hK, hA⟩ := id C
  exact lv_l2i hx hb hd rfl (k l D cI cZ ad A p e s m args below meth c C H locs ls hP hD hS hl)
theorem e_dup_i {Y : cr_Y} {pc : Nat} {lv : List (Nat × cr_AV)} {st : List cr_AV} {M : cr_M} {r : Option cr_AV × cr_M} {x : Int32} (hd : decode (cr_by Y) pc = .ok (.dup, 1)) (k : cr_Ev Y (pc + 1) lv (.inl x :: .inl x :: st) M r) : cr_Ev Y pc lv (.inl x :: st) M r := by
  intro l D cI cZ ad A p e s m args below meth c C H locs ls hP hD hS hl
  obtain ⟨hx, hb, hr, hml, hown, hts, hlk, hK, hA⟩ := id C
  exact lv_dup hx hb hd rfl (k l D cI cZ ad A p e s m args below meth c C H locs ls hP hD hS hl)
theorem e_dup_a {Y : cr_Y} {pc : Nat} {lv : List (Nat × cr_AV)} {st : List cr_AV} {M : cr_M} {r : Option cr_AV × cr_M} {x : Nat} (hd : decode (cr_by Y) pc = .ok (.dup, 1)) (k : cr_Ev Y (pc + 1) lv (.inr (.inr x) :: .inr (.inr x) :: st) M r) : cr_Ev Y pc lv (.inr (.inr x) :: st) M r := by
  intro l D cI cZ ad A p e s m args below meth c C H locs ls hP hD hS hl
  obtain ⟨hx, hb, hr, hml, hown, hts, hlk, hK, hA⟩ := id C
  exact lv_dup hx hb hd rfl (k l D cI cZ ad A p e s m args below meth c C H locs ls hP hD hS hl)
theorem e_pop {Y : cr_Y} {pc : Nat} {lv : List (Nat × cr_AV)} {st : List cr_AV} {M : cr_M} {r : Option cr_AV × cr_M} {x : Int32} (hd : decode (cr_by Y) pc = .ok (.pop, 1)) (k : cr_Ev Y (pc + 1) lv (st) M r) : cr_Ev Y pc lv (.inl x :: st) M r := by
  intro l D cI cZ ad A p e s m args below meth c C H locs ls hP hD hS hl
  obtain ⟨hx, hb, hr, hml, hown, hts, hlk, hK, hA⟩ := id C
  exact lv_pop hx hb hd rfl (k l D cI cZ ad A p e s m args below meth c C H locs ls hP hD hS hl)
theorem e_dup_x1 {Y : cr_Y} {pc : Nat} {lv : List (Nat × cr_AV)} {st : List cr_AV} {M : cr_M} {r : Option cr_AV × cr_M} {x : Int32} {y : Nat} (hd : decode (cr_by Y) pc = .ok (.dup_x1, 1)) (k : cr_Ev Y (pc + 1) lv (.inl x :: .inr (.inr y) :: .inl x :: st) M r) : cr_Ev Y pc lv (.inl x :: .inr (.inr y) :: st) M r := by
  intro l D cI cZ ad A p e s m args below meth c C H locs ls hP hD hS hl
  obtain ⟨hx, hb, hr, hml, hown, hts, hlk, hK, hA⟩ := id C
  exact lv_dup_x1 hx hb hd rfl rfl (k l D cI cZ ad A p e s m args below meth c C H locs ls hP hD hS hl)
theorem e_dup2 {Y : cr_Y} {pc : Nat} {lv : List (Nat × cr_AV)} {st : List cr_AV} {M : cr_M} {r : Option cr_AV × cr_M} {x : Int32} {y : Nat} (hd : decode (cr_by Y) pc = .ok (.dup2, 1)) (k : cr_Ev Y (pc + 1) lv (.inl x :: .inr (.inr y) :: .inl x :: .inr (.inr y) :: st) M r) : cr_Ev Y pc lv (.inl x :: .inr (.inr y) :: st) M r := by
  intro l D cI cZ ad A p e s m args below meth c C H locs ls hP hD hS hl
  obtain ⟨hx, hb, hr, hml, hown, hts, hlk, hK, hA⟩ := id C
  exact lv_dup2_11 hx hb hd rfl rfl (k l D cI cZ ad A p e s m args below meth c C H locs ls hP hD hS hl)
theorem e_if_eq {Y : cr_Y} {pc : Nat} {lv : List (Nat × cr_AV)} {st : List cr_AV} {M : cr_M} {r : Option cr_AV × cr_M} {x : Int32} {off : Int} {tgt : Nat} (hd : decode (cr_by Y) pc = .ok (.ifCond .eq off, 3)) (ht : (pc : Int) + off = (tgt : Int)) (kt : x = 0 → cr_Ev Y tgt lv st M r) (kf : ¬ x = 0 → cr_Ev Y (pc + 3) lv st M r) : cr_Ev Y pc lv (.inl x :: st) M r := by
  intro l D cI cZ ad A p e s m args below meth c C H locs ls hP hD hS hl
  obtain ⟨hx, hb, hr, hml, hown, hts, hlk, hK, hA⟩ := id C
  exact lv_if_eq hx hb hd ht (fun hc => kt hc l D cI cZ ad A p e s m args below meth c C H locs ls hP hD hS hl) (fun hc => kf hc l D cI cZ ad A p e s m args below meth c C H locs ls hP hD hS hl)
theorem e_icmp_eq {Y : cr_Y} {pc : Nat} {lv : List (Nat × cr_AV)} {st : List cr_AV} {M : cr_M} {r : Option cr_AV × cr_M} {x y : Int32} {off : Int} {tgt : Nat} (hd : decode (cr_by Y) pc = .ok (.if_icmp .eq off, 3)) (ht : (pc : Int) + off = (tgt : Int)) (kt : x = y → cr_Ev Y tgt lv st M r) (kf : ¬ x = y → cr_Ev Y (pc + 3) lv st M r) : cr_Ev Y pc lv (.inl y :: .inl x :: st) M r := by
  intro l D cI cZ ad A p e s m args below meth c C H locs ls hP hD hS hl
  obtain ⟨hx, hb, hr, hml, hown, hts, hlk, hK, hA⟩ := id C
  exact lv_icmp_eq hx hb hd ht (fun hc => kt hc l D cI cZ ad A p e s m args below meth c C H locs ls hP hD hS hl) (fun hc => kf hc l D cI cZ ad A p e s m args below meth c C H locs ls hP hD hS hl)
theorem e_if_ne {Y : cr_Y} {pc : Nat} {lv : List (Nat × cr_AV)} {st : List cr_AV} {M : cr_M} {r : Option cr_AV × cr_M} {x : Int32} {off : Int} {tgt : Nat} (hd : decode (cr_by Y) pc = .ok (.ifCond .ne off, 3)) (ht : (pc : Int) + off = (tgt : Int)) (kt : ¬ x = 0 → cr_Ev Y tgt lv st M r) (kf : x = 0 → cr_Ev Y (pc + 3) lv st M r) : cr_Ev Y pc lv (.inl x :: st) M r := by
  intro l D cI cZ ad A p e s m args below meth c C H locs ls hP hD hS hl
  obtain ⟨hx, hb, hr, hml, hown, hts, hlk, hK, hA⟩ := id C
  exact lv_if_ne hx hb hd ht (fun hc => kt hc l D cI cZ ad A p e s m args below meth c C H locs ls hP hD hS hl) (fun hc => kf hc l D cI cZ ad A p e s m args below meth c C H locs ls hP hD hS hl)
theorem e_icmp_ne {Y : cr_Y} {pc : Nat} {lv : List (Nat × cr_AV)} {st : List cr_AV} {M : cr_M} {r : Option cr_AV × cr_M} {x y : Int32} {off : Int} {tgt : Nat} (hd : decode (cr_by Y) pc = .ok (.if_icmp .ne off, 3)) (ht : (pc : Int) + off = (tgt : Int)) (kt : ¬ x = y → cr_Ev Y tgt lv st M r) (kf : x = y → cr_Ev Y (pc + 3) lv st M r) : cr_Ev Y pc lv (.inl y :: .inl x :: st) M r := by
  intro l D cI cZ ad A p e s m args below meth c C H locs ls hP hD hS hl
  obtain ⟨hx, hb, hr, hml, hown, hts, hlk, hK, hA⟩ := id C
  exact lv_icmp_ne hx hb hd ht (fun hc => kt hc l D cI cZ ad A p e s m args below meth c C H locs ls hP hD hS hl) (fun hc => kf hc l D cI cZ ad A p e s m args below meth c C H locs ls hP hD hS hl)
theorem e_if_lt {Y : cr_Y} {pc : Nat} {lv : List (Nat × cr_AV)} {st : List cr_AV} {M : cr_M} {r : Option cr_AV × cr_M} {x : Int32} {off : Int} {tgt : Nat} (hd : decode (cr_by Y) pc = .ok (.ifCond .lt off, 3)) (ht : (pc : Int) + off = (tgt : Int)) (kt : x < 0 → cr_Ev Y tgt lv st M r) (kf : ¬ x < 0 → cr_Ev Y (pc + 3) lv st M r) : cr_Ev Y pc lv (.inl x :: st) M r := by
  intro l D cI cZ ad A p e s m args below meth c C H locs ls hP hD hS hl
  obtain ⟨hx, hb, hr, hml, hown, hts, hlk, hK, hA⟩ := id C
  exact lv_if_lt hx hb hd ht (fun hc => kt hc l D cI cZ ad A p e s m args below meth c C H locs ls hP hD hS hl) (fun hc => kf hc l D cI cZ ad A p e s m args below meth c C H locs ls hP hD hS hl)
theorem e_icmp_lt {Y : cr_Y} {pc : Nat} {lv : List (Nat × cr_AV)} {st : List cr_AV} {M : cr_M} {r : Option cr_AV × cr_M} {x y : Int32} {off : Int} {tgt : Nat} (hd : decode (cr_by Y) pc = .ok (.if_icmp .lt off, 3)) (ht : (pc : Int) + off = (tgt : Int)) (kt : x < y → cr_Ev Y tgt lv st M r) (kf : ¬ x < y → cr_Ev Y (pc + 3) lv st M r) : cr_Ev Y pc lv (.inl y :: .inl x :: st) M r := by
  intro l D cI cZ ad A p e s m args below meth c C H locs ls hP hD hS hl
  obtain ⟨hx, hb, hr, hml, hown, hts, hlk, hK, hA⟩ := id C
  exact lv_icmp_lt hx hb hd ht (fun hc => kt hc l D cI cZ ad A p e s m args below meth c C H locs ls hP hD hS hl) (fun hc => kf hc l D cI cZ ad A p e s m args below meth c C H locs ls hP hD hS hl)
theorem e_if_ge {Y : cr_Y} {pc : Nat} {lv : List (Nat × cr_AV)} {st : List cr_AV} {M : cr_M} {r : Option cr_AV × cr_M} {x : Int32} {off : Int} {tgt : Nat} (hd : decode (cr_by Y) pc = .ok (.ifCond .ge off, 3)) (ht : (pc : Int) + off = (tgt : Int)) (kt : 0 ≤ x → cr_Ev Y tgt lv st M r) (kf : ¬ 0 ≤ x → cr_Ev Y (pc + 3) lv st M r) : cr_Ev Y pc lv (.inl x :: st) M r := by
  intro l D cI cZ ad A p e s m args below meth c C H locs ls hP hD hS hl
  obtain ⟨hx, hb, hr, hml, hown, hts, hlk, hK, hA⟩ := id C
  exact lv_if_ge hx hb hd ht (fun hc => kt hc l D cI cZ ad A p e s m args below meth c C H locs ls hP hD hS hl) (fun hc => kf hc l D cI cZ ad A p e s m args below meth c C H locs ls hP hD hS hl)
theorem e_icmp_ge {Y : cr_Y} {pc : Nat} {lv : List (Nat × cr_AV)} {st : List cr_AV} {M : cr_M} {r : Option cr_AV × cr_M} {x y : Int32} {off : Int} {tgt : Nat} (hd : decode (cr_by Y) pc = .ok (.if_icmp .ge off, 3)) (ht : (pc : Int) + off = (tgt : Int)) (kt : y ≤ x → cr_Ev Y tgt lv st M r) (kf : ¬ y ≤ x → cr_Ev Y (pc + 3) lv st M r) : cr_Ev Y pc lv (.inl y :: .inl x :: st) M r := by
  intro l D cI cZ ad A p e s m args below meth c C H locs ls hP hD hS hl
  obtain ⟨hx, hb, hr, hml, hown, hts, hlk, hK, hA⟩ := id C
  exact lv_icmp_ge hx hb hd ht (fun hc => kt hc l D cI cZ ad A p e s m args below meth c C H locs ls hP hD hS hl) (fun hc => kf hc l D cI cZ ad A p e s m args below meth c C H locs ls hP hD hS hl)
theorem e_if_gt {Y : cr_Y} {pc : Nat} {lv : List (Nat × cr_AV)} {st : List cr_AV} {M : cr_M} {r : Option cr_AV × cr_M} {x : Int32} {off : Int} {tgt : Nat} (hd : decode (cr_by Y) pc = .ok (.ifCond .gt off, 3)) (ht : (pc : Int) + off = (tgt : Int)) (kt : 0 < x → cr_Ev Y tgt lv st M r) (kf : ¬ 0 < x → cr_Ev Y (pc + 3) lv st M r) : cr_Ev Y pc lv (.inl x :: st) M r := by
  intro l D cI cZ ad A p e s m args below meth c C H locs ls hP hD hS hl
  obtain ⟨hx, hb, hr, hml, hown, hts, hlk, hK, hA⟩ := id C
  exact lv_if_gt hx hb hd ht (fun hc => kt hc l D cI cZ ad A p e s m args below meth c C H locs ls hP hD hS hl) (fun hc => kf hc l D cI cZ ad A p e s m args below meth c C H locs ls hP hD hS hl)
theorem e_icmp_gt {Y : cr_Y} {pc : Nat} {lv : List (Nat × cr_AV)} {st : List cr_AV} {M : cr_M} {r : Option cr_AV × cr_M} {x y : Int32} {off : Int} {tgt : Nat} (hd : decode (cr_by Y) pc = .ok (.if_icmp .gt off, 3)) (ht : (pc : Int) + off = (tgt : Int)) (kt : y < x → cr_Ev Y tgt lv st M r) (kf : ¬ y < x → cr_Ev Y (pc + 3) lv st M r) : cr_Ev Y pc lv (.inl y :: .inl x :: st) M r := by
  intro l D cI cZ ad A p e s m args below meth c C H locs ls hP hD hS hl
  obtain ⟨hx, hb, hr, hml, hown, hts, hlk, hK, hA⟩ := id C
  exact lv_icmp_gt hx hb hd ht (fun hc => kt hc l D cI cZ ad A p e s m args below meth c C H locs ls hP hD hS hl) (fun hc => kf hc l D cI cZ ad A p e s m args below meth c C H locs ls hP hD hS hl)
theorem e_if_le {Y : cr_Y} {pc : Nat} {lv : List (Nat × cr_AV)} {st : List cr_AV} {M : cr_M} {r : Option cr_AV × cr_M} {x : Int32} {off : Int} {tgt : Nat} (hd : decode (cr_by Y) pc = .ok (.ifCond .le off, 3)) (ht : (pc : Int) + off = (tgt : Int)) (kt : x ≤ 0 → cr_Ev Y tgt lv st M r) (kf : ¬ x ≤ 0 → cr_Ev Y (pc + 3) lv st M r) : cr_Ev Y pc lv (.inl x :: st) M r := by
  intro l D cI cZ ad A p e s m args below meth c C H locs ls hP hD hS hl
  obtain ⟨hx, hb, hr, hml, hown, hts, hlk, hK, hA⟩ := id C
  exact lv_if_le hx hb hd ht (fun hc => kt hc l D cI cZ ad A p e s m args below meth c C H locs ls hP hD hS hl) (fun hc => kf hc l D cI cZ ad A p e s m args below meth c C H locs ls hP hD hS hl)
theorem e_icmp_le {Y : cr_Y} {pc : Nat} {lv : List (Nat × cr_AV)} {st : List cr_AV} {M : cr_M} {r : Option cr_AV × cr_M} {x y : Int32} {off : Int} {tgt : Nat} (hd : decode (cr_by Y) pc = .ok (.if_icmp .le off, 3)) (ht : (pc : Int) + off = (tgt : Int)) (kt : x ≤ y → cr_Ev Y tgt lv st M r) (kf : ¬ x ≤ y → cr_Ev Y (pc + 3) lv st M r) : cr_Ev Y pc lv (.inl y :: .inl x :: st) M r := by
  intro l D cI cZ ad A p e s m args below meth c C H locs ls hP hD hS hl
  obtain ⟨hx, hb, hr, hml, hown, hts, hlk, hK, hA⟩ := id C
  exact lv_icmp_le hx hb hd ht (fun hc => kt hc l D cI cZ ad A p e s m args below meth c C H locs ls hP hD hS hl) (fun hc => kf hc l D cI cZ ad A p e s m args below meth c C H locs ls hP hD hS hl)
theorem e_goto {Y : cr_Y} {pc : Nat} {lv : List (Nat × cr_AV)} {st : List cr_AV} {M : cr_M} {r : Option cr_AV × cr_M} {off : Int} {tgt : Nat} (hd : decode (cr_by Y) pc = .ok (.goto off, 3)) (ht : (pc : Int) + off = (tgt : Int)) (k : cr_Ev Y tgt lv st M r) : cr_Ev Y pc lv st M r := by
  intro l D cI cZ ad A p e s m args below meth c C H locs ls hP hD hS hl
  obtain ⟨hx, hb, hr, hml, hown, hts, hlk, hK, hA⟩ := id C
  exact lv_goto hx hb hd ht (k l D cI cZ ad A p e s m args below meth c C H locs ls hP hD hS hl)
theorem e_tswO {Y : cr_Y} {pc : Nat} {lv : List (Nat × cr_AV)} {st : List cr_AV} {M : cr_M} {r : Option cr_AV × cr_M} {dflt lo hi : Int} {offs : Array Int} {len : Nat} {x : Int32} {tgt : Nat} (hd : decode (cr_by Y) pc = .ok (.tableswitch dflt lo hi offs, len)) (h : x.toInt < lo ∨ hi < x.toInt) (ht : (pc : Int) + dflt = (tgt : Int)) (k : cr_Ev Y tgt lv st M r) : cr_Ev Y pc lv (.inl x :: st) M r := by
  intro l D cI cZ ad A p e s m args below meth c C H locs ls hP hD hS hl
  obtain ⟨hx, hb, hr, hml, hown, hts, hlk, hK, hA⟩ := id C
  exact lv_tableOut hx hb hd h ht (k l D cI cZ ad A p e s m args below meth c C H locs ls hP hD hS hl)
theorem e_tswI {Y : cr_Y} {pc : Nat} {lv : List (Nat × cr_AV)} {st : List cr_AV} {M : cr_M} {r : Option cr_AV × cr_M} {dflt lo hi : Int} {offs : Array Int} {len : Nat} {x : Int32} {off : Int} {tgt : Nat} (v : Int32) (hv : x = v) (hd : decode (cr_by Y) pc = .ok (.tableswitch dflt lo hi offs, len)) (h1 : ¬ v.toInt < lo) (h2 : ¬ hi < v.toInt) (ho : offs[(v.toInt - lo).toNat]? = some off) (ht : (pc : Int) + off = (tgt : Int)) (k : cr_Ev Y tgt lv st M r) : cr_Ev Y pc lv (.inl x :: st) M r := by
  intro l D cI cZ ad A p e s m args below meth c C H locs ls hP hD hS hl
  obtain ⟨hx, hb, hr, hml, hown, hts, hlk, hK, hA⟩ := id C
  subst hv
  exact lv_tableIn hx hb hd h1 h2 ho ht (k l D cI cZ ad A p e s m args below meth c C H locs ls hP hD hS hl)
/-- the field at place i of own's pool: field j of class number ci -/
def cr_fl (own : String) (i ci j : Nat) : Prop := ∃ (C : String) (T : u_T) (N : Nat), cr_cl[ci]? = some (C, T, N) ∧ (∀ w ∈ u_ws C T N, w ∈ cr_tb) ∧ j < N ∧ Cond.fieldLink own i (T j).1 (T j).2.1 (T j).2.2.1 ∈ cr_tb
/-- an int field that may be put -/
def cr_fp (ci j : Nat) : Prop := ∀ (C : String) (T : u_T) (N : Nat), cr_cl[ci]? = some (C, T, N) → (∃ ty0 : Nat → FieldType, ∀ k, k < N → parseFieldDescriptor (T k).2.2.1 = some (ty0 k)) ∧ (∀ a, a < N → ∀ b, b < N → a ≠ b → (T a).2.1 ≠ (T b).2.1) ∧ (T j).2.2.2 = false ∧ parseFieldDescriptor (T j).2.2.1 = some .int
theorem e_getI {Y : cr_Y} {pc : Nat} {lv : List (Nat × cr_AV)} {st : List cr_AV} {M : cr_M} {r : Option cr_AV × cr_M} {i ci j q : Nat} {fs : List (Option Nat)} (hd : decode (cr_by Y) pc = .ok (.getfield i, 3)) (hf : cr_fl (cr_nm Y).cls i ci j) (hsh : (cr_sh Y)[q]? = some (.inl (ci, fs))) (hj : fs[j]? = some none) (k : cr_Ev Y (pc + 3) lv (.inl (M q j) :: st) M r) : cr_Ev Y pc lv (.inr (.inr q) :: st) M r := by
  intro l D cI cZ ad A p e s m args below meth c C H locs ls hP hD hS hl
  obtain ⟨hx, hb, hr, hml, hown, hts, hlk, hK, hA⟩ := id C
  obtain ⟨C', T, N, hc, hin, hjN, hlink⟩ := hf
  exact va_get (D := D) (ci := ci) (v := .int (M q j)) (C := C') (T := T) (N := N) hx hb hts hin hown hK hP q (cr_wl_get0 hsh) hc j hjN (hts _ hlink) (fun _ h => h) (by rw [cr_fs_get, hj]; simp [cr_fv]) hd (k l D cI cZ ad A p e s m args below meth c C H locs ls hP hD hS hl)
theorem e_getA {Y : cr_Y} {pc : Nat} {lv : List (Nat × cr_AV)} {st : List cr_AV} {M : cr_M} {r : Option cr_AV × cr_M} {i ci j q a : Nat} {fs : List (Option Nat)} (hd : decode (cr_by Y) pc = .ok (.getfield i, 3)) (hf : cr_fl (cr_nm Y).cls i ci j) (hsh : (cr_sh Y)[q]? = some (.inl (ci, fs))) (hj : fs[j]? = some (some a)) (k : cr_Ev Y (pc + 3) lv (.inr (.inr a) :: st) M r) : cr_Ev Y pc lv (.inr (.inr q) :: st) M r := by
  intro l D cI cZ ad A p e s m args below meth c C H locs ls hP hD hS hl
  obtain ⟨hx, hb, hr, hml, hown, hts, hlk, hK, hA⟩ := id C
  obtain ⟨C', T, N, hc, hin, hjN, hlink⟩ := hf
  exact va_get (D := D) (ci := ci) (v := .ref (ad a)) (C := C') (T := T) (N := N) hx hb hts hin hown hK hP q (cr_wl_get0 hsh) hc j hjN (hts _ hlink) (fun _ h => h) (by rw [cr_fs_get, hj]; simp [cr_fv]) hd (k l D cI cZ ad A p e s m args below meth c C H locs ls hP hD hS hl)
theorem e_put {Y : cr_Y} {pc : Nat} {lv : List (Nat × cr_AV)} {st : List cr_AV} {M : cr_M} {r : Option cr_AV × cr_M} {i ci j q : Nat} {x : Int32} {fs : List (Option Nat)} (hd : decode (cr_by Y) pc = .ok (.putfield i, 3)) (hf : cr_fl (cr_nm Y).cls i ci j) (hp : cr_fp ci j) (hsh : (cr_sh Y)[q]? = some (.inl (ci, fs))) (hj : fs[j]? = some none) (k : cr_Ev Y (pc + 3) lv st (cr_up M q j x) r) : cr_Ev Y pc lv (.inl x :: .inr (.inr q) :: st) M r := by
  intro l D cI cZ ad A p e s m args below meth c C H locs ls hP hD hS hl
  obtain ⟨hx, hb, hr, hml, hown, hts, hlk, hK, hA⟩ := id C
  obtain ⟨C', T, N, hc, hin, hjN, hlink⟩ := hf
  obtain ⟨⟨ty0, hty⟩, hnm, hfin, hpd⟩ := hp C' T N hc
  have hlen : j < (cr_fs ad (M q) 0 fs).length := by
    have h2 : (cr_fs ad (M q) 0 fs)[j]? = some (cr_fv ad (M q) (0 + j) none) := by rw [cr_fs_get, hj]; rfl
    exact (List.getElem?_eq_some_iff.mp h2).1
  refine va_put (D := D) (ci := ci) (v := .int x) (ty := .int) (C := C') (T := T) (N := N) hx hb hts hin ty0 hty hnm hown hK hP hD hS q (cr_wl_get0 hsh) hc j hjN (hts _ hlink) (fun _ h => h) hfin hpd rfl rfl hlen hd (fun H1 locs1 hP1 hD1 hS1 => ?_)
  have he : (cr_wl cI cZ ad M 0 (cr_sh Y)).set q (ad q, .inr (ci, (cr_fs ad (M q) 0 fs).set j (.int x))) = cr_wl cI cZ ad (cr_up M q j x) 0 (cr_sh Y) := by
    rw [cr_fs_set hj]
    exact cr_wl_set hsh (upd (M q) j x)
  rw [he] at hP1 hD1
  exact k l D cI cZ ad A p e s m args below meth c C H1 locs1 ls hP1 hD1 hS1 hl
theorem e_iald {Y : cr_Y} {pc : Nat} {lv : List (Nat × cr_AV)} {st : List cr_AV} {M : cr_M} {r : Option cr_AV × cr_M} {n q : Nat} {i : Int32} (hd : decode (cr_by Y) pc = .ok (.iaload, 1)) (hsh : (cr_sh Y)[q]? = some (.inr (n, false))) (hi : vp_in i n) (k : cr_Ev Y (pc + 1) lv (.inl (M q i.toNatClampNeg) :: st) M r) : cr_Ev Y pc lv (.inl i :: .inr (.inr q) :: st) M r := by
  intro l D cI cZ ad A p e s m args below meth c C H locs ls hP hD hS hl
  obtain ⟨hx, hb, hr, hml, hown, hts, hlk, hK, hA⟩ := id C
  exact va_iald hx hb hK hP q 0 (cr_wl_get0 hsh) rfl hi hd (k l D cI cZ ad A p e s m args below meth c C H locs ls hP hD hS hl)
theorem e_zald {Y : cr_Y} {pc : Nat} {lv : List (Nat × cr_AV)} {st : List cr_AV} {M : cr_M} {r : Option cr_AV × cr_M} {n q : Nat} {i : Int32} (hd : decode (cr_by Y) pc = .ok (.baload, 1)) (hsh : (cr_sh Y)[q]? = some (.inr (n, true))) (hi : vp_in i n) (k : cr_Ev Y (pc + 1) lv (.inl (M q i.toNatClampNeg) :: st) M r) : cr_Ev Y pc lv (.inl i :: .inr (.inr q) :: st) M r := by
  intro l D cI cZ ad A p e s m args below meth c C H locs ls hP hD hS hl
  obtain ⟨hx, hb, hr, hml, hown, hts, hlk, hK, hA⟩ := id C
  exact va_zald hx hb hK hP q 1 (cr_wl_get0 hsh) rfl hi hd (k l D cI cZ ad A p e s m args below meth c C H locs ls hP hD hS hl)
theorem e_iast {Y : cr_Y} {pc : Nat} {lv : List (Nat × cr_AV)} {st : List cr_AV} {M : cr_M} {r : Option cr_AV × cr_M} {n q : Nat} {i x : Int32} (hd : decode (cr_by Y) pc = .ok (.iastore, 1)) (hsh : (cr_sh Y)[q]? = some (.inr (n, false))) (hi : vp_in i n) (k : cr_Ev Y (pc + 1) lv st (cr_up M q i.toNatClampNeg x) r) : cr_Ev Y pc lv (.inl x :: .inl i :: .inr (.inr q) :: st) M r := by
  intro l D cI cZ ad A p e s m args below meth c C H locs ls hP hD hS hl
  obtain ⟨hx, hb, hr, hml, hown, hts, hlk, hK, hA⟩ := id C
  refine va_iast hx hb hK hP hD hS q 0 (cr_wl_get0 hsh) rfl hi hd (fun H1 locs1 hP1 hD1 hS1 => ?_)
  have he : (cr_wl cI cZ ad M 0 (cr_sh Y)).set q (ad q, .inl (cr_ca cI cZ false, n, .inl (upd (M q) i.toNatClampNeg x))) = cr_wl cI cZ ad (cr_up M q i.toNatClampNeg x) 0 (cr_sh Y) := cr_wl_set hsh (upd (M q) i.toNatClampNeg x)
  have hP2 : va_P D cr_cl ((cr_wl cI cZ ad M 0 (cr_sh Y)).set q (ad q, .inl (cr_ca cI cZ false, n, .inl (upd (M q) i.toNatClampNeg x)))) H1 := hP1
  have hD2 : va_D A ((cr_wl cI cZ ad M 0 (cr_sh Y)).set q (ad q, .inl (cr_ca cI cZ false, n, .inl (upd (M q) i.toNatClampNeg x)))) := hD1
  rw [he] at hP2 hD2
  exact k l D cI cZ ad A p e s m args below meth c C H1 locs1 ls hP2 hD2 hS1 hl
theorem e_zast {Y : cr_Y} {pc : Nat} {lv : List (Nat × cr_AV)} {st : List cr_AV} {M : cr_M} {r : Option cr_AV × cr_M} {n q : Nat} {i x : Int32} (hd : decode (cr_by Y) pc = .ok (.bastore, 1)) (hsh : (cr_sh Y)[q]? = some (.inr (n, true))) (hi : vp_in i n) (k : cr_Ev Y (pc + 1) lv st (cr_up M q i.toNatClampNeg (vp_nar .boolean x)) r) : cr_Ev Y pc lv (.inl x :: .inl i :: .inr (.inr q) :: st) M r := by
  intro l D cI cZ ad A p e s m args below meth c C H locs ls hP hD hS hl
  obtain ⟨hx, hb, hr, hml, hown, hts, hlk, hK, hA⟩ := id C
  refine va_zast hx hb hK hP hD hS q 1 (cr_wl_get0 hsh) rfl hi hd (fun H1 locs1 hP1 hD1 hS1 => ?_)
  have he : (cr_wl cI cZ ad M 0 (cr_sh Y)).set q (ad q, .inl (cr_ca cI cZ true, n, .inl (upd (M q) i.toNatClampNeg (vp_nar .boolean x)))) = cr_wl cI cZ ad (cr_up M q i.toNatClampNeg (vp_nar .boolean x)) 0 (cr_sh Y) := cr_wl_set hsh (upd (M q) i.toNatClampNeg (vp_nar .boolean x))
  have hP2 : va_P D cr_cl ((cr_wl cI cZ ad M 0 (cr_sh Y)).set q (ad q, .inl (cr_ca cI cZ true, n, .inl (upd (M q) i.toNatClampNeg (vp_nar .boolean x))))) H1 := hP1
  have hD2 : va_D A ((cr_wl cI cZ ad M 0 (cr_sh Y)).set q (ad q, .inl (cr_ca cI cZ true, n, .inl (upd (M q) i.toNatClampNeg (vp_nar .boolean x))))) := hD1
  rw [he] at hP2 hD2
  exact k l D cI cZ ad A p e s m args below meth c C H1 locs1 ls hP2 hD2 hS1 hl
theorem e_acopy {Y : cr_Y} {pc : Nat} {lv : List (Nat × cr_AV)} {st : List cr_AV} {M : cr_M} {r : Option cr_AV × cr_M} {i n0 n1 q0 q1 : Nat} {n sp dp : Int32} (hd : decode (cr_by Y) pc = .ok (.invokestatic i, 3)) (hw : Cond.methodLink (cr_nm Y).cls i arraycopyName ∈ cr_tb ∧ Cond.native arraycopyName ∈ cr_tb ∧ Cond.static arraycopyName ∈ cr_tb ∧ Cond.initialized "java/lang/System" ∈ cr_tb) (hr1 : 1 ≤ cr_fr Y) (hr2 : (st.map (fun v => match v with | .inr (.inl _) => 2 | _ => 1)).sum + (nativeFrameWords "java/lang/System" "arraycopy" 5 + 11) ≤ cr_lo Y) (hs0 : (cr_sh Y)[q0]? = some (.inr (n0, false))) (hs1 : (cr_sh Y)[q1]? = some (.inr (n1, false))) (h1 : ¬ sp < 0) (h2 : ¬ dp < 0) (h3 : ¬ n < 0) (h4 : sp.toNatClampNeg + n.toNatClampNeg ≤ n0) (h5 : dp.toNatClampNeg + n.toNatClampNeg ≤ n1) (k : cr_Ev Y (pc + 3) lv st (va_up M q1 (va_cpy (M q0) (M q1) sp.toNatClampNeg dp.toNatClampNeg n.toNatClampNeg)) r) : cr_Ev Y pc lv (.inl n :: .inl dp :: .inr (.inr q1) :: .inl sp :: .inr (.inr q0) :: st) M r := by
  intro l D cI cZ ad A p e s m args below meth c C H locs ls hP hD hS hl
  obtain ⟨hx, hb, hr, hml, hown, hts, hlk, hK, hA⟩ := id C
  obtain ⟨w1, w2, w3, w4⟩ := hw
  have hz : ((st.map (cr_tv ad)).map fun v => v.category).sum = (st.map (fun v : cr_AV => match v with | .inr (.inl _) => 2 | _ => 1)).sum := by
    rw [List.map_map]; congr 1; apply List.map_congr_left; intro v _; exact cr_cat
  refine va_copyi (ty := .int) (sp := sp) (dp := dp) (n := n) hx hb (hml.trans hl.1.symm) hown (hts _ w1) (hts _ w2) (hts _ w3) (hts _ w4) hK hP hD hS q0 q1 0 0 (cr_wl_get0 hs0) (cr_wl_get0 hs1) rfl rfl rfl h1 h2 h3 h4 h5 (fun _ _ => rfl) hr1 (by rw [hz]; exact hr2) hd (fun H1 locs1 hP1 hD1 hS1 => ?_)
  have he := cr_wl_set (cI := cI) (cZ := cZ) (ad := ad) (M := M) hs1 (va_cpy (M q0) (M q1) sp.toNatClampNeg dp.toNatClampNeg n.toNatClampNeg)
  have hP2 : va_P D cr_cl ((cr_wl cI cZ ad M 0 (cr_sh Y)).set q1 (ad q1, cr_en cI cZ ad (va_cpy (M q0) (M q1) sp.toNatClampNeg dp.toNatClampNeg n.toNatClampNeg) (.inr (n1, false)))) H1 := hP1
  have hD2 : va_D A ((cr_wl cI cZ ad M 0 (cr_sh Y)).set q1 (ad q1, cr_en cI cZ ad (va_cpy (M q0) (M q1) sp.toNatClampNeg dp.toNatClampNeg n.toNatClampNeg) (.inr (n1, false)))) := hD1
  rw [he] at hP2 hD2
  exact k l D cI cZ ad A p e s m args below meth c C H1 locs1 ls hP2 hD2 hS1 hl
theorem e_iret {Y : cr_Y} {pc : Nat} {lv : List (Nat × cr_AV)} {st : List cr_AV} {M : cr_M} {r : Option cr_AV × cr_M} {v : Int32} (hd : decode (cr_by Y) pc = .ok (.ireturn, 1)) (hrt : cr_rt Y = some .int) (he : r = (some (.inl v), M)) : cr_Ev Y pc lv [.inl v] M r := by
  intro l D cI cZ ad A p e s m args below meth c C H locs ls hP hD hS hl
  obtain ⟨hx, hb, hr, hml, hown, hts, hlk, hK, hA⟩ := id C
  subst he
  exact W.iret (v := v) hx hb (hr.trans hrt) (fun t ht hW => ⟨⟨v, (), rfl, rfl, by rw [ht]; exact hP, va_K.moved hW.alike hK, hD⟩, hS.F ht⟩) hS.2.2 hd
theorem e_zret {Y : cr_Y} {pc : Nat} {lv : List (Nat × cr_AV)} {st : List cr_AV} {M : cr_M} {r : Option cr_AV × cr_M} {v : Int32} (hd : decode (cr_by Y) pc = .ok (.ireturn, 1)) (hrt : cr_rt Y = some .boolean) (hz : v = 0 ∨ v = 1) (he : r = (some (.inl v), M)) : cr_Ev Y pc lv [.inl v] M r := by
  intro l D cI cZ ad A p e s m args below meth c C H locs ls hP hD hS hl
  obtain ⟨hx, hb, hr, hml, hown, hts, hlk, hK, hA⟩ := id C
  subst he
  exact W.zret (v := v) (ty := .boolean) hx hb (hr.trans hrt) (by rcases hz with rfl | rfl <;> rfl) (fun t ht hW => ⟨⟨v, (), rfl, rfl, by rw [ht]; exact hP, va_K.moved hW.alike hK, hD⟩, hS.F ht⟩) hS.2.2 hd
theorem e_lret {Y : cr_Y} {pc : Nat} {lv : List (Nat × cr_AV)} {st : List cr_AV} {M : cr_M} {r : Option cr_AV × cr_M} {v : Int64} (hd : decode (cr_by Y) pc = .ok (.lreturn, 1)) (hrt : cr_rt Y = some .long) (he : r = (some (.inr (.inl v)), M)) : cr_Ev Y pc lv [.inr (.inl v)] M r := by
  intro l D cI cZ ad A p e s m args below meth c C H locs ls hP hD hS hl
  obtain ⟨hx, hb, hr, hml, hown, hts, hlk, hK, hA⟩ := id C
  subst he
  exact W.lret (v := v) hx hb (hr.trans hrt) (fun t ht hW => ⟨⟨v, (), rfl, rfl, by rw [ht]; exact hP, va_K.moved hW.alike hK, hD⟩, hS.F ht⟩) hS.2.2 hd
theorem e_vret {Y : cr_Y} {pc : Nat} {lv : List (Nat × cr_AV)} {st : List cr_AV} {M : cr_M} {r : Option cr_AV × cr_M} (hd : decode (cr_by Y) pc = .ok (.return_, 1)) (hrt : cr_rt Y = none) (he : r = (none, M)) : cr_Ev Y pc lv [] M r := by
  intro l D cI cZ ad A p e s m args below meth c C H locs ls hP hD hS hl
  obtain ⟨hx, hb, hr, hml, hown, hts, hlk, hK, hA⟩ := id C
  subst he
  exact W.vret hx hb (hr.trans hrt) (fun t ht hW => ⟨⟨(), rfl, trivial, by rw [ht]; exact hP, va_K.moved hW.alike hK, hD⟩, hS.F ht⟩) hS.2.2 hd
def cr_sub : List (Nat × cr_AV) → List (Nat × cr_AV) → Prop
  | [], _ => True
  | q :: t, lv => cr_lk lv q.1 = some q.2 ∧ cr_sub t lv
theorem cr_sub_mem {lv' lv : List (Nat × cr_AV)} (h : cr_sub lv' lv) : ∀ q ∈ lv', q ∈ lv := by
  induction lv' with
  | nil => intro q hq; cases hq
  | cons a t ih =>
    intro q hq
    rcases List.mem_cons.mp hq with rfl | hq
    · exact cr_lk_mem h.1
    · exact ih h.2 q hq
/-- fewer locals are enough -/
theorem e_weak {Y : cr_Y} {pc : Nat} {lv : List (Nat × cr_AV)} {st : List cr_AV} {M : cr_M} {r : Option cr_AV × cr_M} (lv' : List (Nat × cr_AV)) (h : cr_sub lv' lv) (k : cr_Ev Y pc lv' st M r) : cr_Ev Y pc lv st M r := by
  intro l D cI cZ ad A p e s m args below meth c C H locs ls hP hD hS hl
  obtain ⟨hx, hb, hr, hml, hown, hts, hlk, hK, hA⟩ := id C
  refine k l D cI cZ ad A p e s m args below meth c C H locs ls hP hD hS ⟨hl.1, hl.2.1, fun q hq => hl.2.2 q ?_⟩
  obtain ⟨a, ha, rfl⟩ := List.mem_map.mp hq
  exact List.mem_map.mpr ⟨a, cr_sub_mem h a ha, rfl⟩
/-! contracts out of cr_Ev, and calls -/
def cr_al : Nat → List cr_AV → List (Nat × cr_AV)
  | _, [] => []
  | n, .inl x :: t => (n, .inl x) :: cr_al (n + 1) t
  | n, .inr (.inl x) :: t => (n, .inr (.inl x)) :: cr_al (n + 2) t
  | n, .inr (.inr x) :: t => (n, .inr (.inr x)) :: cr_al (n + 1) t
def cr_sz : List cr_AV → Nat
  | [] => 0
  | .inr (.inl _) :: t => 2 + cr_sz t
  | .inl _ :: t => 1 + cr_sz t
  | .inr (.inr _) :: t => 1 + cr_sz t
theorem cr_al_args (ad : Nat → Nat) (as : List cr_AV) : ∀ n, (cr_al n as).map (cr_tl ad) = lv_args n (as.map (cr_tv ad)) := by
  induction as with
  | nil => intro n; rfl
  | cons v t ih =>
    intro n
    rcases v with x | x | x <;> simp [cr_al, lv_args, cr_tl, cr_tv, Value.category, ih]
theorem cr_sz_len (ad : Nat → Nat) (as : List cr_AV) : (lg_sl (as.map (cr_tv ad))).length = cr_sz as := by
  induction as with
  | nil => rfl
  | cons v t ih =>
    unfold lg_sl at ih ⊢
    rcases v with x | x | x <;> simp [cr_sz, cr_tv, Value.category] at ih ⊢ <;> omega
def cr_EvM (Y : cr_Y) (as : List cr_AV) (M : cr_M) (r : Option cr_AV × cr_M) : Prop := cr_Ev Y 0 (cr_al 0 as) [] M r
abbrev cr_ws (Y : cr_Y) : List Cond := Cond.code (cr_nm Y) (cr_by Y) (cr_ml Y) (cr_rt Y) :: cr_tb
def cr_Pc (D : va_G) (cI cZ : ClassId) (ad : Nat → Nat) (sh : List cr_Shp) (as : List cr_AV) (M : cr_M) (sz : Nat) : Array Value → State → Prop :=
  va_Pc (as.map (cr_tv ad)) (fun U => U.heap.size = sz ∧ va_P D cr_cl (cr_wl cI cZ ad M 0 sh) U.heap ∧ va_K D cr_cl (cr_ty cI cZ) U ∧ va_D (fun _ => True) (cr_wl cI cZ ad M 0 sh))
theorem cr_met {Y : cr_Y} {as : List cr_AV} {M : cr_M} {r : Option cr_AV × cr_M} (hpl : plainName (cr_nm Y).cls = true) (hlen : cr_sz as ≤ cr_ml Y) (E : cr_EvM Y as M r) (l : Launch) (D : va_G) (cI cZ : ClassId) (ad : Nat → Nat) (sz : Nat) :
    Met l (cr_nm Y) (cr_ws Y) (cr_rm Y) (cr_Pc D cI cZ ad (cr_sh Y) as M sz) (cr_Q D cI cZ ad (va_A (cr_wl cI cZ ad M 0 (cr_sh Y)) sz) (cr_sh Y) r) 0 0 (va_A (cr_wl cI cZ ad M 0 (cr_sh Y)) sz) := by
  refine Met.ofW (cc := cr_by Y) (maxL := cr_ml Y) (ret := cr_rt Y) hpl rfl ?_
  intro p e s m args below meth c s₁ B hml hv
  obtain ⟨rfl, hsz, hP, hK, hD0⟩ := hv
  have hts := atoms_spec (ws := cr_ws Y) B.pre
  have hown : s.vm.findClass (cr_nm Y).cls = some m.cls := findClass_of_methodNamed B.named
  subst hsz
  have hD := hD0.self (sz := s.heap.size)
  have hA : ∀ q : Nat, s.heap.size ≤ q → va_A (cr_wl cI cZ ad M 0 (cr_sh Y)) s.heap.size q := fun q h => Or.inr h
  have hS : va_S (va_A (cr_wl cI cZ ad M 0 (cr_sh Y)) s.heap.size) s.heap s.heap [] := va_S.rf
  have hl := lv_entry (as.map (cr_tv ad)) (n := cr_ml Y) (by rw [cr_sz_len]; exact hlen)
  rw [← cr_al_args] at hl
  rw [lg_entry_eq]
  exact E l D cI cZ ad _ p e s m _ below meth c ⟨B.exec, B.bytes, B.returns, hml, hown, fun w h => hts w (List.mem_cons_of_mem _ h), B.notSynchronized, hK, hA⟩ s.heap [] _ hP hD hS hl
/-- a shape's references through a map of cells -/
def cr_rs (pl : Nat → Nat) (c : cr_Shp) : cr_Shp := match c with
  | .inl o => .inl (o.1, o.2.map (fun f => f.map pl))
  | .inr a => .inr a
theorem cr_fs_rs (ad pl : Nat → Nat) (row : Nat → Int32) (fs : List (Option Nat)) : ∀ j, cr_fs ad row j (fs.map (fun f => f.map pl)) = cr_fs (fun k => ad (pl k)) row j fs := by
  induction fs with
  | nil => intro j; rfl
  | cons f t ih => intro j; cases f <;> simp [cr_fs, cr_fv, ih]
theorem cr_en_rs (cI cZ : ClassId) (ad pl : Nat → Nat) (row : Nat → Int32) (c : cr_Shp) : cr_en cI cZ ad row (cr_rs pl c) = cr_en cI cZ (fun k => ad (pl k)) row c := by
  rcases c with o | a
  · simp [cr_en, cr_rs, cr_fs_rs]
  · rfl
def cr_rv (pl : Nat → Nat) (v : cr_AV) : cr_AV := match v with
  | .inl x => .inl x
  | .inr (.inl x) => .inr (.inl x)
  | .inr (.inr k) => .inr (.inr (pl k))
theorem cr_tv_rv (ad pl : Nat → Nat) (v : cr_AV) : cr_tv ad (cr_rv pl v) = cr_tv (fun k => ad (pl k)) v := by
  rcases v with x | x | x <;> rfl
/-- the callee's cells lie in the caller's world at the places that pl names -/
def cr_fit (sh sh' : List cr_Shp) (pl : Nat → Nat) : Prop := (∀ j c, sh'[j]? = some c → sh[pl j]? = some (cr_rs pl c)) ∧ ∀ i j, i < sh'.length → j < sh'.length → pl i = pl j → i = j
theorem cr_fit_of {sh sh' : List cr_Shp} {pl : Nat → Nat} (h : (List.range sh'.length).all (fun j => decide (sh[pl j]? = (sh'[j]?).map (cr_rs pl))) = true) (hi : ∀ i j, i < sh'.length → j < sh'.length → pl i = pl j → i = j) : cr_fit sh sh' pl := by
  refine ⟨fun j c hc => ?_, hi⟩
  have hj : j < sh'.length := (List.getElem?_eq_some_iff.mp hc).1
  have h1 := List.all_eq_true.mp h j (List.mem_range.mpr hj)
  have h2 := of_decide_eq_true h1
  rw [h2, hc]
  rfl
theorem cr_sub_P {Y Y' : cr_Y} {pl : Nat → Nat} (hf : cr_fit (cr_sh Y) (cr_sh Y') pl) {D : va_G} {cI cZ : ClassId} {ad : Nat → Nat} {M : cr_M} {H : Heap} (hP : va_P D cr_cl (cr_wl cI cZ ad M 0 (cr_sh Y)) H) : va_P D cr_cl (cr_wl cI cZ (fun k => ad (pl k)) (fun k => M (pl k)) 0 (cr_sh Y')) H := by
  intro k q hq
  obtain ⟨c, hc, rfl⟩ := cr_wl_inv hq
  have := hP (pl k) _ (cr_wl_get0 (hf.1 k c hc))
  rw [cr_en_rs] at this
  exact this
theorem cr_sub_D {Y Y' : cr_Y} {pl : Nat → Nat} (hf : cr_fit (cr_sh Y) (cr_sh Y') pl) {cI cZ : ClassId} {ad : Nat → Nat} {M : cr_M} {A : Nat → Prop} (hD : va_D A (cr_wl cI cZ ad M 0 (cr_sh Y))) : va_D (fun _ => True) (cr_wl cI cZ (fun k => ad (pl k)) (fun k => M (pl k)) 0 (cr_sh Y')) := by
  refine ⟨fun i j p q hi hj hpq => ?_, fun _ _ _ => trivial⟩
  obtain ⟨c, hc, rfl⟩ := cr_wl_inv hi
  obtain ⟨d, hd, rfl⟩ := cr_wl_inv hj
  have h1 := hD.1 (pl i) (pl j) _ _ (cr_wl_get0 (hf.1 i c hc)) (cr_wl_get0 (hf.1 j d hd)) hpq
  exact hf.2 i j (List.getElem?_eq_some_iff.mp hc).1 (List.getElem?_eq_some_iff.mp hd).1 h1
/-- the callee's cells, and the rest, behind a call -/
theorem cr_join {Y Y' : cr_Y} {pl : Nat → Nat} (hf : cr_fit (cr_sh Y) (cr_sh Y') pl) {D : va_G} {cI cZ : ClassId} {ad : Nat → Nat} {M M2 M' : cr_M} {A : Nat → Prop} {H H1 : Heap} (hP : va_P D cr_cl (cr_wl cI cZ ad M 0 (cr_sh Y)) H) (hD : va_D A (cr_wl cI cZ ad M 0 (cr_sh Y)))
    (hk : ∀ q : Nat, q < H.size → ¬ va_A (cr_wl cI cZ (fun k => ad (pl k)) (fun k => M (pl k)) 0 (cr_sh Y')) H.size q → H1[q]? = H[q]?)
    (hP1 : va_P D cr_cl (cr_wl cI cZ (fun k => ad (pl k)) M' 0 (cr_sh Y')) H1) (h1 : ∀ j, j < (cr_sh Y').length → M2 (pl j) = M' j) (h2 : ∀ k, k < (cr_sh Y).length → (∀ j, j < (cr_sh Y').length → ¬ pl j = k) → M2 k = M k) : va_P D cr_cl (cr_wl cI cZ ad M2 0 (cr_sh Y)) H1 := by
  intro k q hq
  obtain ⟨c, hc, rfl⟩ := cr_wl_inv hq
  by_cases hin : ∃ j, j < (cr_sh Y').length ∧ pl j = k
  · obtain ⟨j, hj, rfl⟩ := hin
    obtain ⟨d, hd⟩ : ∃ d, (cr_sh Y')[j]? = some d := ⟨_, List.getElem?_eq_getElem hj⟩
    have e1 := hP1 j _ (cr_wl_get0 hd)
    have e2 := hf.1 j d hd
    rw [hc] at e2
    cases e2
    rw [h1 j hj, cr_en_rs]
    exact e1
  · have e0 : M2 k = M k := h2 k (List.getElem?_eq_some_iff.mp hc).1 (fun j hj e => hin ⟨j, hj, e⟩)
    rw [e0]
    have e1 := hP k _ (cr_wl_get0 hc)
    refine e1.kept (hk _ e1.lt ?_)
    rintro (⟨j, x, hx⟩ | hx)
    · obtain ⟨d, hd, hq2⟩ := cr_wl_inv hx
      have e9 : ad k = ad (pl j) := congrArg Prod.fst hq2
      have e3 := hD.1 k (pl j) _ _ (cr_wl_get0 hc) (cr_wl_get0 (hf.1 j d hd)) e9
      exact hin ⟨j, (List.getElem?_eq_some_iff.mp hd).1, e3.symm⟩
    · exact absurd e1.lt (Nat.not_lt.mpr hx)
theorem cr_blind {D : va_G} {cI cZ : ClassId} {ad : Nat → Nat} {sh : List cr_Shp} {as : List cr_AV} {M : cr_M} {sz : Nat} : FrameBlind (cr_Pc D cI cZ ad sh as M sz) := fun a U g mk q => by
  obtain ⟨q0, q1, qP, qK, qD⟩ := q
  exact ⟨q0, q1, qP, va_K.moved (u := U) (U := U.calling g mk a) (Vm.Alike.refl U.vm) qK, qD⟩
theorem cr_goodIn {Y : cr_Y} (h : Cond.code (cr_nm Y) (cr_by Y) (cr_ml Y) (cr_rt Y) ∈ cr_tb) : GoodIn cr_tb (cr_ws Y) := by
  intro w hw
  rcases List.mem_cons.mp hw with rfl | hw
  · exact ⟨h, good_of_word (cr_lw h).2⟩
  · exact ⟨hw, good_of_word (cr_lw hw).2⟩
/-- what the tables say of a call, and its room: kind false by the receiver, true static -/
def cr_cs (Y Y' : cr_Y) (idx n : Nat) : Prop :=
  Cond.code (cr_nm Y') (cr_by Y') (cr_ml Y') (cr_rt Y') ∈ cr_tb ∧ Cond.methodLink (cr_nm Y).cls idx (cr_nm Y') ∈ cr_tb ∧ Cond.initialized (cr_nm Y').cls ∈ cr_tb ∧
  ((cr_nm Y').cls ≠ "java/lang/invoke/MethodHandle" ∧ (cr_nm Y').cls ≠ "java/lang/invoke/VarHandle" ∧ (parseMethodDescriptor (cr_nm Y').desc).map (fun d => d.parameters.length) = some n) ∧
  (cr_fr Y' + 1 ≤ cr_fr Y ∧ 8 + (cr_ml Y' + 11) + cr_lo Y' ≤ cr_lo Y) ∧ plainName (cr_nm Y').cls = true
def cr_csV (Y' : cr_Y) : Prop := Cond.instanceMethod (cr_nm Y') ∈ cr_tb ∧ Cond.selects (cr_nm Y').cls (cr_nm Y') (cr_nm Y') ∈ cr_tb
def cr_w8 (st : List cr_AV) : Nat := (st.map (fun v : cr_AV => match v with | .inr (.inl _) => 2 | _ => 1)).sum
theorem cr_w8_eq (ad : Nat → Nat) (st : List cr_AV) : ((st.map (cr_tv ad)).map fun v => v.category).sum = cr_w8 st := by
  unfold cr_w8
  rw [List.map_map]; congr 1; apply List.map_congr_left; intro v _; exact cr_cat
/-- behind a call: the answer on the stack -/
theorem cr_after {Y Y' : cr_Y} {pc : Nat} {lv : List (Nat × cr_AV)} {st : List cr_AV} {M M' M2 : cr_M} {r : Option cr_AV × cr_M} {v : Option cr_AV} {pl : Nat → Nat} (hf : cr_fit (cr_sh Y) (cr_sh Y') pl) (h1 : ∀ j, j < (cr_sh Y').length → M2 (pl j) = M' j) (h2 : ∀ k, k < (cr_sh Y).length → (∀ j, j < (cr_sh Y').length → ¬ pl j = k) → M2 k = M k)
    (k : cr_Ev Y (pc + 3) lv (v.toList ++ st) M2 r)
    {l : Launch} {D : va_G} {cI cZ : ClassId} {ad : Nat → Nat} {A : Nat → Prop} {p : Program} {e : Env} {s : State} {m : MethodId} {args : Array Value} {below : List Frame} {meth : Method} {c : Code} (C : cr_Cx Y D cI cZ A p s m args meth c) {H : Heap} {locs : List Loc} {ls : Array Slot} (hP : va_P D cr_cl (cr_wl cI cZ ad M 0 (cr_sh Y)) H) (hD : va_D A (cr_wl cI cZ ad M 0 (cr_sh Y))) (hS : va_S A s.heap H locs) (hl : lv_has ls (cr_ml Y) (lv.map (cr_tl ad))) {st0 : List Value} {a : Array Value}
    (hR : va_Run p l e (cr_rm Y) s m args below meth c H locs 0 0 0 0 (F0 m pc ls st0) (st.map (cr_tv ad)) (cr_Q D cI cZ (fun k => ad (pl k)) (va_A (cr_wl cI cZ (fun k => ad (pl k)) (fun k => M (pl k)) 0 (cr_sh Y')) H.size) (cr_sh Y') (v, M') a) (va_A (cr_wl cI cZ (fun k => ad (pl k)) (fun k => M (pl k)) 0 (cr_sh Y')) H.size)) :
    W p l e (cr_rm Y) s m args below meth c H locs 0 0 (MQ below (cr_Q D cI cZ ad A (cr_sh Y) r) args s 0 0 A) (F0 m pc ls st0) := by
  obtain ⟨hx, hb, hr, hml, hown, hts, hlk, hK, hA⟩ := id C
  have hF : ∀ q, va_A (cr_wl cI cZ (fun k => ad (pl k)) (fun k => M (pl k)) 0 (cr_sh Y')) H.size q → A q := by
    rintro q (⟨j, x, hx⟩ | hx)
    · obtain ⟨d, hd, hq2⟩ := cr_wl_inv hx
      cases hq2
      exact hD.2 (pl j) _ (cr_wl_get0 (hf.1 j d hd))
    · exact hA q (Nat.le_trans hS.1 hx)
  have fin : ∀ (t : State) (H1 : Heap) (locs1 : List Loc), t.heap = H1 → cr_B D cI cZ (fun k => ad (pl k)) (va_A (cr_wl cI cZ (fun k => ad (pl k)) (fun k => M (pl k)) 0 (cr_sh Y')) H.size) (cr_sh Y') M' t → (∀ q : Nat, q < H.size → ¬ va_A (cr_wl cI cZ (fun k => ad (pl k)) (fun k => M (pl k)) 0 (cr_sh Y')) H.size q → H1[q]? = H[q]?) → va_S A s.heap H1 locs1 →
      W p l e (cr_rm Y) s m args below meth c H1 locs1 0 0 (MQ below (cr_Q D cI cZ ad A (cr_sh Y) r) args s 0 0 A) (F0 m (pc + 3) ls ((v.toList ++ st).map (cr_tv ad))) := by
    intro t H1 locs1 ht hB hk1 hS1
    obtain ⟨hP1, hK1, hD1⟩ := hB
    rw [ht] at hP1
    exact k l D cI cZ ad A p e s m args below meth c C H1 locs1 ls (cr_join hf hP hD hk1 hP1 h1 h2) (cr_wl_D hD) hS1 hl
  rcases v with _ | v | v | v
  · exact va_callv (a := a) hR hS (fun q _ h => hF q h) hF (fun u t H1 locs1 ht hvm hw hB hz1 hk1 hS1 => fin t H1 locs1 ht hB hk1 hS1)
  · exact va_calli (a := a) hR hS (fun q _ h => hF q h) hF (fun r1 u t H1 locs1 ht hvm hw hB hz1 hk1 hS1 => by
      have := fin t H1 locs1 ht hB hk1 hS1
      have hw : r1 = v := hw
      subst hw
      exact this)
  · exact va_calll (a := a) hR hS (fun q _ h => hF q h) hF (fun r1 u t H1 locs1 ht hvm hw hB hz1 hk1 hS1 => by
      have := fin t H1 locs1 ht hB hk1 hS1
      have hw : r1 = v := hw
      subst hw
      exact this)
  · intro T hT X
    obtain ⟨_, _, _, _, _, _, _, _, _, _, h, _⟩ := hR T hT X
    exact h.elim
/-- a call by a receiver -/
theorem e_callV {Y Y' : cr_Y} {pc idx n : Nat} {lv : List (Nat × cr_AV)} {st stk : List cr_AV} {M M' M2 : cr_M} {r : Option cr_AV × cr_M} {v : Option cr_AV} {pl : Nat → Nat} {as : List cr_AV} (hd : decode (cr_by Y) pc = .ok (.invokevirtual idx, 3)) (hc : cr_cs Y Y' idx n) (hv : cr_csV Y') (hf : cr_fit (cr_sh Y) (cr_sh Y') pl)
    (hsh : ∃ ci q fs, (cr_sh Y')[0]? = some (.inl (ci, fs)) ∧ cr_cl[ci]? = some q ∧ q.1 = (cr_nm Y').cls) (hn : as.length = n) (hz : cr_sz (.inr (.inr 0) :: as) ≤ cr_ml Y') (hst : stk = (as.map (cr_rv pl)).reverse ++ .inr (.inr (pl 0)) :: st) (h8 : cr_w8 st ≤ 8)
    (E : cr_EvM Y' (.inr (.inr 0) :: as) (fun k => M (pl k)) (v, M')) (h1 : ∀ j, j < (cr_sh Y').length → M2 (pl j) = M' j) (h2 : ∀ k, k < (cr_sh Y).length → (∀ j, j < (cr_sh Y').length → ¬ pl j = k) → M2 k = M k) (k : cr_Ev Y (pc + 3) lv (v.toList ++ st) M2 r) : cr_Ev Y pc lv stk M r := by
  intro l D cI cZ ad A p e s m args below meth c C H locs ls hP hD hS hl
  obtain ⟨hx, hb, hr, hml, hown, hts, hlk, hK, hA⟩ := id C
  obtain ⟨c1, c2, c3, c4, c5, c6⟩ := hc
  obtain ⟨ci, qc, fs, s1, s2, s3⟩ := hsh
  subst hst
  have hsP := cr_sub_P hf hP
  have hrec := va_recv hK hsP (ci := ci) (q0 := 0) s2 (cr_wl_get0 s1)
  rw [s3] at hrec
  have hm := cr_met (as := .inr (.inr 0) :: as) c6 hz E l D cI cZ (fun k => ad (pl k)) H.size
  have hB := callB_of (R := cr_rm Y) (rm := cr_rm Y') n hts (cr_goodIn c1) rfl rfl rfl (hts _ c3) (hts _ c2) c4 c5
  have hmp : (as.map (cr_rv pl)).map (cr_tv ad) = as.map (cr_tv (fun k => ad (pl k))) := by
    rw [List.map_map]; apply List.map_congr_left; intro x _; exact cr_tv_rv ad pl x
  refine cr_after hf h1 h2 k C hP hD hS hl (va_runV (As := as.map (cr_tv (fun k => ad (pl k)))) (b := ad (pl 0)) (rest := st.map (cr_tv ad)) ⟨hx, hb, hml, hown, hts⟩ hm ⟨hB, hts _ hv.1, hts _ hv.2⟩ ⟨cr_blind, hrec, fun U hU hW => ⟨rfl, by rw [hU], by rw [hU]; exact hsP, va_K.moved hW.alike hK, cr_sub_D hf hD⟩⟩ rfl (by rw [List.length_map]; exact hn) hl.1 ?_ (lv_room (by rw [cr_w8_eq]; exact h8)) hd ⟨Nat.le_refl _, Nat.le_refl _⟩)
  show ((as.map (cr_rv pl)).reverse ++ .inr (.inr (pl 0)) :: st).map (cr_tv ad) = _
  rw [List.map_append, List.map_reverse, hmp]
  rfl
/-- a static call: no cells of its own -/
theorem e_callS {Y Y' : cr_Y} {pc idx n : Nat} {lv : List (Nat × cr_AV)} {st stk : List cr_AV} {M M' : cr_M} {r : Option cr_AV × cr_M} {v : Option cr_AV} {as : List cr_AV} (hd : decode (cr_by Y) pc = .ok (.invokestatic idx, 3)) (hc : cr_cs Y Y' idx n) (hv : Cond.static (cr_nm Y') ∈ cr_tb) (hsh : cr_sh Y' = [])
    (hn : as.length = n) (hz : cr_sz as ≤ cr_ml Y') (hst : stk = (as.map (cr_rv (fun k => k))).reverse ++ st) (h8 : cr_w8 st ≤ 8)
    (E : cr_EvM Y' as M (v, M')) (k : cr_Ev Y (pc + 3) lv (v.toList ++ st) M r) : cr_Ev Y pc lv stk M r := by
  intro l D cI cZ ad A p e s m args below meth c C H locs ls hP hD hS hl
  obtain ⟨hx, hb, hr, hml, hown, hts, hlk, hK, hA⟩ := id C
  obtain ⟨c1, c2, c3, c4, c5, c6⟩ := hc
  subst hst
  have hf : cr_fit (cr_sh Y) (cr_sh Y') (fun k => k) := ⟨fun j c h => (by rw [hsh] at h; simp at h), fun i j h => (by rw [hsh] at h; exact absurd h (Nat.not_lt_zero _))⟩
  have hsP := cr_sub_P hf hP
  have hm := cr_met (as := as) c6 hz E l D cI cZ (fun k => ad k) H.size
  have hB := callB_of (R := cr_rm Y) (rm := cr_rm Y') n hts (cr_goodIn c1) rfl rfl rfl (hts _ c3) (hts _ c2) c4 c5
  have hmp : (as.map (cr_rv (fun k => k))).map (cr_tv ad) = as.map (cr_tv (fun k => ad k)) := by
    rw [List.map_map]; apply List.map_congr_left; intro x _; exact cr_tv_rv ad (fun k => k) x
  refine cr_after hf (M' := M') (M2 := M) (fun j h => (by rw [hsh] at h; exact absurd h (Nat.not_lt_zero _))) (fun _ _ _ => rfl) k C hP hD hS hl (va_runS (As := as.map (cr_tv (fun k => ad k))) (rest := st.map (cr_tv ad)) ⟨hx, hb, hml, hown, hts⟩ hm ⟨hB, hts _ hv⟩ ⟨cr_blind, fun U hU hW => ⟨rfl, by rw [hU], by rw [hU]; exact hsP, va_K.moved hW.alike hK, cr_sub_D hf hD⟩⟩ rfl (by rw [List.length_map]; exact hn) hl.1 ?_ (lv_room (by rw [cr_w8_eq]; exact h8)) hd ⟨Nat.le_refl _, Nat.le_refl _⟩)
  show ((as.map (cr_rv (fun k => k))).reverse ++ st).map (cr_tv ad) = _
  rw [List.map_append, List.map_reverse, hmp]
/-- the receiver is an object of the callee's class -/
def cr_rc (Y' : cr_Y) : Prop := ∃ ci q fs, (cr_sh Y')[0]? = some (.inl (ci, fs)) ∧ cr_cl[ci]? = some q ∧ q.1 = (cr_nm Y').cls
def cr_mg (M : cr_M) (k0 n : Nat) (M' : cr_M) : cr_M := fun k => if k0 ≤ k ∧ k < k0 + n then M' (k - k0) else M k
theorem cr_mg_in {M M' : cr_M} {k0 n j : Nat} (h : j < n) : cr_mg M k0 n M' (k0 + j) = M' j := by
  unfold cr_mg
  rw [if_pos ⟨by omega, by omega⟩, Nat.add_sub_cancel_left]
theorem cr_mg_out {M M' : cr_M} {k0 n k : Nat} (h : k < k0 ∨ k0 + n ≤ k) : cr_mg M k0 n M' k = M k := by
  unfold cr_mg
  rw [if_neg (by omega)]
theorem e_self0v {Y Y' : cr_Y} {pc idx : Nat} {lv : List (Nat × cr_AV)} {st : List cr_AV} {M M' : cr_M} {r : Option cr_AV × cr_M} (hd : decode (cr_by Y) pc = .ok (.invokevirtual idx, 3)) (hc : cr_cs Y Y' idx 0) (hv : cr_csV Y') (hr : cr_rc Y') (hs : cr_sh Y' = cr_sh Y) (hz : 1 ≤ cr_ml Y') (h8 : cr_w8 st ≤ 8) (E : cr_EvM Y' [.inr (.inr 0)] M (none, M')) (k : cr_Ev Y (pc + 3) lv (st) M' r) : cr_Ev Y pc lv (.inr (.inr 0) :: st) M r := by
  refine e_callV (as := []) (pl := fun k => k) (M' := M') (M2 := M') hd hc hv ⟨fun j c h => ?_, fun i j _ _ h => h⟩ hr rfl (by simpa [cr_sz] using hz) rfl h8 E (fun _ _ => rfl) (fun k hk h => absurd rfl (h k (by rw [hs]; exact hk))) k
  rw [hs] at h
  rw [h]
  rcases c with o | a
  · simp [cr_rs, show (fun f : Option Nat => Option.map (fun k => k) f) = (fun f => f) from funext (fun f => by cases f <;> rfl)]
  · rfl
theorem e_offR0v {Y Y' : cr_Y} {pc idx : Nat} {lv : List (Nat × cr_AV)} {st : List cr_AV} {M M' : cr_M} {r : Option cr_AV × cr_M} {k0 : Nat} (hd : decode (cr_by Y) pc = .ok (.invokevirtual idx, 3)) (hc : cr_cs Y Y' idx 0) (hv : cr_csV Y') (hr : cr_rc Y') (hf : cr_fit (cr_sh Y) (cr_sh Y') (fun j => k0 + j)) (hz : 1 ≤ cr_ml Y') (h8 : cr_w8 st ≤ 8) (E : cr_EvM Y' [.inr (.inr 0)] (fun j => M (k0 + j)) (none, fun j => M (k0 + j))) (k : cr_Ev Y (pc + 3) lv (st) M r) : cr_Ev Y pc lv (.inr (.inr k0) :: st) M r :=
  e_callV (as := []) (pl := fun j => k0 + j) (M2 := M) hd hc hv hf hr rfl (by simpa [cr_sz] using hz) rfl h8 E (fun _ _ => rfl) (fun _ _ _ => rfl) k
theorem e_off0v {Y Y' : cr_Y} {pc idx : Nat} {lv : List (Nat × cr_AV)} {st : List cr_AV} {M M' : cr_M} {r : Option cr_AV × cr_M} {k0 : Nat} (hd : decode (cr_by Y) pc = .ok (.invokevirtual idx, 3)) (hc : cr_cs Y Y' idx 0) (hv : cr_csV Y') (hr : cr_rc Y') (hf : cr_fit (cr_sh Y) (cr_sh Y') (fun j => k0 + j)) (hz : 1 ≤ cr_ml Y') (h8 : cr_w8 st ≤ 8) (E : cr_EvM Y' [.inr (.inr 0)] (fun j => M (k0 + j)) (none, M')) (k : cr_Ev Y (pc + 3) lv (st) (cr_mg M k0 (cr_sh Y').length M') r) : cr_Ev Y pc lv (.inr (.inr k0) :: st) M r :=
  e_callV (as := []) (pl := fun j => k0 + j) (M' := M') (M2 := cr_mg M k0 (cr_sh Y').length M') hd hc hv hf hr rfl (by simpa [cr_sz] using hz) rfl h8 E (fun j hj => cr_mg_in hj) (fun k _ h => cr_mg_out (by
    rcases Nat.lt_or_ge k k0 with h1 | h1
    · exact Or.inl h1
    · rcases Nat.lt_or_ge k (k0 + (cr_sh Y').length) with h2 | h2
      · exact absurd (show k0 + (k - k0) = k by omega) (h (k - k0) (by omega))
      · exact Or.inr h2)) k
theorem e_stat0v {Y Y' : cr_Y} {pc idx : Nat} {lv : List (Nat × cr_AV)} {st : List cr_AV} {M M' : cr_M} {r : Option cr_AV × cr_M} (hd : decode (cr_by Y) pc = .ok (.invokestatic idx, 3)) (hc : cr_cs Y Y' idx 0) (hv : Cond.static (cr_nm Y') ∈ cr_tb) (hs : cr_sh Y' = []) (hz : 0 ≤ cr_ml Y') (h8 : cr_w8 st ≤ 8) (E : cr_EvM Y' [] M (none, M')) (k : cr_Ev Y (pc + 3) lv (st) M r) : cr_Ev Y pc lv (st) M r :=
  e_callS (as := []) hd hc hv hs rfl (by simpa [cr_sz] using hz) rfl h8 E k
theorem e_self0i {Y Y' : cr_Y} {pc idx : Nat} {lv : List (Nat × cr_AV)} {st : List cr_AV} {M M' : cr_M} {r : Option cr_AV × cr_M} {x : Int32} (hd : decode (cr_by Y) pc = .ok (.invokevirtual idx, 3)) (hc : cr_cs Y Y' idx 0) (hv : cr_csV Y') (hr : cr_rc Y') (hs : cr_sh Y' = cr_sh Y) (hz : 1 ≤ cr_ml Y') (h8 : cr_w8 st ≤ 8) (E : cr_EvM Y' [.inr (.inr 0)] M (some (.inl x), M')) (k : cr_Ev Y (pc + 3) lv (.inl x :: st) M' r) : cr_Ev Y pc lv (.inr (.inr 0) :: st) M r := by
  refine e_callV (as := []) (pl := fun k => k) (M' := M') (M2 := M') hd hc hv ⟨fun j c h => ?_, fun i j _ _ h => h⟩ hr rfl (by simpa [cr_sz] using hz) rfl h8 E (fun _ _ => rfl) (fun k hk h => absurd rfl (h k (by rw [hs]; exact hk))) k
  rw [hs] at h
  rw [h]
  rcases c with o | a
  · simp [cr_rs, show (fun f : Option Nat => Option.map (fun k => k) f) = (fun f => f) from funext (fun f => by cases f <;> rfl)]
  · rfl
theorem e_offR0i {Y Y' : cr_Y} {pc idx : Nat} {lv : List (Nat × cr_AV)} {st : List cr_AV} {M M' : cr_M} {r : Option cr_AV × cr_M} {k0 : Nat} {x : Int32} (hd : decode (cr_by Y) pc = .ok (.invokevirtual idx, 3)) (hc : cr_cs Y Y' idx 0) (hv : cr_csV Y') (hr : cr_rc Y') (hf : cr_fit (cr_sh Y) (cr_sh Y') (fun j => k0 + j)) (hz : 1 ≤ cr_ml Y') (h8 : cr_w8 st ≤ 8) (E : cr_EvM Y' [.inr (.inr 0)] (fun j => M (k0 + j)) (some (.inl x), fun j => M (k0 + j))) (k : cr_Ev Y (pc + 3) lv (.inl x :: st) M r) : cr_Ev Y pc lv (.inr (.inr k0) :: st) M r :=
  e_callV (as := []) (pl := fun j => k0 + j) (M2 := M) hd hc hv hf hr rfl (by simpa [cr_sz] using hz) rfl h8 E (fun _ _ => rfl) (fun _ _ _ => rfl) k
theorem e_off0i {Y Y' : cr_Y} {pc idx : Nat} {lv : List (Nat × cr_AV)} {st : List cr_AV} {M M' : cr_M} {r : Option cr_AV × cr_M} {k0 : Nat} {x : Int32} (hd : decode (cr_by Y) pc = .ok (.invokevirtual idx, 3)) (hc : cr_cs Y Y' idx 0) (hv : cr_csV Y') (hr : cr_rc Y') (hf : cr_fit (cr_sh Y) (cr_sh Y') (fun j => k0 + j)) (hz : 1 ≤ cr_ml Y') (h8 : cr_w8 st ≤ 8) (E : cr_EvM Y' [.inr (.inr 0)] (fun j => M (k0 + j)) (some (.inl x), M')) (k : cr_Ev Y (pc + 3) lv (.inl x :: st) (cr_mg M k0 (cr_sh Y').length M') r) : cr_Ev Y pc lv (.inr (.inr k0) :: st) M r :=
  e_callV (as := []) (pl := fun j => k0 + j) (M' := M') (M2 := cr_mg M k0 (cr_sh Y').length M') hd hc hv hf hr rfl (by simpa [cr_sz] using hz) rfl h8 E (fun j hj => cr_mg_in hj) (fun k _ h => cr_mg_out (by
    rcases Nat.lt_or_ge k k0 with h1 | h1
    · exact Or.inl h1
    · rcases Nat.lt_or_ge k (k0 + (cr_sh Y').length) with h2 | h2
      · exact absurd (show k0 + (k - k0) = k by omega) (h (k - k0) (by omega))
      · exact Or.inr h2)) k
theorem e_stat0i {Y Y' : cr_Y} {pc idx : Nat} {lv : List (Nat × cr_AV)} {st : List cr_AV} {M M' : cr_M} {r : Option cr_AV × cr_M} {x : Int32} (hd : decode (cr_by Y) pc = .ok (.invokestatic idx, 3)) (hc : cr_cs Y Y' idx 0) (hv : Cond.static (cr_nm Y') ∈ cr_tb) (hs : cr_sh Y' = []) (hz : 0 ≤ cr_ml Y') (h8 : cr_w8 st ≤ 8) (E : cr_EvM Y' [] M (some (.inl x), M')) (k : cr_Ev Y (pc + 3) lv (.inl x :: st) M r) : cr_Ev Y pc lv (st) M r :=
  e_callS (as := []) hd hc hv hs rfl (by simpa [cr_sz] using hz) rfl h8 E k
theorem e_self1v {Y Y' : cr_Y} {pc idx : Nat} {lv : List (Nat × cr_AV)} {st : List cr_AV} {M M' : cr_M} {r : Option cr_AV × cr_M} {a : Int32} (hd : decode (cr_by Y) pc = .ok (.invokevirtual idx, 3)) (hc : cr_cs Y Y' idx 1) (hv : cr_csV Y') (hr : cr_rc Y') (hs : cr_sh Y' = cr_sh Y) (hz : 2 ≤ cr_ml Y') (h8 : cr_w8 st ≤ 8) (E : cr_EvM Y' [.inr (.inr 0), .inl a] M (none, M')) (k : cr_Ev Y (pc + 3) lv (st) M' r) : cr_Ev Y pc lv (.inl a :: .inr (.inr 0) :: st) M r := by
  refine e_callV (as := [.inl a]) (pl := fun k => k) (M' := M') (M2 := M') hd hc hv ⟨fun j c h => ?_, fun i j _ _ h => h⟩ hr rfl (by simpa [cr_sz] using hz) rfl h8 E (fun _ _ => rfl) (fun k hk h => absurd rfl (h k (by rw [hs]; exact hk))) k
  rw [hs] at h
  rw [h]
  rcases c with o | a
  · simp [cr_rs, show (fun f : Option Nat => Option.map (fun k => k) f) = (fun f => f) from funext (fun f => by cases f <;> rfl)]
  · rfl
theorem e_offR1v {Y Y' : cr_Y} {pc idx : Nat} {lv : List (Nat × cr_AV)} {st : List cr_AV} {M M' : cr_M} {r : Option cr_AV × cr_M} {k0 : Nat} {a : Int32} (hd : decode (cr_by Y) pc = .ok (.invokevirtual idx, 3)) (hc : cr_cs Y Y' idx 1) (hv : cr_csV Y') (hr : cr_rc Y') (hf : cr_fit (cr_sh Y) (cr_sh Y') (fun j => k0 + j)) (hz : 2 ≤ cr_ml Y') (h8 : cr_w8 st ≤ 8) (E : cr_EvM Y' [.inr (.inr 0), .inl a] (fun j => M (k0 + j)) (none, fun j => M (k0 + j))) (k : cr_Ev Y (pc + 3) lv (st) M r) : cr_Ev Y pc lv (.inl a :: .inr (.inr k0) :: st) M r :=
  e_callV (as := [.inl a]) (pl := fun j => k0 + j) (M2 := M) hd hc hv hf hr rfl (by simpa [cr_sz] using hz) rfl h8 E (fun _ _ => rfl) (fun _ _ _ => rfl) k
theorem e_off1v {Y Y' : cr_Y} {pc idx : Nat} {lv : List (Nat × cr_AV)} {st : List cr_AV} {M M' : cr_M} {r : Option cr_AV × cr_M} {k0 : Nat} {a : Int32} (hd : decode (cr_by Y) pc = .ok (.invokevirtual idx, 3)) (hc : cr_cs Y Y' idx 1) (hv : cr_csV Y') (hr : cr_rc Y') (hf : cr_fit (cr_sh Y) (cr_sh Y') (fun j => k0 + j)) (hz : 2 ≤ cr_ml Y') (h8 : cr_w8 st ≤ 8) (E : cr_EvM Y' [.inr (.inr 0), .inl a] (fun j => M (k0 + j)) (none, M')) (k : cr_Ev Y (pc + 3) lv (st) (cr_mg M k0 (cr_sh Y').length M') r) : cr_Ev Y pc lv (.inl a :: .inr (.inr k0) :: st) M r :=
  e_callV (as := [.inl a]) (pl := fun j => k0 + j) (M' := M') (M2 := cr_mg M k0 (cr_sh Y').length M') hd hc hv hf hr rfl (by simpa [cr_sz] using hz) rfl h8 E (fun j hj => cr_mg_in hj) (fun k _ h => cr_mg_out (by
    rcases Nat.lt_or_ge k k0 with h1 | h1
    · exact Or.inl h1
    · rcases Nat.lt_or_ge k (k0 + (cr_sh Y').length) with h2 | h2
      · exact absurd (show k0 + (k - k0) = k by omega) (h (k - k0) (by omega))
      · exact Or.inr h2)) k
theorem e_stat1v {Y Y' : cr_Y} {pc idx : Nat} {lv : List (Nat × cr_AV)} {st : List cr_AV} {M M' : cr_M} {r : Option cr_AV × cr_M} {a : Int32} (hd : decode (cr_by Y) pc = .ok (.invokestatic idx, 3)) (hc : cr_cs Y Y' idx 1) (hv : Cond.static (cr_nm Y') ∈ cr_tb) (hs : cr_sh Y' = []) (hz : 1 ≤ cr_ml Y') (h8 : cr_w8 st ≤ 8) (E : cr_EvM Y' [.inl a] M (none, M')) (k : cr_Ev Y (pc + 3) lv (st) M r) : cr_Ev Y pc lv (.inl a :: st) M r :=
  e_callS (as := [.inl a]) hd hc hv hs rfl (by simpa [cr_sz] using hz) rfl h8 E k
theorem e_self1i {Y Y' : cr_Y} {pc idx : Nat} {lv : List (Nat × cr_AV)} {st : List cr_AV} {M M' : cr_M} {r : Option cr_AV × cr_M} {a : Int32} {x : Int32} (hd : decode (cr_by Y) pc = .ok (.invokevirtual idx, 3)) (hc : cr_cs Y Y' idx 1) (hv : cr_csV Y') (hr : cr_rc Y') (hs : cr_sh Y' = cr_sh Y) (hz : 2 ≤ cr_ml Y') (h8 : cr_w8 st ≤ 8) (E : cr_EvM Y' [.inr (.inr 0), .inl a] M (some (.inl x), M')) (k : cr_Ev Y (pc + 3) lv (.inl x :: st) M' r) : cr_Ev Y pc lv (.inl a :: .inr (.inr 0) :: st) M r := by
  refine e_callV (as := [.inl a]) (pl := fun k => k) (M' := M') (M2 := M') hd hc hv ⟨fun j c h => ?_, fun i j _ _ h => h⟩ hr rfl (by simpa [cr_sz] using hz) rfl h8 E (fun _ _ => rfl) (fun k hk h => absurd rfl (h k (by rw [hs]; exact hk))) k
  rw [hs] at h
  rw [h]
  rcases c with o | a
  · simp [cr_rs, show (fun f : Option Nat => Option.map (fun k => k) f) = (fun f => f) from funext (fun f => by cases f <;> rfl)]
  · rfl
theorem e_offR1i {Y Y' : cr_Y} {pc idx : Nat} {lv : List (Nat × cr_AV)} {st : List cr_AV} {M M' : cr_M} {r : Option cr_AV × cr_M} {k0 : Nat} {a : Int32} {x : Int32} (hd : decode (cr_by Y) pc = .ok (.invokevirtual idx, 3)) (hc : cr_cs Y Y' idx 1) (hv : cr_csV Y') (hr : cr_rc Y') (hf : cr_fit (cr_sh Y) (cr_sh Y') (fun j => k0 + j)) (hz : 2 ≤ cr_ml Y') (h8 : cr_w8 st ≤ 8) (E : cr_EvM Y' [.inr (.inr 0), .inl a] (fun j => M (k0 + j)) (some (.inl x), fun j => M (k0 + j))) (k : cr_Ev Y (pc + 3) lv (.inl x :: st) M r) : cr_Ev Y pc lv (.inl a :: .inr (.inr k0) :: st) M r :=
  e_callV (as := [.inl a]) (pl := fun j => k0 + j) (M2 := M) hd hc hv hf hr rfl (by simpa [cr_sz] using hz) rfl h8 E (fun _ _ => rfl) (fun _ _ _ => rfl) k
theorem e_off1i {Y Y' : cr_Y} {pc idx : Nat} {lv : List (Nat × cr_AV)} {st : List cr_AV} {M M' : cr_M} {r : Option cr_AV × cr_M} {k0 : Nat} {a : Int32} {x : Int32} (hd : decode (cr_by Y) pc = .ok (.invokevirtual idx, 3)) (hc : cr_cs Y Y' idx 1) (hv : cr_csV Y') (hr : cr_rc Y') (hf : cr_fit (cr_sh Y) (cr_sh Y') (fun j => k0 + j)) (hz : 2 ≤ cr_ml Y') (h8 : cr_w8 st ≤ 8) (E : cr_EvM Y' [.inr (.inr 0), .inl a] (fun j => M (k0 + j)) (some (.inl x), M')) (k : cr_Ev Y (pc + 3) lv (.inl x :: st) (cr_mg M k0 (cr_sh Y').length M') r) : cr_Ev Y pc lv (.inl a :: .inr (.inr k0) :: st) M r :=
  e_callV (as := [.inl a]) (pl := fun j => k0 + j) (M' := M') (M2 := cr_mg M k0 (cr_sh Y').length M') hd hc hv hf hr rfl (by simpa [cr_sz] using hz) rfl h8 E (fun j hj => cr_mg_in hj) (fun k _ h => cr_mg_out (by
    rcases Nat.lt_or_ge k k0 with h1 | h1
    · exact Or.inl h1
    · rcases Nat.lt_or_ge k (k0 + (cr_sh Y').length) with h2 | h2
      · exact absurd (show k0 + (k - k0) = k by omega) (h (k - k0) (by omega))
      · exact Or.inr h2)) k
theorem e_stat1i {Y Y' : cr_Y} {pc idx : Nat} {lv : List (Nat × cr_AV)} {st : List cr_AV} {M M' : cr_M} {r : Option cr_AV × cr_M} {a : Int32} {x : Int32} (hd : decode (cr_by Y) pc = .ok (.invokestatic idx, 3)) (hc : cr_cs Y Y' idx 1) (hv : Cond.static (cr_nm Y') ∈ cr_tb) (hs : cr_sh Y' = []) (hz : 1 ≤ cr_ml Y') (h8 : cr_w8 st ≤ 8) (E : cr_EvM Y' [.inl a] M (some (.inl x), M')) (k : cr_Ev Y (pc + 3) lv (.inl x :: st) M r) : cr_Ev Y pc lv (.inl a :: st) M r :=
  e_callS (as := [.inl a]) hd hc hv hs rfl (by simpa [cr_sz] using hz) rfl h8 E k
theorem e_self2v {Y Y' : cr_Y} {pc idx : Nat} {lv : List (Nat × cr_AV)} {st : List cr_AV} {M M' : cr_M} {r : Option cr_AV × cr_M} {a b : Int32} (hd : decode (cr_by Y) pc = .ok (.invokevirtual idx, 3)) (hc : cr_cs Y Y' idx 2) (hv : cr_csV Y') (hr : cr_rc Y') (hs : cr_sh Y' = cr_sh Y) (hz : 3 ≤ cr_ml Y') (h8 : cr_w8 st ≤ 8) (E : cr_EvM Y' [.inr (.inr 0), .inl a, .inl b] M (none, M')) (k : cr_Ev Y (pc + 3) lv (st) M' r) : cr_Ev Y pc lv (.inl b :: .inl a :: .inr (.inr 0) :: st) M r := by
  refine e_callV (as := [.inl a, .inl b]) (pl := fun k => k) (M' := M') (M2 := M') hd hc hv ⟨fun j c h => ?_, fun i j _ _ h => h⟩ hr rfl (by simpa [cr_sz] using hz) rfl h8 E (fun _ _ => rfl) (fun k hk h => absurd rfl (h k (by rw [hs]; exact hk))) k
  rw [hs] at h
  rw [h]
  rcases c with o | a
  · simp [cr_rs, show (fun f : Option Nat => Option.map (fun k => k) f) = (fun f => f) from funext (fun f => by cases f <;> rfl)]
  · rfl
theorem e_offR2v {Y Y' : cr_Y} {pc idx : Nat} {lv : List (Nat × cr_AV)} {st : List cr_AV} {M M' : cr_M} {r : Option cr_AV × cr_M} {k0 : Nat} {a b : Int32} (hd : decode (cr_by Y) pc = .ok (.invokevirtual idx, 3)) (hc : cr_cs Y Y' idx 2) (hv : cr_csV Y') (hr : cr_rc Y') (hf : cr_fit (cr_sh Y) (cr_sh Y') (fun j => k0 + j)) (hz : 3 ≤ cr_ml Y') (h8 : cr_w8 st ≤ 8) (E : cr_EvM Y' [.inr (.inr 0), .inl a, .inl b] (fun j => M (k0 + j)) (none, fun j => M (k0 + j))) (k : cr_Ev Y (pc + 3) lv (st) M r) : cr_Ev Y pc lv (.inl b :: .inl a :: .inr (.inr k0) :: st) M r :=
  e_callV (as := [.inl a, .inl b]) (pl := fun j => k0 + j) (M2 := M) hd hc hv hf hr rfl (by simpa [cr_sz] using hz) rfl h8 E (fun _ _ => rfl) (fun _ _ _ => rfl) k
theorem e_off2v {Y Y' : cr_Y} {pc idx : Nat} {lv : List (Nat × cr_AV)} {st : List cr_AV} {M M' : cr_M} {r : Option cr_AV × cr_M} {k0 : Nat} {a b : Int32} (hd : decode (cr_by Y) pc = .ok (.invokevirtual idx, 3)) (hc : cr_cs Y Y' idx 2) (hv : cr_csV Y') (hr : cr_rc Y') (hf : cr_fit (cr_sh Y) (cr_sh Y') (fun j => k0 + j)) (hz : 3 ≤ cr_ml Y') (h8 : cr_w8 st ≤ 8) (E : cr_EvM Y' [.inr (.inr 0), .inl a, .inl b] (fun j => M (k0 + j)) (none, M')) (k : cr_Ev Y (pc + 3) lv (st) (cr_mg M k0 (cr_sh Y').length M') r) : cr_Ev Y pc lv (.inl b :: .inl a :: .inr (.inr k0) :: st) M r :=
  e_callV (as := [.inl a, .inl b]) (pl := fun j => k0 + j) (M' := M') (M2 := cr_mg M k0 (cr_sh Y').length M') hd hc hv hf hr rfl (by simpa [cr_sz] using hz) rfl h8 E (fun j hj => cr_mg_in hj) (fun k _ h => cr_mg_out (by
    rcases Nat.lt_or_ge k k0 with h1 | h1
    · exact Or.inl h1
    · rcases Nat.lt_or_ge k (k0 + (cr_sh Y').length) with h2 | h2
      · exact absurd (show k0 + (k - k0) = k by omega) (h (k - k0) (by omega))
      · exact Or.inr h2)) k
theorem e_stat2v {Y Y' : cr_Y} {pc idx : Nat} {lv : List (Nat × cr_AV)} {st : List cr_AV} {M M' : cr_M} {r : Option cr_AV × cr_M} {a b : Int32} (hd : decode (cr_by Y) pc = .ok (.invokestatic idx, 3)) (hc : cr_cs Y Y' idx 2) (hv : Cond.static (cr_nm Y') ∈ cr_tb) (hs : cr_sh Y' = []) (hz : 2 ≤ cr_ml Y') (h8 : cr_w8 st ≤ 8) (E : cr_EvM Y' [.inl a, .inl b] M (none, M')) (k : cr_Ev Y (pc + 3) lv (st) M r) : cr_Ev Y pc lv (.inl b :: .inl a :: st) M r :=
  e_callS (as := [.inl a, .inl b]) hd hc hv hs rfl (by simpa [cr_sz] using hz) rfl h8 E k
theorem e_self2i {Y Y' : cr_Y} {pc idx : Nat} {lv : List (Nat × cr_AV)} {st : List cr_AV} {M M' : cr_M} {r : Option cr_AV × cr_M} {a b : Int32} {x : Int32} (hd : decode (cr_by Y) pc = .ok (.invokevirtual idx, 3)) (hc : cr_cs Y Y' idx 2) (hv : cr_csV Y') (hr : cr_rc Y') (hs : cr_sh Y' = cr_sh Y) (hz : 3 ≤ cr_ml Y') (h8 : cr_w8 st ≤ 8) (E : cr_EvM Y' [.inr (.inr 0), .inl a, .inl b] M (some (.inl x), M')) (k : cr_Ev Y (pc + 3) lv (.inl x :: st) M' r) : cr_Ev Y pc lv (.inl b :: .inl a :: .inr (.inr 0) :: st) M r := by
  refine e_callV (as := [.inl a, .inl b]) (pl := fun k => k) (M' := M') (M2 := M') hd hc hv ⟨fun j c h => ?_, fun i j _ _ h => h⟩ hr rfl (by simpa [cr_sz] using hz) rfl h8 E (fun _ _ => rfl) (fun k hk h => absurd rfl (h k (by rw [hs]; exact hk))) k
  rw [hs] at h
  rw [h]
  rcases c with o | a
  · simp [cr_rs, show (fun f : Option Nat => Option.map (fun k => k) f) = (fun f => f) from funext (fun f => by cases f <;> rfl)]
  · rfl
theorem e_offR2i {Y Y' : cr_Y} {pc idx : Nat} {lv : List (Nat × cr_AV)} {st : List cr_AV} {M M' : cr_M} {r : Option cr_AV × cr_M} {k0 : Nat} {a b : Int32} {x : Int32} (hd : decode (cr_by Y) pc = .ok (.invokevirtual idx, 3)) (hc : cr_cs Y Y' idx 2) (hv : cr_csV Y') (hr : cr_rc Y') (hf : cr_fit (cr_sh Y) (cr_sh Y') (fun j => k0 + j)) (hz : 3 ≤ cr_ml Y') (h8 : cr_w8 st ≤ 8) (E : cr_EvM Y' [.inr (.inr 0), .inl a, .inl b] (fun j => M (k0 + j)) (some (.inl x), fun j => M (k0 + j))) (k : cr_Ev Y (pc + 3) lv (.inl x :: st) M r) : cr_Ev Y pc lv (.inl b :: .inl a :: .inr (.inr k0) :: st) M r :=
  e_callV (as := [.inl a, .inl b]) (pl := fun j => k0 + j) (M2 := M) hd hc hv hf hr rfl (by simpa [cr_sz] using hz) rfl h8 E (fun _ _ => rfl) (fun _ _ _ => rfl) k
theorem e_off2i {Y Y' : cr_Y} {pc idx : Nat} {lv : List (Nat × cr_AV)} {st : List cr_AV} {M M' : cr_M} {r : Option cr_AV × cr_M} {k0 : Nat} {a b : Int32} {x : Int32} (hd : decode (cr_by Y) pc = .ok (.invokevirtual idx, 3)) (hc : cr_cs Y Y' idx 2) (hv : cr_csV Y') (hr : cr_rc Y') (hf : cr_fit (cr_sh Y) (cr_sh Y') (fun j => k0 + j)) (hz : 3 ≤ cr_ml Y') (h8 : cr_w8 st ≤ 8) (E : cr_EvM Y' [.inr (.inr 0), .inl a, .inl b] (fun j => M (k0 + j)) (some (.inl x), M')) (k : cr_Ev Y (pc + 3) lv (.inl x :: st) (cr_mg M k0 (cr_sh Y').length M') r) : cr_Ev Y pc lv (.inl b :: .inl a :: .inr (.inr k0) :: st) M r :=
  e_callV (as := [.inl a, .inl b]) (pl := fun j => k0 + j) (M' := M') (M2 := cr_mg M k0 (cr_sh Y').length M') hd hc hv hf hr rfl (by simpa [cr_sz] using hz) rfl h8 E (fun j hj => cr_mg_in hj) (fun k _ h => cr_mg_out (by
    rcases Nat.lt_or_ge k k0 with h1 | h1
    · exact Or.inl h1
    · rcases Nat.lt_or_ge k (k0 + (cr_sh Y').length) with h2 | h2
      · exact absurd (show k0 + (k - k0) = k by omega) (h (k - k0) (by omega))
      · exact Or.inr h2)) k
theorem e_stat2i {Y Y' : cr_Y} {pc idx : Nat} {lv : List (Nat × cr_AV)} {st : List cr_AV} {M M' : cr_M} {r : Option cr_AV × cr_M} {a b : Int32} {x : Int32} (hd : decode (cr_by Y) pc = .ok (.invokestatic idx, 3)) (hc : cr_cs Y Y' idx 2) (hv : Cond.static (cr_nm Y') ∈ cr_tb) (hs : cr_sh Y' = []) (hz : 2 ≤ cr_ml Y') (h8 : cr_w8 st ≤ 8) (E : cr_EvM Y' [.inl a, .inl b] M (some (.inl x), M')) (k : cr_Ev Y (pc + 3) lv (.inl x :: st) M r) : cr_Ev Y pc lv (.inl b :: .inl a :: st) M r :=
  e_callS (as := [.inl a, .inl b]) hd hc hv hs rfl (by simpa [cr_sz] using hz) rfl h8 E k
theorem e_self3v {Y Y' : cr_Y} {pc idx : Nat} {lv : List (Nat × cr_AV)} {st : List cr_AV} {M M' : cr_M} {r : Option cr_AV × cr_M} {a b c : Int32} (hd : decode (cr_by Y) pc = .ok (.invokevirtual idx, 3)) (hc : cr_cs Y Y' idx 3) (hv : cr_csV Y') (hr : cr_rc Y') (hs : cr_sh Y' = cr_sh Y) (hz : 4 ≤ cr_ml Y') (h8 : cr_w8 st ≤ 8) (E : cr_EvM Y' [.inr (.inr 0), .inl a, .inl b, .inl c] M (none, M')) (k : cr_Ev Y (pc + 3) lv (st) M' r) : cr_Ev Y pc lv (.inl c :: .inl b :: .inl a :: .inr (.inr 0) :: st) M r := by
  refine e_callV (as := [.inl a, .inl b, .inl c]) (pl := fun k => k) (M' := M') (M2 := M') hd hc hv ⟨fun j c h => ?_, fun i j _ _ h => h⟩ hr rfl (by simpa [cr_sz] using hz) rfl h8 E (fun _ _ => rfl) (fun k hk h => absurd rfl (h k (by rw [hs]; exact hk))) k
  rw [hs] at h
  rw [h]
  rcases c with o | a
  · simp [cr_rs, show (fun f : Option Nat => Option.map (fun k => k) f) = (fun f => f) from funext (fun f => by cases f <;> rfl)]
  · rfl
theorem e_offR3v {Y Y' : cr_Y} {pc idx : Nat} {lv : List (Nat × cr_AV)} {st : List cr_AV} {M M' : cr_M} {r : Option cr_AV × cr_M} {k0 : Nat} {a b c : Int32} (hd : decode (cr_by Y) pc = .ok (.invokevirtual idx, 3)) (hc : cr_cs Y Y' idx 3) (hv : cr_csV Y') (hr : cr_rc Y') (hf : cr_fit (cr_sh Y) (cr_sh Y') (fun j => k0 + j)) (hz : 4 ≤ cr_ml Y') (h8 : cr_w8 st ≤ 8) (E : cr_EvM Y' [.inr (.inr 0), .inl a, .inl b, .inl c] (fun j => M (k0 + j)) (none, fun j => M (k0 + j))) (k : cr_Ev Y (pc + 3) lv (st) M r) : cr_Ev Y pc lv (.inl c :: .inl b :: .inl a :: .inr (.inr k0) :: st) M r :=
  e_callV (as := [.inl a, .inl b, .inl c]) (pl := fun j => k0 + j) (M2 := M) hd hc hv hf hr rfl (by simpa [cr_sz] using hz) rfl h8 E (fun _ _ => rfl) (fun _ _ _ => rfl) k
theorem e_off3v {Y Y' : cr_Y} {pc idx : Nat} {lv : List (Nat × cr_AV)} {st : List cr_AV} {M M' : cr_M} {r : Option cr_AV × cr_M} {k0 : Nat} {a b c : Int32} (hd : decode (cr_by Y) pc = .ok (.invokevirtual idx, 3)) (hc : cr_cs Y Y' idx 3) (hv : cr_csV Y') (hr : cr_rc Y') (hf : cr_fit (cr_sh Y) (cr_sh Y') (fun j => k0 + j)) (hz : 4 ≤ cr_ml Y') (h8 : cr_w8 st ≤ 8) (E : cr_EvM Y' [.inr (.inr 0), .inl a, .inl b, .inl c] (fun j => M (k0 + j)) (none, M')) (k : cr_Ev Y (pc + 3) lv (st) (cr_mg M k0 (cr_sh Y').length M') r) : cr_Ev Y pc lv (.inl c :: .inl b :: .inl a :: .inr (.inr k0) :: st) M r :=
  e_callV (as := [.inl a, .inl b, .inl c]) (pl := fun j => k0 + j) (M' := M') (M2 := cr_mg M k0 (cr_sh Y').length M') hd hc hv hf hr rfl (by simpa [cr_sz] using hz) rfl h8 E (fun j hj => cr_mg_in hj) (fun k _ h => cr_mg_out (by
    rcases Nat.lt_or_ge k k0 with h1 | h1
    · exact Or.inl h1
    · rcases Nat.lt_or_ge k (k0 + (cr_sh Y').length) with h2 | h2
      · exact absurd (show k0 + (k - k0) = k by omega) (h (k - k0) (by omega))
      · exact Or.inr h2)) k
theorem e_stat3v {Y Y' : cr_Y} {pc idx : Nat} {lv : List (Nat × cr_AV)} {st : List cr_AV} {M M' : cr_M} {r : Option cr_AV × cr_M} {a b c : Int32} (hd : decode (cr_by Y) pc = .ok (.invokestatic idx, 3)) (hc : cr_cs Y Y' idx 3) (hv : Cond.static (cr_nm Y') ∈ cr_tb) (hs : cr_sh Y' = []) (hz : 3 ≤ cr_ml Y') (h8 : cr_w8 st ≤ 8) (E : cr_EvM Y' [.inl a, .inl b, .inl c] M (none, M')) (k : cr_Ev Y (pc + 3) lv (st) M r) : cr_Ev Y pc lv (.inl c :: .inl b :: .inl a :: st) M r :=
  e_callS (as := [.inl a, .inl b, .inl c]) hd hc hv hs rfl (by simpa [cr_sz] using hz) rfl h8 E k
theorem e_self3i {Y Y' : cr_Y} {pc idx : Nat} {lv : List (Nat × cr_AV)} {st : List cr_AV} {M M' : cr_M} {r : Option cr_AV × cr_M} {a b c : Int32} {x : Int32} (hd : decode (cr_by Y) pc = .ok (.invokevirtual idx, 3)) (hc : cr_cs Y Y' idx 3) (hv : cr_csV Y') (hr : cr_rc Y') (hs : cr_sh Y' = cr_sh Y) (hz : 4 ≤ cr_ml Y') (h8 : cr_w8 st ≤ 8) (E : cr_EvM Y' [.inr (.inr 0), .inl a, .inl b, .inl c] M (some (.inl x), M')) (k : cr_Ev Y (pc + 3) lv (.inl x :: st) M' r) : cr_Ev Y pc lv (.inl c :: .inl b :: .inl a :: .inr (.inr 0) :: st) M r := by
  refine e_callV (as := [.inl a, .inl b, .inl c]) (pl := fun k => k) (M' := M') (M2 := M') hd hc hv ⟨fun j c h => ?_, fun i j _ _ h => h⟩ hr rfl (by simpa [cr_sz] using hz) rfl h8 E (fun _ _ => rfl) (fun k hk h => absurd rfl (h k (by rw [hs]; exact hk))) k
  rw [hs] at h
  rw [h]
  rcases c with o | a
  · simp [cr_rs, show (fun f : Option Nat => Option.map (fun k => k) f) = (fun f => f) from funext (fun f => by cases f <;> rfl)]
  · rfl
theorem e_offR3i {Y Y' : cr_Y} {pc idx : Nat} {lv : List (Nat × cr_AV)} {st : List cr_AV} {M M' : cr_M} {r : Option cr_AV × cr_M} {k0 : Nat} {a b c : Int32} {x : Int32} (hd : decode (cr_by Y) pc = .ok (.invokevirtual idx, 3)) (hc : cr_cs Y Y' idx 3) (hv : cr_csV Y') (hr : cr_rc Y') (hf : cr_fit (cr_sh Y) (cr_sh Y') (fun j => k0 + j)) (hz : 4 ≤ cr_ml Y') (h8 : cr_w8 st ≤ 8) (E : cr_EvM Y' [.inr (.inr 0), .inl a, .inl b, .inl c] (fun j => M (k0 + j)) (some (.inl x), fun j => M (k0 + j))) (k : cr_Ev Y (pc + 3) lv (.inl x :: st) M r) : cr_Ev Y pc lv (.inl c :: .inl b :: .inl a :: .inr (.inr k0) :: st) M r :=
  e_callV (as := [.inl a, .inl b, .inl c]) (pl := fun j => k0 + j) (M2 := M) hd hc hv hf hr rfl (by simpa [cr_sz] using hz) rfl h8 E (fun _ _ => rfl) (fun _ _ _ => rfl) k
theorem e_off3i {Y Y' : cr_Y} {pc idx : Nat} {lv : List (Nat × cr_AV)} {st : List cr_AV} {M M' : cr_M} {r : Option cr_AV × cr_M} {k0 : Nat} {a b c : Int32} {x : Int32} (hd : decode (cr_by Y) pc = .ok (.invokevirtual idx, 3)) (hc : cr_cs Y Y' idx 3) (hv : cr_csV Y') (hr : cr_rc Y') (hf : cr_fit (cr_sh Y) (cr_sh Y') (fun j => k0 + j)) (hz : 4 ≤ cr_ml Y') (h8 : cr_w8 st ≤ 8) (E : cr_EvM Y' [.inr (.inr 0), .inl a, .inl b, .inl c] (fun j => M (k0 + j)) (some (.inl x), M')) (k : cr_Ev Y (pc + 3) lv (.inl x :: st) (cr_mg M k0 (cr_sh Y').length M') r) : cr_Ev Y pc lv (.inl c :: .inl b :: .inl a :: .inr (.inr k0) :: st) M r :=
  e_callV (as := [.inl a, .inl b, .inl c]) (pl := fun j => k0 + j) (M' := M') (M2 := cr_mg M k0 (cr_sh Y').length M') hd hc hv hf hr rfl (by simpa [cr_sz] using hz) rfl h8 E (fun j hj => cr_mg_in hj) (fun k _ h => cr_mg_out (by
    rcases Nat.lt_or_ge k k0 with h1 | h1
    · exact Or.inl h1
    · rcases Nat.lt_or_ge k (k0 + (cr_sh Y').length) with h2 | h2
      · exact absurd (show k0 + (k - k0) = k by omega) (h (k - k0) (by omega))
      · exact Or.inr h2)) k
theorem e_stat3i {Y Y' : cr_Y} {pc idx : Nat} {lv : List (Nat × cr_AV)} {st : List cr_AV} {M M' : cr_M} {r : Option cr_AV × cr_M} {a b c : Int32} {x : Int32} (hd : decode (cr_by Y) pc = .ok (.invokestatic idx, 3)) (hc : cr_cs Y Y' idx 3) (hv : Cond.static (cr_nm Y') ∈ cr_tb) (hs : cr_sh Y' = []) (hz : 3 ≤ cr_ml Y') (h8 : cr_w8 st ≤ 8) (E : cr_EvM Y' [.inl a, .inl b, .inl c] M (some (.inl x), M')) (k : cr_Ev Y (pc + 3) lv (.inl x :: st) M r) : cr_Ev Y pc lv (.inl c :: .inl b :: .inl a :: st) M r :=
  e_callS (as := [.inl a, .inl b, .inl c]) hd hc hv hs rfl (by simpa [cr_sz] using hz) rfl h8 E k
theorem e_self4v {Y Y' : cr_Y} {pc idx : Nat} {lv : List (Nat × cr_AV)} {st : List cr_AV} {M M' : cr_M} {r : Option cr_AV × cr_M} {a b c d : Int32} (hd : decode (cr_by Y) pc = .ok (.invokevirtual idx, 3)) (hc : cr_cs Y Y' idx 4) (hv : cr_csV Y') (hr : cr_rc Y') (hs : cr_sh Y' = cr_sh Y) (hz : 5 ≤ cr_ml Y') (h8 : cr_w8 st ≤ 8) (E : cr_EvM Y' [.inr (.inr 0), .inl a, .inl b, .inl c, .inl d] M (none, M')) (k : cr_Ev Y (pc + 3) lv (st) M' r) : cr_Ev Y pc lv (.inl d :: .inl c :: .inl b :: .inl a :: .inr (.inr 0) :: st) M r := by
  refine e_callV (as := [.inl a, .inl b, .inl c, .inl d]) (pl := fun k => k) (M' := M') (M2 := M') hd hc hv ⟨fun j c h => ?_, fun i j _ _ h => h⟩ hr rfl (by simpa [cr_sz] using hz) rfl h8 E (fun _ _ => rfl) (fun k hk h => absurd rfl (h k (by rw [hs]; exact hk))) k
  rw [hs] at h
  rw [h]
  rcases c with o | a
  · simp [cr_rs, show (fun f : Option Nat => Option.map (fun k => k) f) = (fun f => f) from funext (fun f => by cases f <;> rfl)]
  · rfl
theorem e_offR4v {Y Y' : cr_Y} {pc idx : Nat} {lv : List (Nat × cr_AV)} {st : List cr_AV} {M M' : cr_M} {r : Option cr_AV × cr_M} {k0 : Nat} {a b c d : Int32} (hd : decode (cr_by Y) pc = .ok (.invokevirtual idx, 3)) (hc : cr_cs Y Y' idx 4) (hv : cr_csV Y') (hr : cr_rc Y') (hf : cr_fit (cr_sh Y) (cr_sh Y') (fun j => k0 + j)) (hz : 5 ≤ cr_ml Y') (h8 : cr_w8 st ≤ 8) (E : cr_EvM Y' [.inr (.inr 0), .inl a, .inl b, .inl c, .inl d] (fun j => M (k0 + j)) (none, fun j => M (k0 + j))) (k : cr_Ev Y (pc + 3) lv (st) M r) : cr_Ev Y pc lv (.inl d :: .inl c :: .inl b :: .inl a :: .inr (.inr k0) :: st) M r :=
  e_callV (as := [.inl a, .inl b, .inl c, .inl d]) (pl := fun j => k0 + j) (M2 := M) hd hc hv hf hr rfl (by simpa [cr_sz] using hz) rfl h8 E (fun _ _ => rfl) (fun _ _ _ => rfl) k
theorem e_off4v {Y Y' : cr_Y} {pc idx : Nat} {lv : List (Nat × cr_AV)} {st : List cr_AV} {M M' : cr_M} {r : Option cr_AV × cr_M} {k0 : Nat} {a b c d : Int32} (hd : decode (cr_by Y) pc = .ok (.invokevirtual idx, 3)) (hc : cr_cs Y Y' idx 4) (hv : cr_csV Y') (hr : cr_rc Y') (hf : cr_fit (cr_sh Y) (cr_sh Y') (fun j => k0 + j)) (hz : 5 ≤ cr_ml Y') (h8 : cr_w8 st ≤ 8) (E : cr_EvM Y' [.inr (.inr 0), .inl a, .inl b, .inl c, .inl d] (fun j => M (k0 + j)) (none, M')) (k : cr_Ev Y (pc + 3) lv (st) (cr_mg M k0 (cr_sh Y').length M') r) : cr_Ev Y pc lv (.inl d :: .inl c :: .inl b :: .inl a :: .inr (.inr k0) :: st) M r :=
  e_callV (as := [.inl a, .inl b, .inl c, .inl d]) (pl := fun j => k0 + j) (M' := M') (M2 := cr_mg M k0 (cr_sh Y').length M') hd hc hv hf hr rfl (by simpa [cr_sz] using hz) rfl h8 E (fun j hj => cr_mg_in hj) (fun k _ h => cr_mg_out (by
    rcases Nat.lt_or_ge k k0 with h1 | h1
    · exact Or.inl h1
    · rcases Nat.lt_or_ge k (k0 + (cr_sh Y').length) with h2 | h2
      · exact absurd (show k0 + (k - k0) = k by omega) (h (k - k0) (by omega))
      · exact Or.inr h2)) k
theorem e_stat4v {Y Y' : cr_Y} {pc idx : Nat} {lv : List (Nat × cr_AV)} {st : List cr_AV} {M M' : cr_M} {r : Option cr_AV × cr_M} {a b c d : Int32} (hd : decode (cr_by Y) pc = .ok (.invokestatic idx, 3)) (hc : cr_cs Y Y' idx 4) (hv : Cond.static (cr_nm Y') ∈ cr_tb) (hs : cr_sh Y' = []) (hz : 4 ≤ cr_ml Y') (h8 : cr_w8 st ≤ 8) (E : cr_EvM Y' [.inl a, .inl b, .inl c, .inl d] M (none, M')) (k : cr_Ev Y (pc + 3) lv (st) M r) : cr_Ev Y pc lv (.inl d :: .inl c :: .inl b :: .inl a :: st) M r :=
  e_callS (as := [.inl a, .inl b, .inl c, .inl d]) hd hc hv hs rfl (by simpa [cr_sz] using hz) rfl h8 E k
theorem e_self4i {Y Y' : cr_Y} {pc idx : Nat} {lv : List (Nat × cr_AV)} {st : List cr_AV} {M M' : cr_M} {r : Option cr_AV × cr_M} {a b c d : Int32} {x : Int32} (hd : decode (cr_by Y) pc = .ok (.invokevirtual idx, 3)) (hc : cr_cs Y Y' idx 4) (hv : cr_csV Y') (hr : cr_rc Y') (hs : cr_sh Y' = cr_sh Y) (hz : 5 ≤ cr_ml Y') (h8 : cr_w8 st ≤ 8) (E : cr_EvM Y' [.inr (.inr 0), .inl a, .inl b, .inl c, .inl d] M (some (.inl x), M')) (k : cr_Ev Y (pc + 3) lv (.inl x :: st) M' r) : cr_Ev Y pc lv (.inl d :: .inl c :: .inl b :: .inl a :: .inr (.inr 0) :: st) M r := by
  refine e_callV (as := [.inl a, .inl b, .inl c, .inl d]) (pl := fun k => k) (M' := M') (M2 := M') hd hc hv ⟨fun j c h => ?_, fun i j _ _ h => h⟩ hr rfl (by simpa [cr_sz] using hz) rfl h8 E (fun _ _ => rfl) (fun k hk h => absurd rfl (h k (by rw [hs]; exact hk))) k
  rw [hs] at h
  rw [h]
  rcases c with o | a
  · simp [cr_rs, show (fun f : Option Nat => Option.map (fun k => k) f) = (fun f => f) from funext (fun f => by cases f <;> rfl)]
  · rfl
theorem e_offR4i {Y Y' : cr_Y} {pc idx : Nat} {lv : List (Nat × cr_AV)} {st : List cr_AV} {M M' : cr_M} {r : Option cr_AV × cr_M} {k0 : Nat} {a b c d : Int32} {x : Int32} (hd : decode (cr_by Y) pc = .ok (.invokevirtual idx, 3)) (hc : cr_cs Y Y' idx 4) (hv : cr_csV Y') (hr : cr_rc Y') (hf : cr_fit (cr_sh Y) (cr_sh Y') (fun j => k0 + j)) (hz : 5 ≤ cr_ml Y') (h8 : cr_w8 st ≤ 8) (E : cr_EvM Y' [.inr (.inr 0), .inl a, .inl b, .inl c, .inl d] (fun j => M (k0 + j)) (some (.inl x), fun j => M (k0 + j))) (k : cr_Ev Y (pc + 3) lv (.inl x :: st) M r) : cr_Ev Y pc lv (.inl d :: .inl c :: .inl b :: .inl a :: .inr (.inr k0) :: st) M r :=
  e_callV (as := [.inl a, .inl b, .inl c, .inl d]) (pl := fun j => k0 + j) (M2 := M) hd hc hv hf hr rfl (by simpa [cr_sz] using hz) rfl h8 E (fun _ _ => rfl) (fun _ _ _ => rfl) k
theorem e_off4i {Y Y' : cr_Y} {pc idx : Nat} {lv : List (Nat × cr_AV)} {st : List cr_AV} {M M' : cr_M} {r : Option cr_AV × cr_M} {k0 : Nat} {a b c d : Int32} {x : Int32} (hd : decode (cr_by Y) pc = .ok (.invokevirtual idx, 3)) (hc : cr_cs Y Y' idx 4) (hv : cr_csV Y') (hr : cr_rc Y') (hf : cr_fit (cr_sh Y) (cr_sh Y') (fun j => k0 + j)) (hz : 5 ≤ cr_ml Y') (h8 : cr_w8 st ≤ 8) (E : cr_EvM Y' [.inr (.inr 0), .inl a, .inl b, .inl c, .inl d] (fun j => M (k0 + j)) (some (.inl x), M')) (k : cr_Ev Y (pc + 3) lv (.inl x :: st) (cr_mg M k0 (cr_sh Y').length M') r) : cr_Ev Y pc lv (.inl d :: .inl c :: .inl b :: .inl a :: .inr (.inr k0) :: st) M r :=
  e_callV (as := [.inl a, .inl b, .inl c, .inl d]) (pl := fun j => k0 + j) (M' := M') (M2 := cr_mg M k0 (cr_sh Y').length M') hd hc hv hf hr rfl (by simpa [cr_sz] using hz) rfl h8 E (fun j hj => cr_mg_in hj) (fun k _ h => cr_mg_out (by
    rcases Nat.lt_or_ge k k0 with h1 | h1
    · exact Or.inl h1
    · rcases Nat.lt_or_ge k (k0 + (cr_sh Y').length) with h2 | h2
      · exact absurd (show k0 + (k - k0) = k by omega) (h (k - k0) (by omega))
      · exact Or.inr h2)) k
theorem e_stat4i {Y Y' : cr_Y} {pc idx : Nat} {lv : List (Nat × cr_AV)} {st : List cr_AV} {M M' : cr_M} {r : Option cr_AV × cr_M} {a b c d : Int32} {x : Int32} (hd : decode (cr_by Y) pc = .ok (.invokestatic idx, 3)) (hc : cr_cs Y Y' idx 4) (hv : Cond.static (cr_nm Y') ∈ cr_tb) (hs : cr_sh Y' = []) (hz : 4 ≤ cr_ml Y') (h8 : cr_w8 st ≤ 8) (E : cr_EvM Y' [.inl a, .inl b, .inl c, .inl d] M (some (.inl x), M')) (k : cr_Ev Y (pc + 3) lv (.inl x :: st) M r) : cr_Ev Y pc lv (.inl d :: .inl c :: .inl b :: .inl a :: st) M r :=
  e_callS (as := [.inl a, .inl b, .inl c, .inl d]) hd hc hv hs rfl (by simpa [cr_sz] using hz) rfl h8 E k
theorem e_self5v {Y Y' : cr_Y} {pc idx : Nat} {lv : List (Nat × cr_AV)} {st : List cr_AV} {M M' : cr_M} {r : Option cr_AV × cr_M} {a b c d f : Int32} (hd : decode (cr_by Y) pc = .ok (.invokevirtual idx, 3)) (hc : cr_cs Y Y' idx 5) (hv : cr_csV Y') (hr : cr_rc Y') (hs : cr_sh Y' = cr_sh Y) (hz : 6 ≤ cr_ml Y') (h8 : cr_w8 st ≤ 8) (E : cr_EvM Y' [.inr (.inr 0), .inl a, .inl b, .inl c, .inl d, .inl f] M (none, M')) (k : cr_Ev Y (pc + 3) lv (st) M' r) : cr_Ev Y pc lv (.inl f :: .inl d :: .inl c :: .inl b :: .inl a :: .inr (.inr 0) :: st) M r := by
  refine e_callV (as := [.inl a, .inl b, .inl c, .inl d, .inl f]) (pl := fun k => k) (M' := M') (M2 := M') hd hc hv ⟨fun j c h => ?_, fun i j _ _ h => h⟩ hr rfl (by simpa [cr_sz] using hz) rfl h8 E (fun _ _ => rfl) (fun k hk h => absurd rfl (h k (by rw [hs]; exact hk))) k
  rw [hs] at h
  rw [h]
  rcases c with o | a
  · simp [cr_rs, show (fun f : Option Nat => Option.map (fun k => k) f) = (fun f => f) from funext (fun f => by cases f <;> rfl)]
  · rfl
theorem e_offR5v {Y Y' : cr_Y} {pc idx : Nat} {lv : List (Nat × cr_AV)} {st : List cr_AV} {M M' : cr_M} {r : Option cr_AV × cr_M} {k0 : Nat} {a b c d f : Int32} (hd : decode (cr_by Y) pc = .ok (.invokevirtual idx, 3)) (hc : cr_cs Y Y' idx 5) (hv : cr_csV Y') (hr : cr_rc Y') (hf : cr_fit (cr_sh Y) (cr_sh Y') (fun j => k0 + j)) (hz : 6 ≤ cr_ml Y') (h8 : cr_w8 st ≤ 8) (E : cr_EvM Y' [.inr (.inr 0), .inl a, .inl b, .inl c, .inl d, .inl f] (fun j => M (k0 + j)) (none, fun j => M (k0 + j))) (k : cr_Ev Y (pc + 3) lv (st) M r) : cr_Ev Y pc lv (.inl f :: .inl d :: .inl c :: .inl b :: .inl a :: .inr (.inr k0) :: st) M r :=
  e_callV (as := [.inl a, .inl b, .inl c, .inl d, .inl f]) (pl := fun j => k0 + j) (M2 := M) hd hc hv hf hr rfl (by simpa [cr_sz] using hz) rfl h8 E (fun _ _ => rfl) (fun _ _ _ => rfl) k
theorem e_off5v {Y Y' : cr_Y} {pc idx : Nat} {lv : List (Nat × cr_AV)} {st : List cr_AV} {M M' : cr_M} {r : Option cr_AV × cr_M} {k0 : Nat} {a b c d f : Int32} (hd : decode (cr_by Y) pc = .ok (.invokevirtual idx, 3)) (hc : cr_cs Y Y' idx 5) (hv : cr_csV Y') (hr : cr_rc Y') (hf : cr_fit (cr_sh Y) (cr_sh Y') (fun j => k0 + j)) (hz : 6 ≤ cr_ml Y') (h8 : cr_w8 st ≤ 8) (E : cr_EvM Y' [.inr (.inr 0), .inl a, .inl b, .inl c, .inl d, .inl f] (fun j => M (k0 + j)) (none, M')) (k : cr_Ev Y (pc + 3) lv (st) (cr_mg M k0 (cr_sh Y').length M') r) : cr_Ev Y pc lv (.inl f :: .inl d :: .inl c :: .inl b :: .inl a :: .inr (.inr k0) :: st) M r :=
  e_callV (as := [.inl a, .inl b, .inl c, .inl d, .inl f]) (pl := fun j => k0 + j) (M' := M') (M2 := cr_mg M k0 (cr_sh Y').length M') hd hc hv hf hr rfl (by simpa [cr_sz] using hz) rfl h8 E (fun j hj => cr_mg_in hj) (fun k _ h => cr_mg_out (by
    rcases Nat.lt_or_ge k k0 with h1 | h1
    · exact Or.inl h1
    · rcases Nat.lt_or_ge k (k0 + (cr_sh Y').length) with h2 | h2
      · exact absurd (show k0 + (k - k0) = k by omega) (h (k - k0) (by omega))
      · exact Or.inr h2)) k
theorem e_stat5v {Y Y' : cr_Y} {pc idx : Nat} {lv : List (Nat × cr_AV)} {st : List cr_AV} {M M' : cr_M} {r : Option cr_AV × cr_M} {a b c d f : Int32} (hd : decode (cr_by Y) pc = .ok (.invokestatic idx, 3)) (hc : cr_cs Y Y' idx 5) (hv : Cond.static (cr_nm Y') ∈ cr_tb) (hs : cr_sh Y' = []) (hz : 5 ≤ cr_ml Y') (h8 : cr_w8 st ≤ 8) (E : cr_EvM Y' [.inl a, .inl b, .inl c, .inl d, .inl f] M (none, M')) (k : cr_Ev Y (pc + 3) lv (st) M r) : cr_Ev Y pc lv (.inl f :: .inl d :: .inl c :: .inl b :: .inl a :: st) M r :=
  e_callS (as := [.inl a, .inl b, .inl c, .inl d, .inl f]) hd hc hv hs rfl (by simpa [cr_sz] using hz) rfl h8 E k
theorem e_self5i {Y Y' : cr_Y} {pc idx : Nat} {lv : List (Nat × cr_AV)} {st : List cr_AV} {M M' : cr_M} {r : Option cr_AV × cr_M} {a b c d f : Int32} {x : Int32} (hd : decode (cr_by Y) pc = .ok (.invokevirtual idx, 3)) (hc : cr_cs Y Y' idx 5) (hv : cr_csV Y') (hr : cr_rc Y') (hs : cr_sh Y' = cr_sh Y) (hz : 6 ≤ cr_ml Y') (h8 : cr_w8 st ≤ 8) (E : cr_EvM Y' [.inr (.inr 0), .inl a, .inl b, .inl c, .inl d, .inl f] M (some (.inl x), M')) (k : cr_Ev Y (pc + 3) lv (.inl x :: st) M' r) : cr_Ev Y pc lv (.inl f :: .inl d :: .inl c :: .inl b :: .inl a :: .inr (.inr 0) :: st) M r := by
  refine e_callV (as := [.inl a, .inl b, .inl c, .inl d, .inl f]) (pl := fun k => k) (M' := M') (M2 := M') hd hc hv ⟨fun j c h => ?_, fun i j _ _ h => h⟩ hr rfl (by simpa [cr_sz] using hz) rfl h8 E (fun _ _ => rfl) (fun k hk h => absurd rfl (h k (by rw [hs]; exact hk))) k
  rw [hs] at h
  rw [h]
  rcases c with o | a
  · simp [cr_rs, show (fun f : Option Nat => Option.map (fun k => k) f) = (fun f => f) from funext (fun f => by cases f <;> rfl)]
  · rfl
theorem e_offR5i {Y Y' : cr_Y} {pc idx : Nat} {lv : List (Nat × cr_AV)} {st : List cr_AV} {M M' : cr_M} {r : Option cr_AV × cr_M} {k0 : Nat} {a b c d f : Int32} {x : Int32} (hd : decode (cr_by Y) pc = .ok (.invokevirtual idx, 3)) (hc : cr_cs Y Y' idx 5) (hv : cr_csV Y') (hr : cr_rc Y') (hf : cr_fit (cr_sh Y) (cr_sh Y') (fun j => k0 + j)) (hz : 6 ≤ cr_ml Y') (h8 : cr_w8 st ≤ 8) (E : cr_EvM Y' [.inr (.inr 0), .inl a, .inl b, .inl c, .inl d, .inl f] (fun j => M (k0 + j)) (some (.inl x), fun j => M (k0 + j))) (k : cr_Ev Y (pc + 3) lv (.inl x :: st) M r) : cr_Ev Y pc lv (.inl f :: .inl d :: .inl c :: .inl b :: .inl a :: .inr (.inr k0) :: st) M r :=
  e_callV (as := [.inl a, .inl b, .inl c, .inl d, .inl f]) (pl := fun j => k0 + j) (M2 := M) hd hc hv hf hr rfl (by simpa [cr_sz] using hz) rfl h8 E (fun _ _ => rfl) (fun _ _ _ => rfl) k
theorem e_off5i {Y Y' : cr_Y} {pc idx : Nat} {lv : List (Nat × cr_AV)} {st : List cr_AV} {M M' : cr_M} {r : Option cr_AV × cr_M} {k0 : Nat} {a b c d f : Int32} {x : Int32} (hd : decode (cr_by Y) pc = .ok (.invokevirtual idx, 3)) (hc : cr_cs Y Y' idx 5) (hv : cr_csV Y') (hr : cr_rc Y') (hf : cr_fit (cr_sh Y) (cr_sh Y') (fun j => k0 + j)) (hz : 6 ≤ cr_ml Y') (h8 : cr_w8 st ≤ 8) (E : cr_EvM Y' [.inr (.inr 0), .inl a, .inl b, .inl c, .inl d, .inl f] (fun j => M (k0 + j)) (some (.inl x), M')) (k : cr_Ev Y (pc + 3) lv (.inl x :: st) (cr_mg M k0 (cr_sh Y').length M') r) : cr_Ev Y pc lv (.inl f :: .inl d :: .inl c :: .inl b :: .inl a :: .inr (.inr k0) :: st) M r :=
  e_callV (as := [.inl a, .inl b, .inl c, .inl d, .inl f]) (pl := fun j => k0 + j) (M' := M') (M2 := cr_mg M k0 (cr_sh Y').length M') hd hc hv hf hr rfl (by simpa [cr_sz] using hz) rfl h8 E (fun j hj => cr_mg_in hj) (fun k _ h => cr_mg_out (by
    rcases Nat.lt_or_ge k k0 with h1 | h1
    · exact Or.inl h1
    · rcases Nat.lt_or_ge k (k0 + (cr_sh Y').length) with h2 | h2
      · exact absurd (show k0 + (k - k0) = k by omega) (h (k - k0) (by omega))
      · exact Or.inr h2)) k
theorem e_stat5i {Y Y' : cr_Y} {pc idx : Nat} {lv : List (Nat × cr_AV)} {st : List cr_AV} {M M' : cr_M} {r : Option cr_AV × cr_M} {a b c d f : Int32} {x : Int32} (hd : decode (cr_by Y) pc = .ok (.invokestatic idx, 3)) (hc : cr_cs Y Y' idx 5) (hv : Cond.static (cr_nm Y') ∈ cr_tb) (hs : cr_sh Y' = []) (hz : 5 ≤ cr_ml Y') (h8 : cr_w8 st ≤ 8) (E : cr_EvM Y' [.inl a, .inl b, .inl c, .inl d, .inl f] M (some (.inl x), M')) (k : cr_Ev Y (pc + 3) lv (.inl x :: st) M r) : cr_Ev Y pc lv (.inl f :: .inl d :: .inl c :: .inl b :: .inl a :: st) M r :=
  e_callS (as := [.inl a, .inl b, .inl c, .inl d, .inl f]) hd hc hv hs rfl (by simpa [cr_sz] using hz) rfl h8 E k
theorem e_statL {Y Y' : cr_Y} {pc idx : Nat} {lv : List (Nat × cr_AV)} {st : List cr_AV} {M M' : cr_M} {r : Option cr_AV × cr_M} {a : Int64} {b c : Int32} {x : Int64} (hd : decode (cr_by Y) pc = .ok (.invokestatic idx, 3)) (hc : cr_cs Y Y' idx 3) (hv : Cond.static (cr_nm Y') ∈ cr_tb) (hs : cr_sh Y' = []) (hz : 4 ≤ cr_ml Y') (h8 : cr_w8 st ≤ 8) (E : cr_EvM Y' [.inr (.inl a), .inl b, .inl c] M (some (.inr (.inl x)), M')) (k : cr_Ev Y (pc + 3) lv (.inr (.inl x) :: st) M r) : cr_Ev Y pc lv (.inl c :: .inl b :: .inr (.inl a) :: st) M r :=
  e_callS (as := [.inr (.inl a), .inl b, .inl c]) hd hc hv hs rfl (by simpa [cr_sz] using hz) rfl h8 E k
theorem e_mmax {Y : cr_Y} {pc : Nat} {lv : List (Nat × cr_AV)} {st : List cr_AV} {M : cr_M} {r : Option cr_AV × cr_M} {i : Nat} {x y : Int32} (hd : decode (cr_by Y) pc = .ok (.invokestatic i, 3)) (hw : Cond.methodLink (cr_nm Y).cls i Lib.Math.max.name ∈ cr_tb) (hw2 : Cond.static Lib.Math.max.name ∈ cr_tb ∧ Cond.initialized "java/lang/Math" ∈ cr_tb ∧ Cond.code Lib.Math.max.name Lib.Math.max.code 2 (some .int) ∈ cr_tb) (hr1 : 1 ≤ cr_fr Y) (hr2 : 21 ≤ cr_lo Y) (h8 : cr_w8 st ≤ 8) (k : cr_Ev Y (pc + 3) lv (.inl (if x < y then y else x) :: st) M r) : cr_Ev Y pc lv (.inl y :: .inl x :: st) M r := by
  intro l D cI cZ ad A p e s m args below meth c C H locs ls hP hD hS hl
  obtain ⟨hx, hb, hr, hml, hown, hts, hlk, hK, hA⟩ := id C
  exact va_mmax hx hb (hml.trans hl.1.symm) hown (hts _ hw) (hts _ hw2.1) (hts _ hw2.2.1) (hts _ hw2.2.2) hr1 (by
    rw [cr_w8_eq]
    show cr_w8 st + 13 ≤ cr_lo Y
    omega) (Nat.le_refl _) (Nat.le_refl _) hd (k l D cI cZ ad A p e s m args below meth c C H locs ls hP hD hS hl)
theorem e_mmin {Y : cr_Y} {pc : Nat} {lv : List (Nat × cr_AV)} {st : List cr_AV} {M : cr_M} {r : Option cr_AV × cr_M} {i : Nat} {x y : Int32} (hd : decode (cr_by Y) pc = .ok (.invokestatic i, 3)) (hw : Cond.methodLink (cr_nm Y).cls i Lib.Math.min.name ∈ cr_tb) (hw2 : Cond.static Lib.Math.min.name ∈ cr_tb ∧ Cond.initialized "java/lang/Math" ∈ cr_tb ∧ Cond.code Lib.Math.min.name Lib.Math.min.code 2 (some .int) ∈ cr_tb) (hr1 : 1 ≤ cr_fr Y) (hr2 : 21 ≤ cr_lo Y) (h8 : cr_w8 st ≤ 8) (k : cr_Ev Y (pc + 3) lv (.inl (if y < x then y else x) :: st) M r) : cr_Ev Y pc lv (.inl y :: .inl x :: st) M r := by
  intro l D cI cZ ad A p e s m args below meth c C H locs ls hP hD hS hl
  obtain ⟨hx, hb, hr, hml, hown, hts, hlk, hK, hA⟩ := id C
  exact va_mmin hx hb (hml.trans hl.1.symm) hown (hts _ hw) (hts _ hw2.1) (hts _ hw2.2.1) (hts _ hw2.2.2) hr1 (by
    rw [cr_w8_eq]
    show cr_w8 st + 13 ≤ cr_lo Y
    omega) (Nat.le_refl _) (Nat.le_refl _) hd (k l D cI cZ ad A p e s m args below meth c C H locs ls hP hD hS hl)
end
section
def shC : List cr_Shp := [.inl (0, [none, some 1, some 2, some 3, some 4, some 5, some 6, some 7, some 8, some 9, some 10, some 11, some 12]), .inr (200, false), .inr (200, false), .inr (200, false), .inr (200, false), .inr (200, false), .inr (200, false), .inr (200, false), .inr (200, false), .inr (200, false), .inr (200, false), .inr (200, false), .inr (200, false)]
def shH : List cr_Shp := [.inl (2, [none, some 1, some 2, some 3, some 4, some 5, some 6, some 7, some 8]), .inr (10, false), .inr (10, false), .inr (10, false), .inr (10, false), .inr (10, false), .inr (10, false), .inr (10, false), .inr (10, false)]
def shS : List cr_Shp := [.inl (3, [some 1, some 2]), .inr (16, false), .inr (16, false)]
def shF : List cr_Shp := [.inl (1, [some 1, some 10, some 23, some 24, none, none, none]), .inl (2, [none, some 2, some 3, some 4, some 5, some 6, some 7, some 8, some 9]), .inr (10, false), .inr (10, false), .inr (10, false), .inr (10, false), .inr (10, false), .inr (10, false), .inr (10, false), .inr (10, false), .inl (0, [none, some 11, some 12, some 13, some 14, some 15, some 16, some 17, some 18, some 19, some 20, some 21, some 22]), .inr (200, false), .inr (200, false), .inr (200, false), .inr (200, false), .inr (200, false), .inr (200, false), .inr (200, false), .inr (200, false), .inr (200, false), .inr (200, false), .inr (200, false), .inr (200, false), .inr (4, false), .inr (4, false)]
def shR : List cr_Shp := [.inl (4, [some 1, some 26, some 51, some 54]), .inl (1, [some 2, some 11, some 24, some 25, none, none, none]), .inl (2, [none, some 3, some 4, some 5, some 6, some 7, some 8, some 9, some 10]), .inr (10, false), .inr (10, false), .inr (10, false), .inr (10, false), .inr (10, false), .inr (10, false), .inr (10, false), .inr (10, false), .inl (0, [none, some 12, some 13, some 14, some 15, some 16, some 17, some 18, some 19, some 20, some 21, some 22, some 23]), .inr (200, false), .inr (200, false), .inr (200, false), .inr (200, false), .inr (200, false), .inr (200, false), .inr (200, false), .inr (200, false), .inr (200, false), .inr (200, false), .inr (200, false), .inr (200, false), .inr (4, false), .inr (4, false), .inl (1, [some 27, some 36, some 49, some 50, none, none, none]), .inl (2, [none, some 28, some 29, some 30, some 31, some 32, some 33, some 34, some 35]), .inr (10, false), .inr (10, false), .inr (10, false), .inr (10, false), .inr (10, false), .inr (10, false), .inr (10, false), .inr (10, false), .inl (0, [none, some 37, some 38, some 39, some 40, some 41, some 42, some 43, some 44, some 45, some 46, some 47, some 48]), .inr (200, false), .inr (200, false), .inr (200, false), .inr (200, false), .inr (200, false), .inr (200, false), .inr (200, false), .inr (200, false), .inr (200, false), .inr (200, false), .inr (200, false), .inr (200, false), .inr (4, false), .inr (4, false), .inl (3, [some 52, some 53]), .inr (16, false), .inr (16, false), .inr (7, false)]
def shM : List cr_Shp := [.inl (5, [some 1, some 2, some 3, none, none, none, none, none, some 4, some 5, some 6, some 7, some 8, some 9, some 10, some 11, some 12, some 13, some 14, some 15, some 16, some 17, some 18, some 19, some 20, some 21, some 22, some 23, some 24, some 25, none, some 26, some 27, some 28, some 29, some 30, some 31, some 32, some 33, some 34, some 35]), .inr (7, false), .inr (16, false), .inr (16, false), .inr (40, false), .inr (10, false), .inr (10, false), .inr (10, false), .inr (10, false), .inr (10, false), .inr (200, false), .inr (200, false), .inr (200, false), .inr (200, false), .inr (200, false), .inr (200, false), .inr (200, false), .inr (200, false), .inr (200, false), .inr (200, false), .inr (200, false), .inr (200, false), .inr (10, false), .inr (10, false), .inr (10, true), .inr (10, true), .inr (10, false), .inr (10, false), .inr (10, false), .inr (10, false), .inr (200, false), .inr (200, false), .inr (200, false), .inr (200, false), .inr (200, false), .inr (200, false)]
def shFF : List cr_Shp := [.inl (1, [some 1, some 10, some 23, some 24, none, none, none]), .inl (2, [none, some 2, some 3, some 4, some 5, some 6, some 7, some 8, some 9]), .inr (10, false), .inr (10, false), .inr (10, false), .inr (10, false), .inr (10, false), .inr (10, false), .inr (10, false), .inr (10, false), .inl (0, [none, some 11, some 12, some 13, some 14, some 15, some 16, some 17, some 18, some 19, some 20, some 21, some 22]), .inr (200, false), .inr (200, false), .inr (200, false), .inr (200, false), .inr (200, false), .inr (200, false), .inr (200, false), .inr (200, false), .inr (200, false), .inr (200, false), .inr (200, false), .inr (200, false), .inr (4, false), .inr (4, false), .inl (1, [some 26, some 35, some 48, some 49, none, none, none]), .inl (2, [none, some 27, some 28, some 29, some 30, some 31, some 32, some 33, some 34]), .inr (10, false), .inr (10, false), .inr (10, false), .inr (10, false), .inr (10, false), .inr (10, false), .inr (10, false), .inr (10, false), .inl (0, [none, some 36, some 37, some 38, some 39, some 40, some 41, some 42, some 43, some 44, some 45, some 46, some 47]), .inr (200, false), .inr (200, false), .inr (200, false), .inr (200, false), .inr (200, false), .inr (200, false), .inr (200, false), .inr (200, false), .inr (200, false), .inr (200, false), .inr (200, false), .inr (200, false), .inr (4, false), .inr (4, false)]
def shHH : List cr_Shp := [.inl (2, [none, some 1, some 2, some 3, some 4, some 5, some 6, some 7, some 8]), .inr (10, false), .inr (10, false), .inr (10, false), .inr (10, false), .inr (10, false), .inr (10, false), .inr (10, false), .inr (10, false), .inl (2, [none, some 10, some 11, some 12, some 13, some 14, some 15, some 16, some 17]), .inr (10, false), .inr (10, false), .inr (10, false), .inr (10, false), .inr (10, false), .inr (10, false), .inr (10, false), .inr (10, false)]
def shCC : List cr_Shp := [.inl (0, [none, some 1, some 2, some 3, some 4, some 5, some 6, some 7, some 8, some 9, some 10, some 11, some 12]), .inr (200, false), .inr (200, false), .inr (200, false), .inr (200, false), .inr (200, false), .inr (200, false), .inr (200, false), .inr (200, false), .inr (200, false), .inr (200, false), .inr (200, false), .inr (200, false), .inl (0, [none, some 14, some 15, some 16, some 17, some 18, some 19, some 20, some 21, some 22, some 23, some 24, some 25]), .inr (200, false), .inr (200, false), .inr (200, false), .inr (200, false), .inr (200, false), .inr (200, false), .inr (200, false), .inr (200, false), .inr (200, false), .inr (200, false), .inr (200, false), .inr (200, false)]
def shN : List cr_Shp := []
def Y_X0_has : cr_Y := (yX0_has, cX0_has, 2, (some .boolean), shC, 0, 0)
def Y_X0_add : cr_Y := (yX0_add, cX0_add, 3, (some .int), shC, 0, 0)
def Y_X0_describe : cr_Y := (yX0_describe, cX0_describe, 5, none, shC, 0, 0)
def Y_X0_arrive : cr_Y := (yX0_arrive, cX0_arrive, 3, none, shC, 1, 22)
def Y_X0_waitAgain : cr_Y := (yX0_waitAgain, cX0_waitAgain, 3, none, shC, 0, 0)
def Y_X0_putBack : cr_Y := (yX0_putBack, cX0_putBack, 3, none, shC, 0, 0)
def Y_X0_start : cr_Y := (yX0_start, cX0_start, 5, none, shC, 0, 0)
def Y_X0_ringBackDue : cr_Y := (yX0_ringBackDue, cX0_ringBackDue, 3, none, shC, 1, 22)
def Y_X0_loseImpatient : cr_Y := (yX0_loseImpatient, cX0_loseImpatient, 3, none, shC, 0, 0)
def Y_X0_nextChange : cr_Y := (yX0_nextChange, cX0_nextChange, 6, (some .int), shC, 1, 21)
def Y_X0_firstWith : cr_Y := (yX0_firstWith, cX0_firstWith, 3, (some .int), shC, 0, 0)
def Y_X0_givenWithin : cr_Y := (yX0_givenWithin, cX0_givenWithin, 4, (some .int), shC, 0, 0)
def Y_X0_countDoing : cr_Y := (yX0_countDoing, cX0_countDoing, 4, (some .int), shC, 0, 0)
def Y_X0_copyFrom : cr_Y := (yX0_copyFrom, cX0_copyFrom, 2, none, shCC, 1, 18)
def Y_X1_copyFrom : cr_Y := (yX1_copyFrom, cX1_copyFrom, 2, none, shFF, 2, 39)
def Y_X1_goOn : cr_Y := (yX1_goOn, cX1_goOn, 4, (some .int), shF, 6, 136)
def Y_X1_ticksTillOn : cr_Y := (yX1_ticksTillOn, cX1_ticksTillOn, 3, (some .int), shF, 6, 136)
def Y_X1_passTick : cr_Y := (yX1_passTick, cX1_passTick, 2, (some .int), shF, 5, 115)
def Y_X1_skipQuietTicks : cr_Y := (yX1_skipQuietTicks, cX1_skipQuietTicks, 4, (some .int), shF, 3, 68)
def Y_X1_nextChange : cr_Y := (yX1_nextChange, cX1_nextChange, 3, (some .int), shF, 2, 46)
def Y_X1_endCalls : cr_Y := (yX1_endCalls, cX1_endCalls, 3, (some .int), shF, 3, 66)
def Y_X1_endWith : cr_Y := (yX1_endWith, cX1_endWith, 2, none, shF, 2, 45)
def Y_X1_giveAll : cr_Y := (yX1_giveAll, cX1_giveAll, 4, none, shF, 4, 92)
def Y_X1_give : cr_Y := (yX1_give, cX1_give, 4, none, shF, 2, 46)
def Y_X1_nextToGive : cr_Y := (yX1_nextToGive, cX1_nextToGive, 5, (some .int), shF, 2, 46)
def Y_X1_rankOf : cr_Y := (yX1_rankOf, cX1_rankOf, 2, (some .int), shF, 0, 0)
def Y_X1_countTakers : cr_Y := (yX1_countTakers, cX1_countTakers, 4, (some .int), shF, 1, 23)
def Y_X1_isTakeable : cr_Y := (yX1_isTakeable, cX1_isTakeable, 3, (some .boolean), shF, 1, 23)
def Y_X1_isKeptForOwn : cr_Y := (yX1_isKeptForOwn, cX1_isKeptForOwn, 2, (some .boolean), shF, 0, 0)
def Y_X1_bestHelper : cr_Y := (yX1_bestHelper, cX1_bestHelper, 7, (some .int), shF, 3, 66)
def Y_X1_hindrance : cr_Y := (yX1_hindrance, cX1_hindrance, 3, (some .int), shF, 2, 46)
def Y_X2_has : cr_Y := (yX2_has, cX2_has, 2, (some .boolean), shH, 0, 0)
def Y_X2_add : cr_Y := (yX2_add, cX2_add, 3, (some .int), shH, 0, 0)
def Y_X2_become : cr_Y := (yX2_become, cX2_become, 4, none, shH, 0, 0)
def Y_X2_gradeFor : cr_Y := (yX2_gradeFor, cX2_gradeFor, 3, (some .int), shH, 0, 0)
def Y_X2_setGrade : cr_Y := (yX2_setGrade, cX2_setGrade, 4, none, shH, 0, 0)
def Y_X2_sortsOf : cr_Y := (yX2_sortsOf, cX2_sortsOf, 2, (some .int), shH, 1, 20)
def Y_X2_canTake : cr_Y := (yX2_canTake, cX2_canTake, 4, (some .boolean), shH, 0, 0)
def Y_X2_someCanTake : cr_Y := (yX2_someCanTake, cX2_someCanTake, 4, (some .boolean), shH, 1, 23)
def Y_X2_someInHasGrade : cr_Y := (yX2_someInHasGrade, cX2_someInHasGrade, 3, (some .boolean), shH, 1, 22)
def Y_X2_isBetter : cr_Y := (yX2_isBetter, cX2_isBetter, 6, (some .boolean), shH, 2, 41)
def Y_X2_take : cr_Y := (yX2_take, cX2_take, 4, none, shH, 1, 23)
def Y_X2_letGo : cr_Y := (yX2_letGo, cX2_letGo, 3, none, shH, 1, 23)
def Y_X2_addBusyTicks : cr_Y := (yX2_addBusyTicks, cX2_addBusyTicks, 3, none, shH, 0, 0)
def Y_X2_endBreaks : cr_Y := (yX2_endBreaks, cX2_endBreaks, 3, none, shH, 1, 23)
def Y_X2_nextBreakOver : cr_Y := (yX2_nextBreakOver, cX2_nextBreakOver, 3, (some .int), shH, 1, 21)
def Y_X2_countFree : cr_Y := (yX2_countFree, cX2_countFree, 3, (some .int), shH, 0, 0)
def Y_X2_copyFrom : cr_Y := (yX2_copyFrom, cX2_copyFrom, 2, none, shHH, 1, 18)
def Y_X3_plan : cr_Y := (yX3_plan, cX3_plan, 7, (some .int), shS, 1, 21)
def Y_X4_helper : cr_Y := (yX4_helper, cX4_helper, 2, (some .int), shR, 1, 22)
def Y_X4_grade : cr_Y := (yX4_grade, cX4_grade, 6, (some .int), shR, 1, 23)
def Y_X4_duty : cr_Y := (yX4_duty, cX4_duty, 2, (some .int), shR, 1, 23)
def Y_X4_out : cr_Y := (yX4_out, cX4_out, 3, (some .int), shR, 1, 23)
def Y_X4_pause : cr_Y := (yX4_pause, cX4_pause, 4, (some .int), shR, 1, 23)
def Y_X4_call : cr_Y := (yX4_call, cX4_call, 8, (some .int), shR, 2, 44)
def Y_X4_rule : cr_Y := (yX4_rule, cX4_rule, 3, (some .int), shR, 1, 22)
def Y_X4_prefer : cr_Y := (yX4_prefer, cX4_prefer, 4, (some .int), shR, 1, 22)
def Y_X4_ring : cr_Y := (yX4_ring, cX4_ring, 4, (some .int), shR, 2, 42)
def Y_X4_pass : cr_Y := (yX4_pass, cX4_pass, 6, (some .int), shR, 2, 45)
def Y_X4_leave : cr_Y := (yX4_leave, cX4_leave, 3, (some .int), shR, 1, 22)
def Y_X4_urge : cr_Y := (yX4_urge, cX4_urge, 4, (some .int), shR, 2, 42)
def Y_X4_ticks : cr_Y := (yX4_ticks, cX4_ticks, 3, (some .int), shR, 7, 159)
def Y_X4_wait : cr_Y := (yX4_wait, cX4_wait, 3, (some .int), shR, 7, 158)
def Y_X4_who : cr_Y := (yX4_who, cX4_who, 3, (some .int), shR, 6, 136)
def Y_X4_why : cr_Y := (yX4_why, cX4_why, 3, (some .int), shR, 6, 136)
def Y_X4_within : cr_Y := (yX4_within, cX4_within, 2, (some .int), shR, 1, 23)
def Y_X4_loss : cr_Y := (yX4_loss, cX4_loss, 6, (some .int), shR, 1, 27)
def Y_X4_wanted : cr_Y := (yX4_wanted, cX4_wanted, 6, (some .int), shR, 1, 27)
def Y_X4_want : cr_Y := (yX4_want, cX4_want, 5, (some .int), shR, 1, 22)
def Y_X4_cover : cr_Y := (yX4_cover, cX4_cover, 3, (some .int), shR, 2, 47)
def Y_X4_begins : cr_Y := (yX4_begins, cX4_begins, 2, (some .int), shR, 1, 22)
def Y_X4_helperOf : cr_Y := (yX4_helperOf, cX4_helperOf, 4, (some .int), shR, 1, 22)
def Y_X4_callOf : cr_Y := (yX4_callOf, cX4_callOf, 4, (some .int), shR, 1, 22)
def Y_X4_count : cr_Y := (yX4_count, cX4_count, 2, (some .int), shR, 1, 23)
def Y_X4_refuse : cr_Y := (yX4_refuse, cX4_refuse, 3, (some .int), shR, 0, 0)
def Y_X4_notWaiting : cr_Y := (yX4_notWaiting, cX4_notWaiting, 2, (some .int), shR, 1, 21)
def Y_X4_helperIfGivenNow : cr_Y := (yX4_helperIfGivenNow, cX4_helperIfGivenNow, 2, (some .int), shR, 5, 115)
def Y_X4_isSort : cr_Y := (yX4_isSort, cX4_isSort, 1, (some .boolean), shN, 0, 0)
def Y_X4_isQuarter : cr_Y := (yX4_isQuarter, cX4_isQuarter, 1, (some .boolean), shN, 0, 0)
def Y_X4_outside : cr_Y := (yX4_outside, cX4_outside, 3, (some .int), shN, 0, 0)
def Y_X4_lossWithOneMore : cr_Y := (yX4_lossWithOneMore, cX4_lossWithOneMore, 8, (some .long), shN, 0, 0)
def Y_X5_refuse : cr_Y := (yX5_refuse, cX5_refuse, 2, (some .int), shM, 0, 0)
def Y_X5_isIn : cr_Y := (yX5_isIn, cX5_isIn, 2, (some .boolean), shN, 0, 0)
def Y_X5_gradeOf : cr_Y := (yX5_gradeOf, cX5_gradeOf, 3, (some .int), shM, 0, 0)
def Y_X5_helper : cr_Y := (yX5_helper, cX5_helper, 3, (some .int), shM, 1, 21)
def Y_X5_grade : cr_Y := (yX5_grade, cX5_grade, 5, (some .int), shM, 1, 22)
def Y_X5_becomes : cr_Y := (yX5_becomes, cX5_becomes, 3, none, shM, 0, 0)
def Y_X5_duty : cr_Y := (yX5_duty, cX5_duty, 2, (some .int), shM, 1, 22)
def Y_X5_out : cr_Y := (yX5_out, cX5_out, 2, (some .int), shM, 1, 22)
def Y_X5_pause : cr_Y := (yX5_pause, cX5_pause, 3, (some .int), shM, 1, 22)
def Y_X5_call : cr_Y := (yX5_call, cX5_call, 7, (some .int), shM, 1, 21)
def Y_X5_rule : cr_Y := (yX5_rule, cX5_rule, 3, (some .int), shM, 1, 21)
def Y_X5_prefer : cr_Y := (yX5_prefer, cX5_prefer, 3, (some .int), shM, 1, 21)
def Y_X5_ring : cr_Y := (yX5_ring, cX5_ring, 3, (some .int), shM, 1, 21)
def Y_X5_loses : cr_Y := (yX5_loses, cX5_loses, 2, none, shM, 1, 22)
def Y_X5_pass : cr_Y := (yX5_pass, cX5_pass, 5, (some .int), shM, 2, 43)
def Y_X5_leave : cr_Y := (yX5_leave, cX5_leave, 2, (some .int), shM, 1, 21)
def Y_X5_urge : cr_Y := (yX5_urge, cX5_urge, 2, (some .int), shM, 1, 21)
def Y_X5_waitedOf : cr_Y := (yX5_waitedOf, cX5_waitedOf, 2, (some .int), shM, 0, 0)
def Y_X5_hasRoom : cr_Y := (yX5_hasRoom, cX5_hasRoom, 2, (some .boolean), shM, 0, 0)
def Y_X5_may : cr_Y := (yX5_may, cX5_may, 3, (some .boolean), shM, 1, 22)
def Y_X5_isTakeable : cr_Y := (yX5_isTakeable, cX5_isTakeable, 4, (some .boolean), shM, 2, 44)
def Y_X5_freeFor : cr_Y := (yX5_freeFor, cX5_freeFor, 4, (some .int), shM, 1, 22)
def Y_X5_rankOf : cr_Y := (yX5_rankOf, cX5_rankOf, 2, (some .int), shM, 2, 45)
def Y_X5_nextCall : cr_Y := (yX5_nextCall, cX5_nextCall, 3, (some .int), shM, 3, 67)
def Y_X5_sortsOf : cr_Y := (yX5_sortsOf, cX5_sortsOf, 4, (some .int), shM, 1, 22)
def Y_X5_isAhead : cr_Y := (yX5_isAhead, cX5_isAhead, 4, (some .boolean), shM, 2, 45)
def Y_X5_helperFor : cr_Y := (yX5_helperFor, cX5_helperFor, 4, (some .int), shM, 3, 68)
def Y_X5_give : cr_Y := (yX5_give, cX5_give, 3, none, shM, 4, 91)
def Y_X5_goesOn : cr_Y := (yX5_goesOn, cX5_goesOn, 3, (some .int), shM, 5, 113)
def Y_X5_ticks : cr_Y := (yX5_ticks, cX5_ticks, 4, (some .int), shM, 6, 135)
def Y_X5_keep : cr_Y := (yX5_keep, cX5_keep, 2, none, shM, 0, 0)
def Y_X5_putBack : cr_Y := (yX5_putBack, cX5_putBack, 2, none, shM, 0, 0)
def Y_X5_wait : cr_Y := (yX5_wait, cX5_wait, 4, (some .int), shM, 6, 135)
def Y_X5_whoOf : cr_Y := (yX5_whoOf, cX5_whoOf, 3, (some .int), shM, 5, 113)
def Y_X5_who : cr_Y := (yX5_who, cX5_who, 2, (some .int), shM, 6, 135)
def Y_X5_why : cr_Y := (yX5_why, cX5_why, 5, (some .int), shM, 6, 135)
def Y_X5_within : cr_Y := (yX5_within, cX5_within, 4, (some .int), shM, 1, 21)
def Y_X5_lossOf : cr_Y := (yX5_lossOf, cX5_lossOf, 5, (some .int), shN, 0, 0)
def Y_X5_loss : cr_Y := (yX5_loss, cX5_loss, 3, (some .int), shM, 1, 24)
def Y_X5_wanted : cr_Y := (yX5_wanted, cX5_wanted, 4, (some .int), shM, 1, 24)
def Y_X5_want : cr_Y := (yX5_want, cX5_want, 4, (some .int), shM, 1, 21)
def Y_X5_cover : cr_Y := (yX5_cover, cX5_cover, 6, (some .int), shM, 1, 21)
def Y_X5_begins : cr_Y := (yX5_begins, cX5_begins, 2, (some .int), shM, 1, 21)
def Y_X5_helperOf : cr_Y := (yX5_helperOf, cX5_helperOf, 4, (some .int), shM, 1, 22)
def Y_X5_callOf : cr_Y := (yX5_callOf, cX5_callOf, 3, (some .int), shM, 1, 21)
def Y_X5_inState : cr_Y := (yX5_inState, cX5_inState, 4, (some .int), shM, 0, 0)
def Y_X5_count : cr_Y := (yX5_count, cX5_count, 4, (some .int), shM, 1, 23)
def Y_J_bit : cr_Y := (yJ_bit, cJ_bit, 1, (some .int), shN, 0, 0)
theorem f_4_10 : cr_fl RX4 10 4 0 := ⟨_, _, _, rfl, iX4, by decide, cr_in (i := 213) (by decide +kernel) rfl⟩
theorem f_4_16 : cr_fl RX4 16 4 1 := ⟨_, _, _, rfl, iX4, by decide, cr_in (i := 214) (by decide +kernel) rfl⟩
theorem f_4_22 : cr_fl RX4 22 4 2 := ⟨_, _, _, rfl, iX4, by decide, cr_in (i := 215) (by decide +kernel) rfl⟩
theorem f_4_26 : cr_fl RX4 26 4 3 := ⟨_, _, _, rfl, iX4, by decide, cr_in (i := 216) (by decide +kernel) rfl⟩
theorem f_4_34 : cr_fl RX4 34 1 0 := ⟨_, _, _, rfl, iX1, by decide, cr_in (i := 172) (by decide +kernel) rfl⟩
theorem f_4_38 : cr_fl RX4 38 2 0 := ⟨_, _, _, rfl, iX2, by decide, cr_in (i := 66) (by decide +kernel) rfl⟩
theorem f_4_44 : cr_fl RX4 44 1 4 := ⟨_, _, _, rfl, iX1, by decide, cr_in (i := 178) (by decide +kernel) rfl⟩
theorem f_4_69 : cr_fl RX4 69 2 2 := ⟨_, _, _, rfl, iX2, by decide, cr_in (i := 70) (by decide +kernel) rfl⟩
theorem f_4_75 : cr_fl RX4 75 2 8 := ⟨_, _, _, rfl, iX2, by decide, cr_in (i := 82) (by decide +kernel) rfl⟩
theorem f_4_78 : cr_fl RX4 78 1 1 := ⟨_, _, _, rfl, iX1, by decide, cr_in (i := 174) (by decide +kernel) rfl⟩
theorem f_4_82 : cr_fl RX4 82 0 0 := ⟨_, _, _, rfl, iX0, by decide, cr_in (i := 111) (by decide +kernel) rfl⟩
theorem f_4_94 : cr_fl RX4 94 1 5 := ⟨_, _, _, rfl, iX1, by decide, cr_in (i := 180) (by decide +kernel) rfl⟩
theorem f_4_97 : cr_fl RX4 97 1 6 := ⟨_, _, _, rfl, iX1, by decide, cr_in (i := 182) (by decide +kernel) rfl⟩
theorem f_4_107 : cr_fl RX4 107 0 1 := ⟨_, _, _, rfl, iX0, by decide, cr_in (i := 114) (by decide +kernel) rfl⟩
theorem f_4_108 : cr_fl RX4 108 0 9 := ⟨_, _, _, rfl, iX0, by decide, cr_in (i := 137) (by decide +kernel) rfl⟩
theorem f_4_111 : cr_fl RX4 111 0 6 := ⟨_, _, _, rfl, iX0, by decide, cr_in (i := 128) (by decide +kernel) rfl⟩
theorem f_4_120 : cr_fl RX4 120 0 2 := ⟨_, _, _, rfl, iX0, by decide, cr_in (i := 117) (by decide +kernel) rfl⟩
theorem f_4_123 : cr_fl RX4 123 0 3 := ⟨_, _, _, rfl, iX0, by decide, cr_in (i := 119) (by decide +kernel) rfl⟩
theorem f_4_155 : cr_fl RX4 155 3 0 := ⟨_, _, _, rfl, iX3, by decide, cr_in (i := 205) (by decide +kernel) rfl⟩
theorem f_4_161 : cr_fl RX4 161 3 1 := ⟨_, _, _, rfl, iX3, by decide, cr_in (i := 207) (by decide +kernel) rfl⟩
theorem f_4_164 : cr_fl RX4 164 2 4 := ⟨_, _, _, rfl, iX2, by decide, cr_in (i := 74) (by decide +kernel) rfl⟩
theorem f_4_170 : cr_fl RX4 170 2 3 := ⟨_, _, _, rfl, iX2, by decide, cr_in (i := 72) (by decide +kernel) rfl⟩
theorem f_4_173 : cr_fl RX4 173 2 6 := ⟨_, _, _, rfl, iX2, by decide, cr_in (i := 78) (by decide +kernel) rfl⟩
theorem f_4_176 : cr_fl RX4 176 2 7 := ⟨_, _, _, rfl, iX2, by decide, cr_in (i := 80) (by decide +kernel) rfl⟩
theorem f_4_179 : cr_fl RX4 179 0 4 := ⟨_, _, _, rfl, iX0, by decide, cr_in (i := 123) (by decide +kernel) rfl⟩
theorem f_4_182 : cr_fl RX4 182 0 5 := ⟨_, _, _, rfl, iX0, by decide, cr_in (i := 126) (by decide +kernel) rfl⟩
theorem f_4_185 : cr_fl RX4 185 0 7 := ⟨_, _, _, rfl, iX0, by decide, cr_in (i := 131) (by decide +kernel) rfl⟩
theorem f_4_188 : cr_fl RX4 188 0 8 := ⟨_, _, _, rfl, iX0, by decide, cr_in (i := 134) (by decide +kernel) rfl⟩
theorem f_4_189 : cr_fl RX4 189 0 12 := ⟨_, _, _, rfl, iX0, by decide, cr_in (i := 143) (by decide +kernel) rfl⟩
theorem f_4_192 : cr_fl RX4 192 0 10 := ⟨_, _, _, rfl, iX0, by decide, cr_in (i := 140) (by decide +kernel) rfl⟩
theorem f_0_9 : cr_fl RX0 9 0 1 := ⟨_, _, _, rfl, iX0, by decide, cr_in (i := 112) (by decide +kernel) rfl⟩
theorem f_0_15 : cr_fl RX0 15 0 2 := ⟨_, _, _, rfl, iX0, by decide, cr_in (i := 115) (by decide +kernel) rfl⟩
theorem f_0_18 : cr_fl RX0 18 0 3 := ⟨_, _, _, rfl, iX0, by decide, cr_in (i := 118) (by decide +kernel) rfl⟩
theorem f_0_21 : cr_fl RX0 21 0 4 := ⟨_, _, _, rfl, iX0, by decide, cr_in (i := 121) (by decide +kernel) rfl⟩
theorem f_0_24 : cr_fl RX0 24 0 5 := ⟨_, _, _, rfl, iX0, by decide, cr_in (i := 124) (by decide +kernel) rfl⟩
theorem f_0_27 : cr_fl RX0 27 0 6 := ⟨_, _, _, rfl, iX0, by decide, cr_in (i := 127) (by decide +kernel) rfl⟩
theorem f_0_30 : cr_fl RX0 30 0 7 := ⟨_, _, _, rfl, iX0, by decide, cr_in (i := 130) (by decide +kernel) rfl⟩
theorem f_0_33 : cr_fl RX0 33 0 8 := ⟨_, _, _, rfl, iX0, by decide, cr_in (i := 132) (by decide +kernel) rfl⟩
theorem f_0_36 : cr_fl RX0 36 0 9 := ⟨_, _, _, rfl, iX0, by decide, cr_in (i := 135) (by decide +kernel) rfl⟩
theorem f_0_39 : cr_fl RX0 39 0 10 := ⟨_, _, _, rfl, iX0, by decide, cr_in (i := 138) (by decide +kernel) rfl⟩
theorem f_0_42 : cr_fl RX0 42 0 11 := ⟨_, _, _, rfl, iX0, by decide, cr_in (i := 141) (by decide +kernel) rfl⟩
theorem f_0_45 : cr_fl RX0 45 0 12 := ⟨_, _, _, rfl, iX0, by decide, cr_in (i := 142) (by decide +kernel) rfl⟩
theorem f_0_48 : cr_fl RX0 48 0 0 := ⟨_, _, _, rfl, iX0, by decide, cr_in (i := 109) (by decide +kernel) rfl⟩
theorem f_1_12 : cr_fl RX1 12 1 0 := ⟨_, _, _, rfl, iX1, by decide, cr_in (i := 171) (by decide +kernel) rfl⟩
theorem f_1_21 : cr_fl RX1 21 1 1 := ⟨_, _, _, rfl, iX1, by decide, cr_in (i := 173) (by decide +kernel) rfl⟩
theorem f_1_25 : cr_fl RX1 25 1 2 := ⟨_, _, _, rfl, iX1, by decide, cr_in (i := 175) (by decide +kernel) rfl⟩
theorem f_1_29 : cr_fl RX1 29 1 3 := ⟨_, _, _, rfl, iX1, by decide, cr_in (i := 176) (by decide +kernel) rfl⟩
theorem f_1_32 : cr_fl RX1 32 1 6 := ⟨_, _, _, rfl, iX1, by decide, cr_in (i := 181) (by decide +kernel) rfl⟩
theorem f_1_43 : cr_fl RX1 43 1 4 := ⟨_, _, _, rfl, iX1, by decide, cr_in (i := 177) (by decide +kernel) rfl⟩
theorem f_1_46 : cr_fl RX1 46 1 5 := ⟨_, _, _, rfl, iX1, by decide, cr_in (i := 179) (by decide +kernel) rfl⟩
theorem f_1_63 : cr_fl RX1 63 0 1 := ⟨_, _, _, rfl, iX0, by decide, cr_in (i := 113) (by decide +kernel) rfl⟩
theorem f_1_94 : cr_fl RX1 94 0 0 := ⟨_, _, _, rfl, iX0, by decide, cr_in (i := 110) (by decide +kernel) rfl⟩
theorem f_1_100 : cr_fl RX1 100 0 10 := ⟨_, _, _, rfl, iX0, by decide, cr_in (i := 139) (by decide +kernel) rfl⟩
theorem f_1_103 : cr_fl RX1 103 0 9 := ⟨_, _, _, rfl, iX0, by decide, cr_in (i := 136) (by decide +kernel) rfl⟩
theorem f_1_113 : cr_fl RX1 113 2 6 := ⟨_, _, _, rfl, iX2, by decide, cr_in (i := 77) (by decide +kernel) rfl⟩
theorem f_1_130 : cr_fl RX1 130 0 5 := ⟨_, _, _, rfl, iX0, by decide, cr_in (i := 125) (by decide +kernel) rfl⟩
theorem f_1_133 : cr_fl RX1 133 0 4 := ⟨_, _, _, rfl, iX0, by decide, cr_in (i := 122) (by decide +kernel) rfl⟩
theorem f_1_143 : cr_fl RX1 143 0 2 := ⟨_, _, _, rfl, iX0, by decide, cr_in (i := 116) (by decide +kernel) rfl⟩
theorem f_1_159 : cr_fl RX1 159 0 8 := ⟨_, _, _, rfl, iX0, by decide, cr_in (i := 133) (by decide +kernel) rfl⟩
theorem f_1_162 : cr_fl RX1 162 0 6 := ⟨_, _, _, rfl, iX0, by decide, cr_in (i := 129) (by decide +kernel) rfl⟩
theorem f_1_165 : cr_fl RX1 165 2 0 := ⟨_, _, _, rfl, iX2, by decide, cr_in (i := 67) (by decide +kernel) rfl⟩
theorem f_1_173 : cr_fl RX1 173 0 3 := ⟨_, _, _, rfl, iX0, by decide, cr_in (i := 120) (by decide +kernel) rfl⟩
theorem f_2_9 : cr_fl RX2 9 2 1 := ⟨_, _, _, rfl, iX2, by decide, cr_in (i := 68) (by decide +kernel) rfl⟩
theorem f_2_15 : cr_fl RX2 15 2 2 := ⟨_, _, _, rfl, iX2, by decide, cr_in (i := 69) (by decide +kernel) rfl⟩
theorem f_2_18 : cr_fl RX2 18 2 3 := ⟨_, _, _, rfl, iX2, by decide, cr_in (i := 71) (by decide +kernel) rfl⟩
theorem f_2_21 : cr_fl RX2 21 2 4 := ⟨_, _, _, rfl, iX2, by decide, cr_in (i := 73) (by decide +kernel) rfl⟩
theorem f_2_24 : cr_fl RX2 24 2 5 := ⟨_, _, _, rfl, iX2, by decide, cr_in (i := 75) (by decide +kernel) rfl⟩
theorem f_2_27 : cr_fl RX2 27 2 6 := ⟨_, _, _, rfl, iX2, by decide, cr_in (i := 76) (by decide +kernel) rfl⟩
theorem f_2_30 : cr_fl RX2 30 2 7 := ⟨_, _, _, rfl, iX2, by decide, cr_in (i := 79) (by decide +kernel) rfl⟩
theorem f_2_33 : cr_fl RX2 33 2 8 := ⟨_, _, _, rfl, iX2, by decide, cr_in (i := 81) (by decide +kernel) rfl⟩
theorem f_2_36 : cr_fl RX2 36 2 0 := ⟨_, _, _, rfl, iX2, by decide, cr_in (i := 65) (by decide +kernel) rfl⟩
theorem f_3_9 : cr_fl RX3 9 3 0 := ⟨_, _, _, rfl, iX3, by decide, cr_in (i := 204) (by decide +kernel) rfl⟩
theorem f_3_15 : cr_fl RX3 15 3 1 := ⟨_, _, _, rfl, iX3, by decide, cr_in (i := 206) (by decide +kernel) rfl⟩
theorem f_5_7 : cr_fl RX5 7 5 0 := ⟨_, _, _, rfl, iX5, by decide, cr_in (i := 587) (by decide +kernel) rfl⟩
theorem f_5_13 : cr_fl RX5 13 5 1 := ⟨_, _, _, rfl, iX5, by decide, cr_in (i := 588) (by decide +kernel) rfl⟩
theorem f_5_16 : cr_fl RX5 16 5 2 := ⟨_, _, _, rfl, iX5, by decide, cr_in (i := 589) (by decide +kernel) rfl⟩
theorem f_5_19 : cr_fl RX5 19 5 7 := ⟨_, _, _, rfl, iX5, by decide, cr_in (i := 594) (by decide +kernel) rfl⟩
theorem f_5_23 : cr_fl RX5 23 5 8 := ⟨_, _, _, rfl, iX5, by decide, cr_in (i := 595) (by decide +kernel) rfl⟩
theorem f_5_26 : cr_fl RX5 26 5 9 := ⟨_, _, _, rfl, iX5, by decide, cr_in (i := 596) (by decide +kernel) rfl⟩
theorem f_5_29 : cr_fl RX5 29 5 10 := ⟨_, _, _, rfl, iX5, by decide, cr_in (i := 597) (by decide +kernel) rfl⟩
theorem f_5_32 : cr_fl RX5 32 5 11 := ⟨_, _, _, rfl, iX5, by decide, cr_in (i := 598) (by decide +kernel) rfl⟩
theorem f_5_35 : cr_fl RX5 35 5 12 := ⟨_, _, _, rfl, iX5, by decide, cr_in (i := 599) (by decide +kernel) rfl⟩
theorem f_5_38 : cr_fl RX5 38 5 13 := ⟨_, _, _, rfl, iX5, by decide, cr_in (i := 600) (by decide +kernel) rfl⟩
theorem f_5_41 : cr_fl RX5 41 5 14 := ⟨_, _, _, rfl, iX5, by decide, cr_in (i := 601) (by decide +kernel) rfl⟩
theorem f_5_44 : cr_fl RX5 44 5 15 := ⟨_, _, _, rfl, iX5, by decide, cr_in (i := 602) (by decide +kernel) rfl⟩
theorem f_5_47 : cr_fl RX5 47 5 16 := ⟨_, _, _, rfl, iX5, by decide, cr_in (i := 603) (by decide +kernel) rfl⟩
theorem f_5_50 : cr_fl RX5 50 5 17 := ⟨_, _, _, rfl, iX5, by decide, cr_in (i := 604) (by decide +kernel) rfl⟩
theorem f_5_53 : cr_fl RX5 53 5 18 := ⟨_, _, _, rfl, iX5, by decide, cr_in (i := 605) (by decide +kernel) rfl⟩
theorem f_5_56 : cr_fl RX5 56 5 19 := ⟨_, _, _, rfl, iX5, by decide, cr_in (i := 606) (by decide +kernel) rfl⟩
theorem f_5_59 : cr_fl RX5 59 5 20 := ⟨_, _, _, rfl, iX5, by decide, cr_in (i := 607) (by decide +kernel) rfl⟩
theorem f_5_62 : cr_fl RX5 62 5 21 := ⟨_, _, _, rfl, iX5, by decide, cr_in (i := 608) (by decide +kernel) rfl⟩
theorem f_5_65 : cr_fl RX5 65 5 22 := ⟨_, _, _, rfl, iX5, by decide, cr_in (i := 609) (by decide +kernel) rfl⟩
theorem f_5_68 : cr_fl RX5 68 5 23 := ⟨_, _, _, rfl, iX5, by decide, cr_in (i := 610) (by decide +kernel) rfl⟩
theorem f_5_71 : cr_fl RX5 71 5 24 := ⟨_, _, _, rfl, iX5, by decide, cr_in (i := 611) (by decide +kernel) rfl⟩
theorem f_5_74 : cr_fl RX5 74 5 25 := ⟨_, _, _, rfl, iX5, by decide, cr_in (i := 612) (by decide +kernel) rfl⟩
theorem f_5_77 : cr_fl RX5 77 5 26 := ⟨_, _, _, rfl, iX5, by decide, cr_in (i := 613) (by decide +kernel) rfl⟩
theorem f_5_80 : cr_fl RX5 80 5 27 := ⟨_, _, _, rfl, iX5, by decide, cr_in (i := 614) (by decide +kernel) rfl⟩
theorem f_5_83 : cr_fl RX5 83 5 28 := ⟨_, _, _, rfl, iX5, by decide, cr_in (i := 615) (by decide +kernel) rfl⟩
theorem f_5_87 : cr_fl RX5 87 5 29 := ⟨_, _, _, rfl, iX5, by decide, cr_in (i := 616) (by decide +kernel) rfl⟩
theorem f_5_90 : cr_fl RX5 90 5 31 := ⟨_, _, _, rfl, iX5, by decide, cr_in (i := 618) (by decide +kernel) rfl⟩
theorem f_5_93 : cr_fl RX5 93 5 32 := ⟨_, _, _, rfl, iX5, by decide, cr_in (i := 619) (by decide +kernel) rfl⟩
theorem f_5_96 : cr_fl RX5 96 5 33 := ⟨_, _, _, rfl, iX5, by decide, cr_in (i := 620) (by decide +kernel) rfl⟩
theorem f_5_99 : cr_fl RX5 99 5 34 := ⟨_, _, _, rfl, iX5, by decide, cr_in (i := 621) (by decide +kernel) rfl⟩
theorem f_5_102 : cr_fl RX5 102 5 35 := ⟨_, _, _, rfl, iX5, by decide, cr_in (i := 622) (by decide +kernel) rfl⟩
theorem f_5_105 : cr_fl RX5 105 5 36 := ⟨_, _, _, rfl, iX5, by decide, cr_in (i := 623) (by decide +kernel) rfl⟩
theorem f_5_108 : cr_fl RX5 108 5 37 := ⟨_, _, _, rfl, iX5, by decide, cr_in (i := 624) (by decide +kernel) rfl⟩
theorem f_5_111 : cr_fl RX5 111 5 38 := ⟨_, _, _, rfl, iX5, by decide, cr_in (i := 625) (by decide +kernel) rfl⟩
theorem f_5_114 : cr_fl RX5 114 5 39 := ⟨_, _, _, rfl, iX5, by decide, cr_in (i := 626) (by decide +kernel) rfl⟩
theorem f_5_117 : cr_fl RX5 117 5 40 := ⟨_, _, _, rfl, iX5, by decide, cr_in (i := 627) (by decide +kernel) rfl⟩
theorem f_5_124 : cr_fl RX5 124 5 4 := ⟨_, _, _, rfl, iX5, by decide, cr_in (i := 591) (by decide +kernel) rfl⟩
theorem f_5_127 : cr_fl RX5 127 5 3 := ⟨_, _, _, rfl, iX5, by decide, cr_in (i := 590) (by decide +kernel) rfl⟩
theorem f_5_142 : cr_fl RX5 142 5 5 := ⟨_, _, _, rfl, iX5, by decide, cr_in (i := 592) (by decide +kernel) rfl⟩
theorem f_5_145 : cr_fl RX5 145 5 6 := ⟨_, _, _, rfl, iX5, by decide, cr_in (i := 593) (by decide +kernel) rfl⟩
theorem f_5_191 : cr_fl RX5 191 5 30 := ⟨_, _, _, rfl, iX5, by decide, cr_in (i := 617) (by decide +kernel) rfl⟩
theorem p_0_0 : cr_fp 0 0 := fun C T N h => by cases h; exact ⟨⟨_, tyX0_ok⟩, nmX0, rfl, by decide +kernel⟩
theorem p_1_4 : cr_fp 1 4 := fun C T N h => by cases h; exact ⟨⟨_, tyX1_ok⟩, nmX1, rfl, by decide +kernel⟩
theorem p_1_5 : cr_fp 1 5 := fun C T N h => by cases h; exact ⟨⟨_, tyX1_ok⟩, nmX1, rfl, by decide +kernel⟩
theorem p_1_6 : cr_fp 1 6 := fun C T N h => by cases h; exact ⟨⟨_, tyX1_ok⟩, nmX1, rfl, by decide +kernel⟩
theorem p_2_0 : cr_fp 2 0 := fun C T N h => by cases h; exact ⟨⟨_, tyX2_ok⟩, nmX2, rfl, by decide +kernel⟩
theorem p_5_3 : cr_fp 5 3 := fun C T N h => by cases h; exact ⟨⟨_, tyX5_ok⟩, nmX5, rfl, by decide +kernel⟩
theorem p_5_4 : cr_fp 5 4 := fun C T N h => by cases h; exact ⟨⟨_, tyX5_ok⟩, nmX5, rfl, by decide +kernel⟩
theorem p_5_5 : cr_fp 5 5 := fun C T N h => by cases h; exact ⟨⟨_, tyX5_ok⟩, nmX5, rfl, by decide +kernel⟩
theorem p_5_6 : cr_fp 5 6 := fun C T N h => by cases h; exact ⟨⟨_, tyX5_ok⟩, nmX5, rfl, by decide +kernel⟩
theorem p_5_7 : cr_fp 5 7 := fun C T N h => by cases h; exact ⟨⟨_, tyX5_ok⟩, nmX5, rfl, by decide +kernel⟩
theorem p_5_30 : cr_fp 5 30 := fun C T N h => by cases h; exact ⟨⟨_, tyX5_ok⟩, nmX5, rfl, by decide +kernel⟩
theorem cd_X4_begins : Cond.code (cr_nm Y_X4_begins) (cr_by Y_X4_begins) (cr_ml Y_X4_begins) (cr_rt Y_X4_begins) ∈ cr_tb := cr_in (i := 556) (by decide +kernel) rfl
theorem cv_X4_begins : cr_csV Y_X4_begins := ⟨cr_in (i := 554) (by decide +kernel) rfl, cr_in (i := 555) (by decide +kernel) rfl⟩
theorem rc_X4_begins : cr_rc Y_X4_begins := ⟨4, _, _, rfl, rfl, rfl⟩
theorem cd_X4_call : Cond.code (cr_nm Y_X4_call) (cr_by Y_X4_call) (cr_ml Y_X4_call) (cr_rt Y_X4_call) ∈ cr_tb := cr_in (i := 279) (by decide +kernel) rfl
theorem cv_X4_call : cr_csV Y_X4_call := ⟨cr_in (i := 277) (by decide +kernel) rfl, cr_in (i := 278) (by decide +kernel) rfl⟩
theorem rc_X4_call : cr_rc Y_X4_call := ⟨4, _, _, rfl, rfl, rfl⟩
theorem cd_X4_callOf : Cond.code (cr_nm Y_X4_callOf) (cr_by Y_X4_callOf) (cr_ml Y_X4_callOf) (cr_rt Y_X4_callOf) ∈ cr_tb := cr_in (i := 568) (by decide +kernel) rfl
theorem cv_X4_callOf : cr_csV Y_X4_callOf := ⟨cr_in (i := 566) (by decide +kernel) rfl, cr_in (i := 567) (by decide +kernel) rfl⟩
theorem rc_X4_callOf : cr_rc Y_X4_callOf := ⟨4, _, _, rfl, rfl, rfl⟩
theorem cd_X4_count : Cond.code (cr_nm Y_X4_count) (cr_by Y_X4_count) (cr_ml Y_X4_count) (cr_rt Y_X4_count) ∈ cr_tb := cr_in (i := 572) (by decide +kernel) rfl
theorem cv_X4_count : cr_csV Y_X4_count := ⟨cr_in (i := 570) (by decide +kernel) rfl, cr_in (i := 571) (by decide +kernel) rfl⟩
theorem rc_X4_count : cr_rc Y_X4_count := ⟨4, _, _, rfl, rfl, rfl⟩
theorem cd_X4_cover : Cond.code (cr_nm Y_X4_cover) (cr_by Y_X4_cover) (cr_ml Y_X4_cover) (cr_rt Y_X4_cover) ∈ cr_tb := cr_in (i := 546) (by decide +kernel) rfl
theorem cv_X4_cover : cr_csV Y_X4_cover := ⟨cr_in (i := 544) (by decide +kernel) rfl, cr_in (i := 545) (by decide +kernel) rfl⟩
theorem rc_X4_cover : cr_rc Y_X4_cover := ⟨4, _, _, rfl, rfl, rfl⟩
theorem cd_X4_duty : Cond.code (cr_nm Y_X4_duty) (cr_by Y_X4_duty) (cr_ml Y_X4_duty) (cr_rt Y_X4_duty) ∈ cr_tb := cr_in (i := 263) (by decide +kernel) rfl
theorem cv_X4_duty : cr_csV Y_X4_duty := ⟨cr_in (i := 261) (by decide +kernel) rfl, cr_in (i := 262) (by decide +kernel) rfl⟩
theorem rc_X4_duty : cr_rc Y_X4_duty := ⟨4, _, _, rfl, rfl, rfl⟩
theorem cd_X4_grade : Cond.code (cr_nm Y_X4_grade) (cr_by Y_X4_grade) (cr_ml Y_X4_grade) (cr_rt Y_X4_grade) ∈ cr_tb := cr_in (i := 241) (by decide +kernel) rfl
theorem cv_X4_grade : cr_csV Y_X4_grade := ⟨cr_in (i := 239) (by decide +kernel) rfl, cr_in (i := 240) (by decide +kernel) rfl⟩
theorem rc_X4_grade : cr_rc Y_X4_grade := ⟨4, _, _, rfl, rfl, rfl⟩
theorem cd_X4_helper : Cond.code (cr_nm Y_X4_helper) (cr_by Y_X4_helper) (cr_ml Y_X4_helper) (cr_rt Y_X4_helper) ∈ cr_tb := cr_in (i := 229) (by decide +kernel) rfl
theorem cv_X4_helper : cr_csV Y_X4_helper := ⟨cr_in (i := 227) (by decide +kernel) rfl, cr_in (i := 228) (by decide +kernel) rfl⟩
theorem rc_X4_helper : cr_rc Y_X4_helper := ⟨4, _, _, rfl, rfl, rfl⟩
theorem cd_X4_helperIfGivenNow : Cond.code (cr_nm Y_X4_helperIfGivenNow) (cr_by Y_X4_helperIfGivenNow) (cr_ml Y_X4_helperIfGivenNow) (cr_rt Y_X4_helperIfGivenNow) ∈ cr_tb := cr_in (i := 495) (by decide +kernel) rfl
theorem cv_X4_helperIfGivenNow : cr_csV Y_X4_helperIfGivenNow := ⟨cr_in (i := 494) (by decide +kernel) rfl, cr_in (i := 14) (by decide +kernel) rfl⟩
theorem rc_X4_helperIfGivenNow : cr_rc Y_X4_helperIfGivenNow := ⟨4, _, _, rfl, rfl, rfl⟩
theorem cd_X4_helperOf : Cond.code (cr_nm Y_X4_helperOf) (cr_by Y_X4_helperOf) (cr_ml Y_X4_helperOf) (cr_rt Y_X4_helperOf) ∈ cr_tb := cr_in (i := 560) (by decide +kernel) rfl
theorem cv_X4_helperOf : cr_csV Y_X4_helperOf := ⟨cr_in (i := 558) (by decide +kernel) rfl, cr_in (i := 559) (by decide +kernel) rfl⟩
theorem rc_X4_helperOf : cr_rc Y_X4_helperOf := ⟨4, _, _, rfl, rfl, rfl⟩
theorem cd_X4_isQuarter : Cond.code (cr_nm Y_X4_isQuarter) (cr_by Y_X4_isQuarter) (cr_ml Y_X4_isQuarter) (cr_rt Y_X4_isQuarter) ∈ cr_tb := cr_in (i := 542) (by decide +kernel) rfl
theorem st_X4_isQuarter : Cond.static (cr_nm Y_X4_isQuarter) ∈ cr_tb := cr_in (i := 541) (by decide +kernel) rfl
theorem cd_X4_isSort : Cond.code (cr_nm Y_X4_isSort) (cr_by Y_X4_isSort) (cr_ml Y_X4_isSort) (cr_rt Y_X4_isSort) ∈ cr_tb := cr_in (i := 248) (by decide +kernel) rfl
theorem st_X4_isSort : Cond.static (cr_nm Y_X4_isSort) ∈ cr_tb := cr_in (i := 247) (by decide +kernel) rfl
theorem cd_X4_leave : Cond.code (cr_nm Y_X4_leave) (cr_by Y_X4_leave) (cr_ml Y_X4_leave) (cr_rt Y_X4_leave) ∈ cr_tb := cr_in (i := 334) (by decide +kernel) rfl
theorem cv_X4_leave : cr_csV Y_X4_leave := ⟨cr_in (i := 332) (by decide +kernel) rfl, cr_in (i := 333) (by decide +kernel) rfl⟩
theorem rc_X4_leave : cr_rc Y_X4_leave := ⟨4, _, _, rfl, rfl, rfl⟩
theorem cd_X4_loss : Cond.code (cr_nm Y_X4_loss) (cr_by Y_X4_loss) (cr_ml Y_X4_loss) (cr_rt Y_X4_loss) ∈ cr_tb := cr_in (i := 525) (by decide +kernel) rfl
theorem cv_X4_loss : cr_csV Y_X4_loss := ⟨cr_in (i := 523) (by decide +kernel) rfl, cr_in (i := 524) (by decide +kernel) rfl⟩
theorem rc_X4_loss : cr_rc Y_X4_loss := ⟨4, _, _, rfl, rfl, rfl⟩
theorem cd_X4_lossWithOneMore : Cond.code (cr_nm Y_X4_lossWithOneMore) (cr_by Y_X4_lossWithOneMore) (cr_ml Y_X4_lossWithOneMore) (cr_rt Y_X4_lossWithOneMore) ∈ cr_tb := cr_in (i := 529) (by decide +kernel) rfl
theorem st_X4_lossWithOneMore : Cond.static (cr_nm Y_X4_lossWithOneMore) ∈ cr_tb := cr_in (i := 528) (by decide +kernel) rfl
theorem cd_X4_notWaiting : Cond.code (cr_nm Y_X4_notWaiting) (cr_by Y_X4_notWaiting) (cr_ml Y_X4_notWaiting) (cr_rt Y_X4_notWaiting) ∈ cr_tb := cr_in (i := 311) (by decide +kernel) rfl
theorem cv_X4_notWaiting : cr_csV Y_X4_notWaiting := ⟨cr_in (i := 310) (by decide +kernel) rfl, cr_in (i := 1) (by decide +kernel) rfl⟩
theorem rc_X4_notWaiting : cr_rc Y_X4_notWaiting := ⟨4, _, _, rfl, rfl, rfl⟩
theorem cd_X4_out : Cond.code (cr_nm Y_X4_out) (cr_by Y_X4_out) (cr_ml Y_X4_out) (cr_rt Y_X4_out) ∈ cr_tb := cr_in (i := 271) (by decide +kernel) rfl
theorem cv_X4_out : cr_csV Y_X4_out := ⟨cr_in (i := 269) (by decide +kernel) rfl, cr_in (i := 270) (by decide +kernel) rfl⟩
theorem rc_X4_out : cr_rc Y_X4_out := ⟨4, _, _, rfl, rfl, rfl⟩
theorem cd_X4_outside : Cond.code (cr_nm Y_X4_outside) (cr_by Y_X4_outside) (cr_ml Y_X4_outside) (cr_rt Y_X4_outside) ∈ cr_tb := cr_in (i := 251) (by decide +kernel) rfl
theorem st_X4_outside : Cond.static (cr_nm Y_X4_outside) ∈ cr_tb := cr_in (i := 250) (by decide +kernel) rfl
theorem cd_X4_pass : Cond.code (cr_nm Y_X4_pass) (cr_by Y_X4_pass) (cr_ml Y_X4_pass) (cr_rt Y_X4_pass) ∈ cr_tb := cr_in (i := 323) (by decide +kernel) rfl
theorem cv_X4_pass : cr_csV Y_X4_pass := ⟨cr_in (i := 321) (by decide +kernel) rfl, cr_in (i := 322) (by decide +kernel) rfl⟩
theorem rc_X4_pass : cr_rc Y_X4_pass := ⟨4, _, _, rfl, rfl, rfl⟩
theorem cd_X4_pause : Cond.code (cr_nm Y_X4_pause) (cr_by Y_X4_pause) (cr_ml Y_X4_pause) (cr_rt Y_X4_pause) ∈ cr_tb := cr_in (i := 275) (by decide +kernel) rfl
theorem cv_X4_pause : cr_csV Y_X4_pause := ⟨cr_in (i := 273) (by decide +kernel) rfl, cr_in (i := 274) (by decide +kernel) rfl⟩
theorem rc_X4_pause : cr_rc Y_X4_pause := ⟨4, _, _, rfl, rfl, rfl⟩
theorem cd_X4_prefer : Cond.code (cr_nm Y_X4_prefer) (cr_by Y_X4_prefer) (cr_ml Y_X4_prefer) (cr_rt Y_X4_prefer) ∈ cr_tb := cr_in (i := 303) (by decide +kernel) rfl
theorem cv_X4_prefer : cr_csV Y_X4_prefer := ⟨cr_in (i := 301) (by decide +kernel) rfl, cr_in (i := 302) (by decide +kernel) rfl⟩
theorem rc_X4_prefer : cr_rc Y_X4_prefer := ⟨4, _, _, rfl, rfl, rfl⟩
theorem cd_X4_refuse : Cond.code (cr_nm Y_X4_refuse) (cr_by Y_X4_refuse) (cr_ml Y_X4_refuse) (cr_rt Y_X4_refuse) ∈ cr_tb := cr_in (i := 233) (by decide +kernel) rfl
theorem cv_X4_refuse : cr_csV Y_X4_refuse := ⟨cr_in (i := 232) (by decide +kernel) rfl, cr_in (i := 0) (by decide +kernel) rfl⟩
theorem rc_X4_refuse : cr_rc Y_X4_refuse := ⟨4, _, _, rfl, rfl, rfl⟩
theorem cd_X4_ring : Cond.code (cr_nm Y_X4_ring) (cr_by Y_X4_ring) (cr_ml Y_X4_ring) (cr_rt Y_X4_ring) ∈ cr_tb := cr_in (i := 307) (by decide +kernel) rfl
theorem cv_X4_ring : cr_csV Y_X4_ring := ⟨cr_in (i := 305) (by decide +kernel) rfl, cr_in (i := 306) (by decide +kernel) rfl⟩
theorem rc_X4_ring : cr_rc Y_X4_ring := ⟨4, _, _, rfl, rfl, rfl⟩
theorem cd_X4_rule : Cond.code (cr_nm Y_X4_rule) (cr_by Y_X4_rule) (cr_ml Y_X4_rule) (cr_rt Y_X4_rule) ∈ cr_tb := cr_in (i := 299) (by decide +kernel) rfl
theorem cv_X4_rule : cr_csV Y_X4_rule := ⟨cr_in (i := 297) (by decide +kernel) rfl, cr_in (i := 298) (by decide +kernel) rfl⟩
theorem rc_X4_rule : cr_rc Y_X4_rule := ⟨4, _, _, rfl, rfl, rfl⟩
theorem cd_X4_ticks : Cond.code (cr_nm Y_X4_ticks) (cr_by Y_X4_ticks) (cr_ml Y_X4_ticks) (cr_rt Y_X4_ticks) ∈ cr_tb := cr_in (i := 342) (by decide +kernel) rfl
theorem cv_X4_ticks : cr_csV Y_X4_ticks := ⟨cr_in (i := 340) (by decide +kernel) rfl, cr_in (i := 341) (by decide +kernel) rfl⟩
theorem rc_X4_ticks : cr_rc Y_X4_ticks := ⟨4, _, _, rfl, rfl, rfl⟩
theorem cd_X4_urge : Cond.code (cr_nm Y_X4_urge) (cr_by Y_X4_urge) (cr_ml Y_X4_urge) (cr_rt Y_X4_urge) ∈ cr_tb := cr_in (i := 338) (by decide +kernel) rfl
theorem cv_X4_urge : cr_csV Y_X4_urge := ⟨cr_in (i := 336) (by decide +kernel) rfl, cr_in (i := 337) (by decide +kernel) rfl⟩
theorem rc_X4_urge : cr_rc Y_X4_urge := ⟨4, _, _, rfl, rfl, rfl⟩
theorem cd_X4_wait : Cond.code (cr_nm Y_X4_wait) (cr_by Y_X4_wait) (cr_ml Y_X4_wait) (cr_rt Y_X4_wait) ∈ cr_tb := cr_in (i := 467) (by decide +kernel) rfl
theorem cv_X4_wait : cr_csV Y_X4_wait := ⟨cr_in (i := 465) (by decide +kernel) rfl, cr_in (i := 466) (by decide +kernel) rfl⟩
theorem rc_X4_wait : cr_rc Y_X4_wait := ⟨4, _, _, rfl, rfl, rfl⟩
theorem cd_X4_want : Cond.code (cr_nm Y_X4_want) (cr_by Y_X4_want) (cr_ml Y_X4_want) (cr_rt Y_X4_want) ∈ cr_tb := cr_in (i := 539) (by decide +kernel) rfl
theorem cv_X4_want : cr_csV Y_X4_want := ⟨cr_in (i := 537) (by decide +kernel) rfl, cr_in (i := 538) (by decide +kernel) rfl⟩
theorem rc_X4_want : cr_rc Y_X4_want := ⟨4, _, _, rfl, rfl, rfl⟩
theorem cd_X4_wanted : Cond.code (cr_nm Y_X4_wanted) (cr_by Y_X4_wanted) (cr_ml Y_X4_wanted) (cr_rt Y_X4_wanted) ∈ cr_tb := cr_in (i := 534) (by decide +kernel) rfl
theorem cv_X4_wanted : cr_csV Y_X4_wanted := ⟨cr_in (i := 532) (by decide +kernel) rfl, cr_in (i := 533) (by decide +kernel) rfl⟩
theorem rc_X4_wanted : cr_rc Y_X4_wanted := ⟨4, _, _, rfl, rfl, rfl⟩
theorem cd_X4_who : Cond.code (cr_nm Y_X4_who) (cr_by Y_X4_who) (cr_ml Y_X4_who) (cr_rt Y_X4_who) ∈ cr_tb := cr_in (i := 491) (by decide +kernel) rfl
theorem cv_X4_who : cr_csV Y_X4_who := ⟨cr_in (i := 489) (by decide +kernel) rfl, cr_in (i := 490) (by decide +kernel) rfl⟩
theorem rc_X4_who : cr_rc Y_X4_who := ⟨4, _, _, rfl, rfl, rfl⟩
theorem cd_X4_why : Cond.code (cr_nm Y_X4_why) (cr_by Y_X4_why) (cr_ml Y_X4_why) (cr_rt Y_X4_why) ∈ cr_tb := cr_in (i := 500) (by decide +kernel) rfl
theorem cv_X4_why : cr_csV Y_X4_why := ⟨cr_in (i := 498) (by decide +kernel) rfl, cr_in (i := 499) (by decide +kernel) rfl⟩
theorem rc_X4_why : cr_rc Y_X4_why := ⟨4, _, _, rfl, rfl, rfl⟩
theorem cd_X4_within : Cond.code (cr_nm Y_X4_within) (cr_by Y_X4_within) (cr_ml Y_X4_within) (cr_rt Y_X4_within) ∈ cr_tb := cr_in (i := 517) (by decide +kernel) rfl
theorem cv_X4_within : cr_csV Y_X4_within := ⟨cr_in (i := 515) (by decide +kernel) rfl, cr_in (i := 516) (by decide +kernel) rfl⟩
theorem rc_X4_within : cr_rc Y_X4_within := ⟨4, _, _, rfl, rfl, rfl⟩
theorem cd_X0_add : Cond.code (cr_nm Y_X0_add) (cr_by Y_X0_add) (cr_ml Y_X0_add) (cr_rt Y_X0_add) ∈ cr_tb := cr_in (i := 283) (by decide +kernel) rfl
theorem cv_X0_add : cr_csV Y_X0_add := ⟨cr_in (i := 281) (by decide +kernel) rfl, cr_in (i := 282) (by decide +kernel) rfl⟩
theorem rc_X0_add : cr_rc Y_X0_add := ⟨0, _, _, rfl, rfl, rfl⟩
theorem cd_X0_arrive : Cond.code (cr_nm Y_X0_arrive) (cr_by Y_X0_arrive) (cr_ml Y_X0_arrive) (cr_rt Y_X0_arrive) ∈ cr_tb := cr_in (i := 291) (by decide +kernel) rfl
theorem cv_X0_arrive : cr_csV Y_X0_arrive := ⟨cr_in (i := 289) (by decide +kernel) rfl, cr_in (i := 290) (by decide +kernel) rfl⟩
theorem rc_X0_arrive : cr_rc Y_X0_arrive := ⟨0, _, _, rfl, rfl, rfl⟩
theorem cd_X0_copyFrom : Cond.code (cr_nm Y_X0_copyFrom) (cr_by Y_X0_copyFrom) (cr_ml Y_X0_copyFrom) (cr_rt Y_X0_copyFrom) ∈ cr_tb := cr_in (i := 482) (by decide +kernel) rfl
theorem cv_X0_copyFrom : cr_csV Y_X0_copyFrom := ⟨cr_in (i := 480) (by decide +kernel) rfl, cr_in (i := 481) (by decide +kernel) rfl⟩
theorem rc_X0_copyFrom : cr_rc Y_X0_copyFrom := ⟨0, _, _, rfl, rfl, rfl⟩
theorem cd_X0_countDoing : Cond.code (cr_nm Y_X0_countDoing) (cr_by Y_X0_countDoing) (cr_ml Y_X0_countDoing) (cr_rt Y_X0_countDoing) ∈ cr_tb := cr_in (i := 576) (by decide +kernel) rfl
theorem cv_X0_countDoing : cr_csV Y_X0_countDoing := ⟨cr_in (i := 574) (by decide +kernel) rfl, cr_in (i := 575) (by decide +kernel) rfl⟩
theorem rc_X0_countDoing : cr_rc Y_X0_countDoing := ⟨0, _, _, rfl, rfl, rfl⟩
theorem cd_X0_describe : Cond.code (cr_nm Y_X0_describe) (cr_by Y_X0_describe) (cr_ml Y_X0_describe) (cr_rt Y_X0_describe) ∈ cr_tb := cr_in (i := 287) (by decide +kernel) rfl
theorem cv_X0_describe : cr_csV Y_X0_describe := ⟨cr_in (i := 285) (by decide +kernel) rfl, cr_in (i := 286) (by decide +kernel) rfl⟩
theorem rc_X0_describe : cr_rc Y_X0_describe := ⟨0, _, _, rfl, rfl, rfl⟩
theorem cd_X0_firstWith : Cond.code (cr_nm Y_X0_firstWith) (cr_by Y_X0_firstWith) (cr_ml Y_X0_firstWith) (cr_rt Y_X0_firstWith) ∈ cr_tb := cr_in (i := 564) (by decide +kernel) rfl
theorem cv_X0_firstWith : cr_csV Y_X0_firstWith := ⟨cr_in (i := 562) (by decide +kernel) rfl, cr_in (i := 563) (by decide +kernel) rfl⟩
theorem rc_X0_firstWith : cr_rc Y_X0_firstWith := ⟨0, _, _, rfl, rfl, rfl⟩
theorem cd_X0_givenWithin : Cond.code (cr_nm Y_X0_givenWithin) (cr_by Y_X0_givenWithin) (cr_ml Y_X0_givenWithin) (cr_rt Y_X0_givenWithin) ∈ cr_tb := cr_in (i := 521) (by decide +kernel) rfl
theorem cv_X0_givenWithin : cr_csV Y_X0_givenWithin := ⟨cr_in (i := 519) (by decide +kernel) rfl, cr_in (i := 520) (by decide +kernel) rfl⟩
theorem rc_X0_givenWithin : cr_rc Y_X0_givenWithin := ⟨0, _, _, rfl, rfl, rfl⟩
theorem cd_X0_has : Cond.code (cr_nm Y_X0_has) (cr_by Y_X0_has) (cr_ml Y_X0_has) (cr_rt Y_X0_has) ∈ cr_tb := cr_in (i := 315) (by decide +kernel) rfl
theorem cv_X0_has : cr_csV Y_X0_has := ⟨cr_in (i := 313) (by decide +kernel) rfl, cr_in (i := 314) (by decide +kernel) rfl⟩
theorem rc_X0_has : cr_rc Y_X0_has := ⟨0, _, _, rfl, rfl, rfl⟩
theorem cd_X0_loseImpatient : Cond.code (cr_nm Y_X0_loseImpatient) (cr_by Y_X0_loseImpatient) (cr_ml Y_X0_loseImpatient) (cr_rt Y_X0_loseImpatient) ∈ cr_tb := cr_in (i := 376) (by decide +kernel) rfl
theorem cv_X0_loseImpatient : cr_csV Y_X0_loseImpatient := ⟨cr_in (i := 374) (by decide +kernel) rfl, cr_in (i := 375) (by decide +kernel) rfl⟩
theorem rc_X0_loseImpatient : cr_rc Y_X0_loseImpatient := ⟨0, _, _, rfl, rfl, rfl⟩
theorem cd_X0_nextChange : Cond.code (cr_nm Y_X0_nextChange) (cr_by Y_X0_nextChange) (cr_ml Y_X0_nextChange) (cr_rt Y_X0_nextChange) ∈ cr_tb := cr_in (i := 457) (by decide +kernel) rfl
theorem cv_X0_nextChange : cr_csV Y_X0_nextChange := ⟨cr_in (i := 455) (by decide +kernel) rfl, cr_in (i := 456) (by decide +kernel) rfl⟩
theorem rc_X0_nextChange : cr_rc Y_X0_nextChange := ⟨0, _, _, rfl, rfl, rfl⟩
theorem cd_X0_putBack : Cond.code (cr_nm Y_X0_putBack) (cr_by Y_X0_putBack) (cr_ml Y_X0_putBack) (cr_rt Y_X0_putBack) ∈ cr_tb := cr_in (i := 319) (by decide +kernel) rfl
theorem cv_X0_putBack : cr_csV Y_X0_putBack := ⟨cr_in (i := 317) (by decide +kernel) rfl, cr_in (i := 318) (by decide +kernel) rfl⟩
theorem rc_X0_putBack : cr_rc Y_X0_putBack := ⟨0, _, _, rfl, rfl, rfl⟩
theorem cd_X0_ringBackDue : Cond.code (cr_nm Y_X0_ringBackDue) (cr_by Y_X0_ringBackDue) (cr_ml Y_X0_ringBackDue) (cr_rt Y_X0_ringBackDue) ∈ cr_tb := cr_in (i := 372) (by decide +kernel) rfl
theorem cv_X0_ringBackDue : cr_csV Y_X0_ringBackDue := ⟨cr_in (i := 370) (by decide +kernel) rfl, cr_in (i := 371) (by decide +kernel) rfl⟩
theorem rc_X0_ringBackDue : cr_rc Y_X0_ringBackDue := ⟨0, _, _, rfl, rfl, rfl⟩
theorem cd_X0_start : Cond.code (cr_nm Y_X0_start) (cr_by Y_X0_start) (cr_ml Y_X0_start) (cr_rt Y_X0_start) ∈ cr_tb := cr_in (i := 433) (by decide +kernel) rfl
theorem cv_X0_start : cr_csV Y_X0_start := ⟨cr_in (i := 431) (by decide +kernel) rfl, cr_in (i := 432) (by decide +kernel) rfl⟩
theorem rc_X0_start : cr_rc Y_X0_start := ⟨0, _, _, rfl, rfl, rfl⟩
theorem cd_X0_waitAgain : Cond.code (cr_nm Y_X0_waitAgain) (cr_by Y_X0_waitAgain) (cr_ml Y_X0_waitAgain) (cr_rt Y_X0_waitAgain) ∈ cr_tb := cr_in (i := 295) (by decide +kernel) rfl
theorem cv_X0_waitAgain : cr_csV Y_X0_waitAgain := ⟨cr_in (i := 293) (by decide +kernel) rfl, cr_in (i := 294) (by decide +kernel) rfl⟩
theorem rc_X0_waitAgain : cr_rc Y_X0_waitAgain := ⟨0, _, _, rfl, rfl, rfl⟩
theorem cd_X1_bestHelper : Cond.code (cr_nm Y_X1_bestHelper) (cr_by Y_X1_bestHelper) (cr_ml Y_X1_bestHelper) (cr_rt Y_X1_bestHelper) ∈ cr_tb := cr_in (i := 409) (by decide +kernel) rfl
theorem cv_X1_bestHelper : cr_csV Y_X1_bestHelper := ⟨cr_in (i := 408) (by decide +kernel) rfl, cr_in (i := 10) (by decide +kernel) rfl⟩
theorem rc_X1_bestHelper : cr_rc Y_X1_bestHelper := ⟨1, _, _, rfl, rfl, rfl⟩
theorem cd_X1_copyFrom : Cond.code (cr_nm Y_X1_copyFrom) (cr_by Y_X1_copyFrom) (cr_ml Y_X1_copyFrom) (cr_rt Y_X1_copyFrom) ∈ cr_tb := cr_in (i := 471) (by decide +kernel) rfl
theorem cv_X1_copyFrom : cr_csV Y_X1_copyFrom := ⟨cr_in (i := 469) (by decide +kernel) rfl, cr_in (i := 470) (by decide +kernel) rfl⟩
theorem rc_X1_copyFrom : cr_rc Y_X1_copyFrom := ⟨1, _, _, rfl, rfl, rfl⟩
theorem cd_X1_countTakers : Cond.code (cr_nm Y_X1_countTakers) (cr_by Y_X1_countTakers) (cr_ml Y_X1_countTakers) (cr_rt Y_X1_countTakers) ∈ cr_tb := cr_in (i := 388) (by decide +kernel) rfl
theorem cv_X1_countTakers : cr_csV Y_X1_countTakers := ⟨cr_in (i := 387) (by decide +kernel) rfl, cr_in (i := 6) (by decide +kernel) rfl⟩
theorem rc_X1_countTakers : cr_rc Y_X1_countTakers := ⟨1, _, _, rfl, rfl, rfl⟩
theorem cd_X1_endCalls : Cond.code (cr_nm Y_X1_endCalls) (cr_by Y_X1_endCalls) (cr_ml Y_X1_endCalls) (cr_rt Y_X1_endCalls) ∈ cr_tb := cr_in (i := 358) (by decide +kernel) rfl
theorem cv_X1_endCalls : cr_csV Y_X1_endCalls := ⟨cr_in (i := 357) (by decide +kernel) rfl, cr_in (i := 3) (by decide +kernel) rfl⟩
theorem rc_X1_endCalls : cr_rc Y_X1_endCalls := ⟨1, _, _, rfl, rfl, rfl⟩
theorem cd_X1_endWith : Cond.code (cr_nm Y_X1_endWith) (cr_by Y_X1_endWith) (cr_ml Y_X1_endWith) (cr_rt Y_X1_endWith) ∈ cr_tb := cr_in (i := 362) (by decide +kernel) rfl
theorem cv_X1_endWith : cr_csV Y_X1_endWith := ⟨cr_in (i := 361) (by decide +kernel) rfl, cr_in (i := 4) (by decide +kernel) rfl⟩
theorem rc_X1_endWith : cr_rc Y_X1_endWith := ⟨1, _, _, rfl, rfl, rfl⟩
theorem cd_X1_give : Cond.code (cr_nm Y_X1_give) (cr_by Y_X1_give) (cr_ml Y_X1_give) (cr_rt Y_X1_give) ∈ cr_tb := cr_in (i := 428) (by decide +kernel) rfl
theorem cv_X1_give : cr_csV Y_X1_give := ⟨cr_in (i := 427) (by decide +kernel) rfl, cr_in (i := 11) (by decide +kernel) rfl⟩
theorem rc_X1_give : cr_rc Y_X1_give := ⟨1, _, _, rfl, rfl, rfl⟩
theorem cd_X1_giveAll : Cond.code (cr_nm Y_X1_giveAll) (cr_by Y_X1_giveAll) (cr_ml Y_X1_giveAll) (cr_rt Y_X1_giveAll) ∈ cr_tb := cr_in (i := 380) (by decide +kernel) rfl
theorem cv_X1_giveAll : cr_csV Y_X1_giveAll := ⟨cr_in (i := 378) (by decide +kernel) rfl, cr_in (i := 379) (by decide +kernel) rfl⟩
theorem rc_X1_giveAll : cr_rc Y_X1_giveAll := ⟨1, _, _, rfl, rfl, rfl⟩
theorem cd_X1_goOn : Cond.code (cr_nm Y_X1_goOn) (cr_by Y_X1_goOn) (cr_ml Y_X1_goOn) (cr_rt Y_X1_goOn) ∈ cr_tb := cr_in (i := 346) (by decide +kernel) rfl
theorem cv_X1_goOn : cr_csV Y_X1_goOn := ⟨cr_in (i := 344) (by decide +kernel) rfl, cr_in (i := 345) (by decide +kernel) rfl⟩
theorem rc_X1_goOn : cr_rc Y_X1_goOn := ⟨1, _, _, rfl, rfl, rfl⟩
theorem cd_X1_hindrance : Cond.code (cr_nm Y_X1_hindrance) (cr_by Y_X1_hindrance) (cr_ml Y_X1_hindrance) (cr_rt Y_X1_hindrance) ∈ cr_tb := cr_in (i := 504) (by decide +kernel) rfl
theorem cv_X1_hindrance : cr_csV Y_X1_hindrance := ⟨cr_in (i := 502) (by decide +kernel) rfl, cr_in (i := 503) (by decide +kernel) rfl⟩
theorem rc_X1_hindrance : cr_rc Y_X1_hindrance := ⟨1, _, _, rfl, rfl, rfl⟩
theorem cd_X1_isKeptForOwn : Cond.code (cr_nm Y_X1_isKeptForOwn) (cr_by Y_X1_isKeptForOwn) (cr_ml Y_X1_isKeptForOwn) (cr_rt Y_X1_isKeptForOwn) ∈ cr_tb := cr_in (i := 400) (by decide +kernel) rfl
theorem cv_X1_isKeptForOwn : cr_csV Y_X1_isKeptForOwn := ⟨cr_in (i := 399) (by decide +kernel) rfl, cr_in (i := 8) (by decide +kernel) rfl⟩
theorem rc_X1_isKeptForOwn : cr_rc Y_X1_isKeptForOwn := ⟨1, _, _, rfl, rfl, rfl⟩
theorem cd_X1_isTakeable : Cond.code (cr_nm Y_X1_isTakeable) (cr_by Y_X1_isTakeable) (cr_ml Y_X1_isTakeable) (cr_rt Y_X1_isTakeable) ∈ cr_tb := cr_in (i := 396) (by decide +kernel) rfl
theorem cv_X1_isTakeable : cr_csV Y_X1_isTakeable := ⟨cr_in (i := 395) (by decide +kernel) rfl, cr_in (i := 7) (by decide +kernel) rfl⟩
theorem rc_X1_isTakeable : cr_rc Y_X1_isTakeable := ⟨1, _, _, rfl, rfl, rfl⟩
theorem cd_X1_nextChange : Cond.code (cr_nm Y_X1_nextChange) (cr_by Y_X1_nextChange) (cr_ml Y_X1_nextChange) (cr_rt Y_X1_nextChange) ∈ cr_tb := cr_in (i := 445) (by decide +kernel) rfl
theorem cv_X1_nextChange : cr_csV Y_X1_nextChange := ⟨cr_in (i := 444) (by decide +kernel) rfl, cr_in (i := 13) (by decide +kernel) rfl⟩
theorem rc_X1_nextChange : cr_rc Y_X1_nextChange := ⟨1, _, _, rfl, rfl, rfl⟩
theorem cd_X1_nextToGive : Cond.code (cr_nm Y_X1_nextToGive) (cr_by Y_X1_nextToGive) (cr_ml Y_X1_nextToGive) (cr_rt Y_X1_nextToGive) ∈ cr_tb := cr_in (i := 384) (by decide +kernel) rfl
theorem cv_X1_nextToGive : cr_csV Y_X1_nextToGive := ⟨cr_in (i := 383) (by decide +kernel) rfl, cr_in (i := 5) (by decide +kernel) rfl⟩
theorem rc_X1_nextToGive : cr_rc Y_X1_nextToGive := ⟨1, _, _, rfl, rfl, rfl⟩
theorem cd_X1_passTick : Cond.code (cr_nm Y_X1_passTick) (cr_by Y_X1_passTick) (cr_ml Y_X1_passTick) (cr_rt Y_X1_passTick) ∈ cr_tb := cr_in (i := 350) (by decide +kernel) rfl
theorem cv_X1_passTick : cr_csV Y_X1_passTick := ⟨cr_in (i := 349) (by decide +kernel) rfl, cr_in (i := 2) (by decide +kernel) rfl⟩
theorem rc_X1_passTick : cr_rc Y_X1_passTick := ⟨1, _, _, rfl, rfl, rfl⟩
theorem cd_X1_rankOf : Cond.code (cr_nm Y_X1_rankOf) (cr_by Y_X1_rankOf) (cr_ml Y_X1_rankOf) (cr_rt Y_X1_rankOf) ∈ cr_tb := cr_in (i := 404) (by decide +kernel) rfl
theorem cv_X1_rankOf : cr_csV Y_X1_rankOf := ⟨cr_in (i := 403) (by decide +kernel) rfl, cr_in (i := 9) (by decide +kernel) rfl⟩
theorem rc_X1_rankOf : cr_rc Y_X1_rankOf := ⟨1, _, _, rfl, rfl, rfl⟩
theorem cd_X1_skipQuietTicks : Cond.code (cr_nm Y_X1_skipQuietTicks) (cr_by Y_X1_skipQuietTicks) (cr_ml Y_X1_skipQuietTicks) (cr_rt Y_X1_skipQuietTicks) ∈ cr_tb := cr_in (i := 441) (by decide +kernel) rfl
theorem cv_X1_skipQuietTicks : cr_csV Y_X1_skipQuietTicks := ⟨cr_in (i := 440) (by decide +kernel) rfl, cr_in (i := 12) (by decide +kernel) rfl⟩
theorem rc_X1_skipQuietTicks : cr_rc Y_X1_skipQuietTicks := ⟨1, _, _, rfl, rfl, rfl⟩
theorem cd_X1_ticksTillOn : Cond.code (cr_nm Y_X1_ticksTillOn) (cr_by Y_X1_ticksTillOn) (cr_ml Y_X1_ticksTillOn) (cr_rt Y_X1_ticksTillOn) ∈ cr_tb := cr_in (i := 487) (by decide +kernel) rfl
theorem cv_X1_ticksTillOn : cr_csV Y_X1_ticksTillOn := ⟨cr_in (i := 485) (by decide +kernel) rfl, cr_in (i := 486) (by decide +kernel) rfl⟩
theorem rc_X1_ticksTillOn : cr_rc Y_X1_ticksTillOn := ⟨1, _, _, rfl, rfl, rfl⟩
theorem cd_X2_add : Cond.code (cr_nm Y_X2_add) (cr_by Y_X2_add) (cr_ml Y_X2_add) (cr_rt Y_X2_add) ∈ cr_tb := cr_in (i := 237) (by decide +kernel) rfl
theorem cv_X2_add : cr_csV Y_X2_add := ⟨cr_in (i := 235) (by decide +kernel) rfl, cr_in (i := 236) (by decide +kernel) rfl⟩
theorem rc_X2_add : cr_rc Y_X2_add := ⟨2, _, _, rfl, rfl, rfl⟩
theorem cd_X2_addBusyTicks : Cond.code (cr_nm Y_X2_addBusyTicks) (cr_by Y_X2_addBusyTicks) (cr_ml Y_X2_addBusyTicks) (cr_rt Y_X2_addBusyTicks) ∈ cr_tb := cr_in (i := 354) (by decide +kernel) rfl
theorem cv_X2_addBusyTicks : cr_csV Y_X2_addBusyTicks := ⟨cr_in (i := 352) (by decide +kernel) rfl, cr_in (i := 353) (by decide +kernel) rfl⟩
theorem rc_X2_addBusyTicks : cr_rc Y_X2_addBusyTicks := ⟨2, _, _, rfl, rfl, rfl⟩
theorem cd_X2_become : Cond.code (cr_nm Y_X2_become) (cr_by Y_X2_become) (cr_ml Y_X2_become) (cr_rt Y_X2_become) ∈ cr_tb := cr_in (i := 267) (by decide +kernel) rfl
theorem cv_X2_become : cr_csV Y_X2_become := ⟨cr_in (i := 265) (by decide +kernel) rfl, cr_in (i := 266) (by decide +kernel) rfl⟩
theorem rc_X2_become : cr_rc Y_X2_become := ⟨2, _, _, rfl, rfl, rfl⟩
theorem cd_X2_canTake : Cond.code (cr_nm Y_X2_canTake) (cr_by Y_X2_canTake) (cr_ml Y_X2_canTake) (cr_rt Y_X2_canTake) ∈ cr_tb := cr_in (i := 392) (by decide +kernel) rfl
theorem cv_X2_canTake : cr_csV Y_X2_canTake := ⟨cr_in (i := 390) (by decide +kernel) rfl, cr_in (i := 391) (by decide +kernel) rfl⟩
theorem rc_X2_canTake : cr_rc Y_X2_canTake := ⟨2, _, _, rfl, rfl, rfl⟩
theorem cd_X2_copyFrom : Cond.code (cr_nm Y_X2_copyFrom) (cr_by Y_X2_copyFrom) (cr_ml Y_X2_copyFrom) (cr_rt Y_X2_copyFrom) ∈ cr_tb := cr_in (i := 475) (by decide +kernel) rfl
theorem cv_X2_copyFrom : cr_csV Y_X2_copyFrom := ⟨cr_in (i := 473) (by decide +kernel) rfl, cr_in (i := 474) (by decide +kernel) rfl⟩
theorem rc_X2_copyFrom : cr_rc Y_X2_copyFrom := ⟨2, _, _, rfl, rfl, rfl⟩
theorem cd_X2_countFree : Cond.code (cr_nm Y_X2_countFree) (cr_by Y_X2_countFree) (cr_ml Y_X2_countFree) (cr_rt Y_X2_countFree) ∈ cr_tb := cr_in (i := 580) (by decide +kernel) rfl
theorem cv_X2_countFree : cr_csV Y_X2_countFree := ⟨cr_in (i := 578) (by decide +kernel) rfl, cr_in (i := 579) (by decide +kernel) rfl⟩
theorem rc_X2_countFree : cr_rc Y_X2_countFree := ⟨2, _, _, rfl, rfl, rfl⟩
theorem cd_X2_endBreaks : Cond.code (cr_nm Y_X2_endBreaks) (cr_by Y_X2_endBreaks) (cr_ml Y_X2_endBreaks) (cr_rt Y_X2_endBreaks) ∈ cr_tb := cr_in (i := 368) (by decide +kernel) rfl
theorem cv_X2_endBreaks : cr_csV Y_X2_endBreaks := ⟨cr_in (i := 366) (by decide +kernel) rfl, cr_in (i := 367) (by decide +kernel) rfl⟩
theorem rc_X2_endBreaks : cr_rc Y_X2_endBreaks := ⟨2, _, _, rfl, rfl, rfl⟩
theorem cd_X2_gradeFor : Cond.code (cr_nm Y_X2_gradeFor) (cr_by Y_X2_gradeFor) (cr_ml Y_X2_gradeFor) (cr_rt Y_X2_gradeFor) ∈ cr_tb := cr_in (i := 255) (by decide +kernel) rfl
theorem cv_X2_gradeFor : cr_csV Y_X2_gradeFor := ⟨cr_in (i := 253) (by decide +kernel) rfl, cr_in (i := 254) (by decide +kernel) rfl⟩
theorem rc_X2_gradeFor : cr_rc Y_X2_gradeFor := ⟨2, _, _, rfl, rfl, rfl⟩
theorem cd_X2_has : Cond.code (cr_nm Y_X2_has) (cr_by Y_X2_has) (cr_ml Y_X2_has) (cr_rt Y_X2_has) ∈ cr_tb := cr_in (i := 245) (by decide +kernel) rfl
theorem cv_X2_has : cr_csV Y_X2_has := ⟨cr_in (i := 243) (by decide +kernel) rfl, cr_in (i := 244) (by decide +kernel) rfl⟩
theorem rc_X2_has : cr_rc Y_X2_has := ⟨2, _, _, rfl, rfl, rfl⟩
theorem cd_X2_isBetter : Cond.code (cr_nm Y_X2_isBetter) (cr_by Y_X2_isBetter) (cr_ml Y_X2_isBetter) (cr_rt Y_X2_isBetter) ∈ cr_tb := cr_in (i := 413) (by decide +kernel) rfl
theorem cv_X2_isBetter : cr_csV Y_X2_isBetter := ⟨cr_in (i := 411) (by decide +kernel) rfl, cr_in (i := 412) (by decide +kernel) rfl⟩
theorem rc_X2_isBetter : cr_rc Y_X2_isBetter := ⟨2, _, _, rfl, rfl, rfl⟩
theorem cd_X2_letGo : Cond.code (cr_nm Y_X2_letGo) (cr_by Y_X2_letGo) (cr_ml Y_X2_letGo) (cr_rt Y_X2_letGo) ∈ cr_tb := cr_in (i := 328) (by decide +kernel) rfl
theorem cv_X2_letGo : cr_csV Y_X2_letGo := ⟨cr_in (i := 326) (by decide +kernel) rfl, cr_in (i := 327) (by decide +kernel) rfl⟩
theorem rc_X2_letGo : cr_rc Y_X2_letGo := ⟨2, _, _, rfl, rfl, rfl⟩
theorem cd_X2_nextBreakOver : Cond.code (cr_nm Y_X2_nextBreakOver) (cr_by Y_X2_nextBreakOver) (cr_ml Y_X2_nextBreakOver) (cr_rt Y_X2_nextBreakOver) ∈ cr_tb := cr_in (i := 449) (by decide +kernel) rfl
theorem cv_X2_nextBreakOver : cr_csV Y_X2_nextBreakOver := ⟨cr_in (i := 447) (by decide +kernel) rfl, cr_in (i := 448) (by decide +kernel) rfl⟩
theorem rc_X2_nextBreakOver : cr_rc Y_X2_nextBreakOver := ⟨2, _, _, rfl, rfl, rfl⟩
theorem cd_X2_setGrade : Cond.code (cr_nm Y_X2_setGrade) (cr_by Y_X2_setGrade) (cr_ml Y_X2_setGrade) (cr_rt Y_X2_setGrade) ∈ cr_tb := cr_in (i := 259) (by decide +kernel) rfl
theorem cv_X2_setGrade : cr_csV Y_X2_setGrade := ⟨cr_in (i := 257) (by decide +kernel) rfl, cr_in (i := 258) (by decide +kernel) rfl⟩
theorem rc_X2_setGrade : cr_rc Y_X2_setGrade := ⟨2, _, _, rfl, rfl, rfl⟩
theorem cd_X2_someCanTake : Cond.code (cr_nm Y_X2_someCanTake) (cr_by Y_X2_someCanTake) (cr_ml Y_X2_someCanTake) (cr_rt Y_X2_someCanTake) ∈ cr_tb := cr_in (i := 512) (by decide +kernel) rfl
theorem cv_X2_someCanTake : cr_csV Y_X2_someCanTake := ⟨cr_in (i := 510) (by decide +kernel) rfl, cr_in (i := 511) (by decide +kernel) rfl⟩
theorem rc_X2_someCanTake : cr_rc Y_X2_someCanTake := ⟨2, _, _, rfl, rfl, rfl⟩
theorem cd_X2_someInHasGrade : Cond.code (cr_nm Y_X2_someInHasGrade) (cr_by Y_X2_someInHasGrade) (cr_ml Y_X2_someInHasGrade) (cr_rt Y_X2_someInHasGrade) ∈ cr_tb := cr_in (i := 508) (by decide +kernel) rfl
theorem cv_X2_someInHasGrade : cr_csV Y_X2_someInHasGrade := ⟨cr_in (i := 506) (by decide +kernel) rfl, cr_in (i := 507) (by decide +kernel) rfl⟩
theorem rc_X2_someInHasGrade : cr_rc Y_X2_someInHasGrade := ⟨2, _, _, rfl, rfl, rfl⟩
theorem cd_X2_sortsOf : Cond.code (cr_nm Y_X2_sortsOf) (cr_by Y_X2_sortsOf) (cr_ml Y_X2_sortsOf) (cr_rt Y_X2_sortsOf) ∈ cr_tb := cr_in (i := 418) (by decide +kernel) rfl
theorem cv_X2_sortsOf : cr_csV Y_X2_sortsOf := ⟨cr_in (i := 416) (by decide +kernel) rfl, cr_in (i := 417) (by decide +kernel) rfl⟩
theorem rc_X2_sortsOf : cr_rc Y_X2_sortsOf := ⟨2, _, _, rfl, rfl, rfl⟩
theorem cd_X2_take : Cond.code (cr_nm Y_X2_take) (cr_by Y_X2_take) (cr_ml Y_X2_take) (cr_rt Y_X2_take) ∈ cr_tb := cr_in (i := 437) (by decide +kernel) rfl
theorem cv_X2_take : cr_csV Y_X2_take := ⟨cr_in (i := 435) (by decide +kernel) rfl, cr_in (i := 436) (by decide +kernel) rfl⟩
theorem rc_X2_take : cr_rc Y_X2_take := ⟨2, _, _, rfl, rfl, rfl⟩
theorem cd_X3_plan : Cond.code (cr_nm Y_X3_plan) (cr_by Y_X3_plan) (cr_ml Y_X3_plan) (cr_rt Y_X3_plan) ∈ cr_tb := cr_in (i := 550) (by decide +kernel) rfl
theorem cv_X3_plan : cr_csV Y_X3_plan := ⟨cr_in (i := 548) (by decide +kernel) rfl, cr_in (i := 549) (by decide +kernel) rfl⟩
theorem rc_X3_plan : cr_rc Y_X3_plan := ⟨3, _, _, rfl, rfl, rfl⟩
theorem cd_X5_becomes : Cond.code (cr_nm Y_X5_becomes) (cr_by Y_X5_becomes) (cr_ml Y_X5_becomes) (cr_rt Y_X5_becomes) ∈ cr_tb := cr_in (i := 738) (by decide +kernel) rfl
theorem cv_X5_becomes : cr_csV Y_X5_becomes := ⟨cr_in (i := 737) (by decide +kernel) rfl, cr_in (i := 17) (by decide +kernel) rfl⟩
theorem rc_X5_becomes : cr_rc Y_X5_becomes := ⟨5, _, _, rfl, rfl, rfl⟩
theorem cd_X5_begins : Cond.code (cr_nm Y_X5_begins) (cr_by Y_X5_begins) (cr_ml Y_X5_begins) (cr_rt Y_X5_begins) ∈ cr_tb := cr_in (i := 886) (by decide +kernel) rfl
theorem cv_X5_begins : cr_csV Y_X5_begins := ⟨cr_in (i := 884) (by decide +kernel) rfl, cr_in (i := 885) (by decide +kernel) rfl⟩
theorem rc_X5_begins : cr_rc Y_X5_begins := ⟨5, _, _, rfl, rfl, rfl⟩
theorem cd_X5_call : Cond.code (cr_nm Y_X5_call) (cr_by Y_X5_call) (cr_ml Y_X5_call) (cr_rt Y_X5_call) ∈ cr_tb := cr_in (i := 750) (by decide +kernel) rfl
theorem cv_X5_call : cr_csV Y_X5_call := ⟨cr_in (i := 748) (by decide +kernel) rfl, cr_in (i := 749) (by decide +kernel) rfl⟩
theorem rc_X5_call : cr_rc Y_X5_call := ⟨5, _, _, rfl, rfl, rfl⟩
theorem cd_X5_callOf : Cond.code (cr_nm Y_X5_callOf) (cr_by Y_X5_callOf) (cr_ml Y_X5_callOf) (cr_rt Y_X5_callOf) ∈ cr_tb := cr_in (i := 894) (by decide +kernel) rfl
theorem cv_X5_callOf : cr_csV Y_X5_callOf := ⟨cr_in (i := 892) (by decide +kernel) rfl, cr_in (i := 893) (by decide +kernel) rfl⟩
theorem rc_X5_callOf : cr_rc Y_X5_callOf := ⟨5, _, _, rfl, rfl, rfl⟩
theorem cd_X5_count : Cond.code (cr_nm Y_X5_count) (cr_by Y_X5_count) (cr_ml Y_X5_count) (cr_rt Y_X5_count) ∈ cr_tb := cr_in (i := 898) (by decide +kernel) rfl
theorem cv_X5_count : cr_csV Y_X5_count := ⟨cr_in (i := 896) (by decide +kernel) rfl, cr_in (i := 897) (by decide +kernel) rfl⟩
theorem rc_X5_count : cr_rc Y_X5_count := ⟨5, _, _, rfl, rfl, rfl⟩
theorem cd_X5_cover : Cond.code (cr_nm Y_X5_cover) (cr_by Y_X5_cover) (cr_ml Y_X5_cover) (cr_rt Y_X5_cover) ∈ cr_tb := cr_in (i := 880) (by decide +kernel) rfl
theorem cv_X5_cover : cr_csV Y_X5_cover := ⟨cr_in (i := 878) (by decide +kernel) rfl, cr_in (i := 879) (by decide +kernel) rfl⟩
theorem rc_X5_cover : cr_rc Y_X5_cover := ⟨5, _, _, rfl, rfl, rfl⟩
theorem cd_X5_duty : Cond.code (cr_nm Y_X5_duty) (cr_by Y_X5_duty) (cr_ml Y_X5_duty) (cr_rt Y_X5_duty) ∈ cr_tb := cr_in (i := 734) (by decide +kernel) rfl
theorem cv_X5_duty : cr_csV Y_X5_duty := ⟨cr_in (i := 732) (by decide +kernel) rfl, cr_in (i := 733) (by decide +kernel) rfl⟩
theorem rc_X5_duty : cr_rc Y_X5_duty := ⟨5, _, _, rfl, rfl, rfl⟩
theorem cd_X5_freeFor : Cond.code (cr_nm Y_X5_freeFor) (cr_by Y_X5_freeFor) (cr_ml Y_X5_freeFor) (cr_rt Y_X5_freeFor) ∈ cr_tb := cr_in (i := 818) (by decide +kernel) rfl
theorem cv_X5_freeFor : cr_csV Y_X5_freeFor := ⟨cr_in (i := 817) (by decide +kernel) rfl, cr_in (i := 27) (by decide +kernel) rfl⟩
theorem rc_X5_freeFor : cr_rc Y_X5_freeFor := ⟨5, _, _, rfl, rfl, rfl⟩
theorem cd_X5_give : Cond.code (cr_nm Y_X5_give) (cr_by Y_X5_give) (cr_ml Y_X5_give) (cr_rt Y_X5_give) ∈ cr_tb := cr_in (i := 794) (by decide +kernel) rfl
theorem cv_X5_give : cr_csV Y_X5_give := ⟨cr_in (i := 793) (by decide +kernel) rfl, cr_in (i := 21) (by decide +kernel) rfl⟩
theorem rc_X5_give : cr_rc Y_X5_give := ⟨5, _, _, rfl, rfl, rfl⟩
theorem cd_X5_goesOn : Cond.code (cr_nm Y_X5_goesOn) (cr_by Y_X5_goesOn) (cr_ml Y_X5_goesOn) (cr_rt Y_X5_goesOn) ∈ cr_tb := cr_in (i := 786) (by decide +kernel) rfl
theorem cv_X5_goesOn : cr_csV Y_X5_goesOn := ⟨cr_in (i := 785) (by decide +kernel) rfl, cr_in (i := 19) (by decide +kernel) rfl⟩
theorem rc_X5_goesOn : cr_rc Y_X5_goesOn := ⟨5, _, _, rfl, rfl, rfl⟩
theorem cd_X5_grade : Cond.code (cr_nm Y_X5_grade) (cr_by Y_X5_grade) (cr_ml Y_X5_grade) (cr_rt Y_X5_grade) ∈ cr_tb := cr_in (i := 723) (by decide +kernel) rfl
theorem cv_X5_grade : cr_csV Y_X5_grade := ⟨cr_in (i := 721) (by decide +kernel) rfl, cr_in (i := 722) (by decide +kernel) rfl⟩
theorem rc_X5_grade : cr_rc Y_X5_grade := ⟨5, _, _, rfl, rfl, rfl⟩
theorem cd_X5_gradeOf : Cond.code (cr_nm Y_X5_gradeOf) (cr_by Y_X5_gradeOf) (cr_ml Y_X5_gradeOf) (cr_rt Y_X5_gradeOf) ∈ cr_tb := cr_in (i := 730) (by decide +kernel) rfl
theorem cv_X5_gradeOf : cr_csV Y_X5_gradeOf := ⟨cr_in (i := 729) (by decide +kernel) rfl, cr_in (i := 16) (by decide +kernel) rfl⟩
theorem rc_X5_gradeOf : cr_rc Y_X5_gradeOf := ⟨5, _, _, rfl, rfl, rfl⟩
theorem cd_X5_hasRoom : Cond.code (cr_nm Y_X5_hasRoom) (cr_by Y_X5_hasRoom) (cr_ml Y_X5_hasRoom) (cr_rt Y_X5_hasRoom) ∈ cr_tb := cr_in (i := 810) (by decide +kernel) rfl
theorem cv_X5_hasRoom : cr_csV Y_X5_hasRoom := ⟨cr_in (i := 809) (by decide +kernel) rfl, cr_in (i := 25) (by decide +kernel) rfl⟩
theorem rc_X5_hasRoom : cr_rc Y_X5_hasRoom := ⟨5, _, _, rfl, rfl, rfl⟩
theorem cd_X5_helper : Cond.code (cr_nm Y_X5_helper) (cr_by Y_X5_helper) (cr_ml Y_X5_helper) (cr_rt Y_X5_helper) ∈ cr_tb := cr_in (i := 715) (by decide +kernel) rfl
theorem cv_X5_helper : cr_csV Y_X5_helper := ⟨cr_in (i := 713) (by decide +kernel) rfl, cr_in (i := 714) (by decide +kernel) rfl⟩
theorem rc_X5_helper : cr_rc Y_X5_helper := ⟨5, _, _, rfl, rfl, rfl⟩
theorem cd_X5_helperFor : Cond.code (cr_nm Y_X5_helperFor) (cr_by Y_X5_helperFor) (cr_ml Y_X5_helperFor) (cr_rt Y_X5_helperFor) ∈ cr_tb := cr_in (i := 822) (by decide +kernel) rfl
theorem cv_X5_helperFor : cr_csV Y_X5_helperFor := ⟨cr_in (i := 821) (by decide +kernel) rfl, cr_in (i := 28) (by decide +kernel) rfl⟩
theorem rc_X5_helperFor : cr_rc Y_X5_helperFor := ⟨5, _, _, rfl, rfl, rfl⟩
theorem cd_X5_helperOf : Cond.code (cr_nm Y_X5_helperOf) (cr_by Y_X5_helperOf) (cr_ml Y_X5_helperOf) (cr_rt Y_X5_helperOf) ∈ cr_tb := cr_in (i := 890) (by decide +kernel) rfl
theorem cv_X5_helperOf : cr_csV Y_X5_helperOf := ⟨cr_in (i := 888) (by decide +kernel) rfl, cr_in (i := 889) (by decide +kernel) rfl⟩
theorem rc_X5_helperOf : cr_rc Y_X5_helperOf := ⟨5, _, _, rfl, rfl, rfl⟩
theorem cd_X5_inState : Cond.code (cr_nm Y_X5_inState) (cr_by Y_X5_inState) (cr_ml Y_X5_inState) (cr_rt Y_X5_inState) ∈ cr_tb := cr_in (i := 902) (by decide +kernel) rfl
theorem cv_X5_inState : cr_csV Y_X5_inState := ⟨cr_in (i := 901) (by decide +kernel) rfl, cr_in (i := 34) (by decide +kernel) rfl⟩
theorem rc_X5_inState : cr_rc Y_X5_inState := ⟨5, _, _, rfl, rfl, rfl⟩
theorem cd_X5_isAhead : Cond.code (cr_nm Y_X5_isAhead) (cr_by Y_X5_isAhead) (cr_ml Y_X5_isAhead) (cr_rt Y_X5_isAhead) ∈ cr_tb := cr_in (i := 826) (by decide +kernel) rfl
theorem cv_X5_isAhead : cr_csV Y_X5_isAhead := ⟨cr_in (i := 825) (by decide +kernel) rfl, cr_in (i := 29) (by decide +kernel) rfl⟩
theorem rc_X5_isAhead : cr_rc Y_X5_isAhead := ⟨5, _, _, rfl, rfl, rfl⟩
theorem cd_X5_isIn : Cond.code (cr_nm Y_X5_isIn) (cr_by Y_X5_isIn) (cr_ml Y_X5_isIn) (cr_rt Y_X5_isIn) ∈ cr_tb := cr_in (i := 726) (by decide +kernel) rfl
theorem st_X5_isIn : Cond.static (cr_nm Y_X5_isIn) ∈ cr_tb := cr_in (i := 725) (by decide +kernel) rfl
theorem cd_X5_isTakeable : Cond.code (cr_nm Y_X5_isTakeable) (cr_by Y_X5_isTakeable) (cr_ml Y_X5_isTakeable) (cr_rt Y_X5_isTakeable) ∈ cr_tb := cr_in (i := 802) (by decide +kernel) rfl
theorem cv_X5_isTakeable : cr_csV Y_X5_isTakeable := ⟨cr_in (i := 801) (by decide +kernel) rfl, cr_in (i := 23) (by decide +kernel) rfl⟩
theorem rc_X5_isTakeable : cr_rc Y_X5_isTakeable := ⟨5, _, _, rfl, rfl, rfl⟩
theorem cd_X5_keep : Cond.code (cr_nm Y_X5_keep) (cr_by Y_X5_keep) (cr_ml Y_X5_keep) (cr_rt Y_X5_keep) ∈ cr_tb := cr_in (i := 838) (by decide +kernel) rfl
theorem cv_X5_keep : cr_csV Y_X5_keep := ⟨cr_in (i := 837) (by decide +kernel) rfl, cr_in (i := 31) (by decide +kernel) rfl⟩
theorem rc_X5_keep : cr_rc Y_X5_keep := ⟨5, _, _, rfl, rfl, rfl⟩
theorem cd_X5_leave : Cond.code (cr_nm Y_X5_leave) (cr_by Y_X5_leave) (cr_ml Y_X5_leave) (cr_rt Y_X5_leave) ∈ cr_tb := cr_in (i := 774) (by decide +kernel) rfl
theorem cv_X5_leave : cr_csV Y_X5_leave := ⟨cr_in (i := 772) (by decide +kernel) rfl, cr_in (i := 773) (by decide +kernel) rfl⟩
theorem rc_X5_leave : cr_rc Y_X5_leave := ⟨5, _, _, rfl, rfl, rfl⟩
theorem cd_X5_loses : Cond.code (cr_nm Y_X5_loses) (cr_by Y_X5_loses) (cr_ml Y_X5_loses) (cr_rt Y_X5_loses) ∈ cr_tb := cr_in (i := 770) (by decide +kernel) rfl
theorem cv_X5_loses : cr_csV Y_X5_loses := ⟨cr_in (i := 769) (by decide +kernel) rfl, cr_in (i := 18) (by decide +kernel) rfl⟩
theorem rc_X5_loses : cr_rc Y_X5_loses := ⟨5, _, _, rfl, rfl, rfl⟩
theorem cd_X5_loss : Cond.code (cr_nm Y_X5_loss) (cr_by Y_X5_loss) (cr_ml Y_X5_loss) (cr_rt Y_X5_loss) ∈ cr_tb := cr_in (i := 862) (by decide +kernel) rfl
theorem cv_X5_loss : cr_csV Y_X5_loss := ⟨cr_in (i := 860) (by decide +kernel) rfl, cr_in (i := 861) (by decide +kernel) rfl⟩
theorem rc_X5_loss : cr_rc Y_X5_loss := ⟨5, _, _, rfl, rfl, rfl⟩
theorem cd_X5_lossOf : Cond.code (cr_nm Y_X5_lossOf) (cr_by Y_X5_lossOf) (cr_ml Y_X5_lossOf) (cr_rt Y_X5_lossOf) ∈ cr_tb := cr_in (i := 865) (by decide +kernel) rfl
theorem st_X5_lossOf : Cond.static (cr_nm Y_X5_lossOf) ∈ cr_tb := cr_in (i := 864) (by decide +kernel) rfl
theorem cd_X5_may : Cond.code (cr_nm Y_X5_may) (cr_by Y_X5_may) (cr_ml Y_X5_may) (cr_rt Y_X5_may) ∈ cr_tb := cr_in (i := 806) (by decide +kernel) rfl
theorem cv_X5_may : cr_csV Y_X5_may := ⟨cr_in (i := 805) (by decide +kernel) rfl, cr_in (i := 24) (by decide +kernel) rfl⟩
theorem rc_X5_may : cr_rc Y_X5_may := ⟨5, _, _, rfl, rfl, rfl⟩
theorem cd_X5_nextCall : Cond.code (cr_nm Y_X5_nextCall) (cr_by Y_X5_nextCall) (cr_ml Y_X5_nextCall) (cr_rt Y_X5_nextCall) ∈ cr_tb := cr_in (i := 798) (by decide +kernel) rfl
theorem cv_X5_nextCall : cr_csV Y_X5_nextCall := ⟨cr_in (i := 797) (by decide +kernel) rfl, cr_in (i := 22) (by decide +kernel) rfl⟩
theorem rc_X5_nextCall : cr_rc Y_X5_nextCall := ⟨5, _, _, rfl, rfl, rfl⟩
theorem cd_X5_out : Cond.code (cr_nm Y_X5_out) (cr_by Y_X5_out) (cr_ml Y_X5_out) (cr_rt Y_X5_out) ∈ cr_tb := cr_in (i := 742) (by decide +kernel) rfl
theorem cv_X5_out : cr_csV Y_X5_out := ⟨cr_in (i := 740) (by decide +kernel) rfl, cr_in (i := 741) (by decide +kernel) rfl⟩
theorem rc_X5_out : cr_rc Y_X5_out := ⟨5, _, _, rfl, rfl, rfl⟩
theorem cd_X5_pass : Cond.code (cr_nm Y_X5_pass) (cr_by Y_X5_pass) (cr_ml Y_X5_pass) (cr_rt Y_X5_pass) ∈ cr_tb := cr_in (i := 766) (by decide +kernel) rfl
theorem cv_X5_pass : cr_csV Y_X5_pass := ⟨cr_in (i := 764) (by decide +kernel) rfl, cr_in (i := 765) (by decide +kernel) rfl⟩
theorem rc_X5_pass : cr_rc Y_X5_pass := ⟨5, _, _, rfl, rfl, rfl⟩
theorem cd_X5_pause : Cond.code (cr_nm Y_X5_pause) (cr_by Y_X5_pause) (cr_ml Y_X5_pause) (cr_rt Y_X5_pause) ∈ cr_tb := cr_in (i := 746) (by decide +kernel) rfl
theorem cv_X5_pause : cr_csV Y_X5_pause := ⟨cr_in (i := 744) (by decide +kernel) rfl, cr_in (i := 745) (by decide +kernel) rfl⟩
theorem rc_X5_pause : cr_rc Y_X5_pause := ⟨5, _, _, rfl, rfl, rfl⟩
theorem cd_X5_prefer : Cond.code (cr_nm Y_X5_prefer) (cr_by Y_X5_prefer) (cr_ml Y_X5_prefer) (cr_rt Y_X5_prefer) ∈ cr_tb := cr_in (i := 758) (by decide +kernel) rfl
theorem cv_X5_prefer : cr_csV Y_X5_prefer := ⟨cr_in (i := 756) (by decide +kernel) rfl, cr_in (i := 757) (by decide +kernel) rfl⟩
theorem rc_X5_prefer : cr_rc Y_X5_prefer := ⟨5, _, _, rfl, rfl, rfl⟩
theorem cd_X5_putBack : Cond.code (cr_nm Y_X5_putBack) (cr_by Y_X5_putBack) (cr_ml Y_X5_putBack) (cr_rt Y_X5_putBack) ∈ cr_tb := cr_in (i := 842) (by decide +kernel) rfl
theorem cv_X5_putBack : cr_csV Y_X5_putBack := ⟨cr_in (i := 841) (by decide +kernel) rfl, cr_in (i := 32) (by decide +kernel) rfl⟩
theorem rc_X5_putBack : cr_rc Y_X5_putBack := ⟨5, _, _, rfl, rfl, rfl⟩
theorem cd_X5_rankOf : Cond.code (cr_nm Y_X5_rankOf) (cr_by Y_X5_rankOf) (cr_ml Y_X5_rankOf) (cr_rt Y_X5_rankOf) ∈ cr_tb := cr_in (i := 814) (by decide +kernel) rfl
theorem cv_X5_rankOf : cr_csV Y_X5_rankOf := ⟨cr_in (i := 813) (by decide +kernel) rfl, cr_in (i := 26) (by decide +kernel) rfl⟩
theorem rc_X5_rankOf : cr_rc Y_X5_rankOf := ⟨5, _, _, rfl, rfl, rfl⟩
theorem cd_X5_refuse : Cond.code (cr_nm Y_X5_refuse) (cr_by Y_X5_refuse) (cr_ml Y_X5_refuse) (cr_rt Y_X5_refuse) ∈ cr_tb := cr_in (i := 719) (by decide +kernel) rfl
theorem cv_X5_refuse : cr_csV Y_X5_refuse := ⟨cr_in (i := 718) (by decide +kernel) rfl, cr_in (i := 15) (by decide +kernel) rfl⟩
theorem rc_X5_refuse : cr_rc Y_X5_refuse := ⟨5, _, _, rfl, rfl, rfl⟩
theorem cd_X5_ring : Cond.code (cr_nm Y_X5_ring) (cr_by Y_X5_ring) (cr_ml Y_X5_ring) (cr_rt Y_X5_ring) ∈ cr_tb := cr_in (i := 762) (by decide +kernel) rfl
theorem cv_X5_ring : cr_csV Y_X5_ring := ⟨cr_in (i := 760) (by decide +kernel) rfl, cr_in (i := 761) (by decide +kernel) rfl⟩
theorem rc_X5_ring : cr_rc Y_X5_ring := ⟨5, _, _, rfl, rfl, rfl⟩
theorem cd_X5_rule : Cond.code (cr_nm Y_X5_rule) (cr_by Y_X5_rule) (cr_ml Y_X5_rule) (cr_rt Y_X5_rule) ∈ cr_tb := cr_in (i := 754) (by decide +kernel) rfl
theorem cv_X5_rule : cr_csV Y_X5_rule := ⟨cr_in (i := 752) (by decide +kernel) rfl, cr_in (i := 753) (by decide +kernel) rfl⟩
theorem rc_X5_rule : cr_rc Y_X5_rule := ⟨5, _, _, rfl, rfl, rfl⟩
theorem cd_X5_sortsOf : Cond.code (cr_nm Y_X5_sortsOf) (cr_by Y_X5_sortsOf) (cr_ml Y_X5_sortsOf) (cr_rt Y_X5_sortsOf) ∈ cr_tb := cr_in (i := 830) (by decide +kernel) rfl
theorem cv_X5_sortsOf : cr_csV Y_X5_sortsOf := ⟨cr_in (i := 829) (by decide +kernel) rfl, cr_in (i := 30) (by decide +kernel) rfl⟩
theorem rc_X5_sortsOf : cr_rc Y_X5_sortsOf := ⟨5, _, _, rfl, rfl, rfl⟩
theorem cd_X5_ticks : Cond.code (cr_nm Y_X5_ticks) (cr_by Y_X5_ticks) (cr_ml Y_X5_ticks) (cr_rt Y_X5_ticks) ∈ cr_tb := cr_in (i := 782) (by decide +kernel) rfl
theorem cv_X5_ticks : cr_csV Y_X5_ticks := ⟨cr_in (i := 780) (by decide +kernel) rfl, cr_in (i := 781) (by decide +kernel) rfl⟩
theorem rc_X5_ticks : cr_rc Y_X5_ticks := ⟨5, _, _, rfl, rfl, rfl⟩
theorem cd_X5_urge : Cond.code (cr_nm Y_X5_urge) (cr_by Y_X5_urge) (cr_ml Y_X5_urge) (cr_rt Y_X5_urge) ∈ cr_tb := cr_in (i := 778) (by decide +kernel) rfl
theorem cv_X5_urge : cr_csV Y_X5_urge := ⟨cr_in (i := 776) (by decide +kernel) rfl, cr_in (i := 777) (by decide +kernel) rfl⟩
theorem rc_X5_urge : cr_rc Y_X5_urge := ⟨5, _, _, rfl, rfl, rfl⟩
theorem cd_X5_wait : Cond.code (cr_nm Y_X5_wait) (cr_by Y_X5_wait) (cr_ml Y_X5_wait) (cr_rt Y_X5_wait) ∈ cr_tb := cr_in (i := 834) (by decide +kernel) rfl
theorem cv_X5_wait : cr_csV Y_X5_wait := ⟨cr_in (i := 832) (by decide +kernel) rfl, cr_in (i := 833) (by decide +kernel) rfl⟩
theorem rc_X5_wait : cr_rc Y_X5_wait := ⟨5, _, _, rfl, rfl, rfl⟩
theorem cd_X5_waitedOf : Cond.code (cr_nm Y_X5_waitedOf) (cr_by Y_X5_waitedOf) (cr_ml Y_X5_waitedOf) (cr_rt Y_X5_waitedOf) ∈ cr_tb := cr_in (i := 790) (by decide +kernel) rfl
theorem cv_X5_waitedOf : cr_csV Y_X5_waitedOf := ⟨cr_in (i := 789) (by decide +kernel) rfl, cr_in (i := 20) (by decide +kernel) rfl⟩
theorem rc_X5_waitedOf : cr_rc Y_X5_waitedOf := ⟨5, _, _, rfl, rfl, rfl⟩
theorem cd_X5_want : Cond.code (cr_nm Y_X5_want) (cr_by Y_X5_want) (cr_ml Y_X5_want) (cr_rt Y_X5_want) ∈ cr_tb := cr_in (i := 876) (by decide +kernel) rfl
theorem cv_X5_want : cr_csV Y_X5_want := ⟨cr_in (i := 874) (by decide +kernel) rfl, cr_in (i := 875) (by decide +kernel) rfl⟩
theorem rc_X5_want : cr_rc Y_X5_want := ⟨5, _, _, rfl, rfl, rfl⟩
theorem cd_X5_wanted : Cond.code (cr_nm Y_X5_wanted) (cr_by Y_X5_wanted) (cr_ml Y_X5_wanted) (cr_rt Y_X5_wanted) ∈ cr_tb := cr_in (i := 871) (by decide +kernel) rfl
theorem cv_X5_wanted : cr_csV Y_X5_wanted := ⟨cr_in (i := 869) (by decide +kernel) rfl, cr_in (i := 870) (by decide +kernel) rfl⟩
theorem rc_X5_wanted : cr_rc Y_X5_wanted := ⟨5, _, _, rfl, rfl, rfl⟩
theorem cd_X5_who : Cond.code (cr_nm Y_X5_who) (cr_by Y_X5_who) (cr_ml Y_X5_who) (cr_rt Y_X5_who) ∈ cr_tb := cr_in (i := 846) (by decide +kernel) rfl
theorem cv_X5_who : cr_csV Y_X5_who := ⟨cr_in (i := 844) (by decide +kernel) rfl, cr_in (i := 845) (by decide +kernel) rfl⟩
theorem rc_X5_who : cr_rc Y_X5_who := ⟨5, _, _, rfl, rfl, rfl⟩
theorem cd_X5_whoOf : Cond.code (cr_nm Y_X5_whoOf) (cr_by Y_X5_whoOf) (cr_ml Y_X5_whoOf) (cr_rt Y_X5_whoOf) ∈ cr_tb := cr_in (i := 850) (by decide +kernel) rfl
theorem cv_X5_whoOf : cr_csV Y_X5_whoOf := ⟨cr_in (i := 849) (by decide +kernel) rfl, cr_in (i := 33) (by decide +kernel) rfl⟩
theorem rc_X5_whoOf : cr_rc Y_X5_whoOf := ⟨5, _, _, rfl, rfl, rfl⟩
theorem cd_X5_why : Cond.code (cr_nm Y_X5_why) (cr_by Y_X5_why) (cr_ml Y_X5_why) (cr_rt Y_X5_why) ∈ cr_tb := cr_in (i := 854) (by decide +kernel) rfl
theorem cv_X5_why : cr_csV Y_X5_why := ⟨cr_in (i := 852) (by decide +kernel) rfl, cr_in (i := 853) (by decide +kernel) rfl⟩
theorem rc_X5_why : cr_rc Y_X5_why := ⟨5, _, _, rfl, rfl, rfl⟩
theorem cd_X5_within : Cond.code (cr_nm Y_X5_within) (cr_by Y_X5_within) (cr_ml Y_X5_within) (cr_rt Y_X5_within) ∈ cr_tb := cr_in (i := 858) (by decide +kernel) rfl
theorem cv_X5_within : cr_csV Y_X5_within := ⟨cr_in (i := 856) (by decide +kernel) rfl, cr_in (i := 857) (by decide +kernel) rfl⟩
theorem rc_X5_within : cr_rc Y_X5_within := ⟨5, _, _, rfl, rfl, rfl⟩
theorem cd_J_bit : Cond.code (cr_nm Y_J_bit) (cr_by Y_J_bit) (cr_ml Y_J_bit) (cr_rt Y_J_bit) ∈ cr_tb := cr_in (i := 421) (by decide +kernel) rfl
theorem st_J_bit : Cond.static (cr_nm Y_J_bit) ∈ cr_tb := cr_in (i := 420) (by decide +kernel) rfl
theorem cm_max : Cond.static Lib.Math.max.name ∈ cr_tb ∧ Cond.initialized "java/lang/Math" ∈ cr_tb ∧ Cond.code Lib.Math.max.name Lib.Math.max.code 2 (some .int) ∈ cr_tb := ⟨cr_in (i := 462) (by decide +kernel) rfl, cr_in (i := 43) (by decide +kernel) rfl, cr_in (i := 463) (by decide +kernel) rfl⟩
theorem cm_min : Cond.static Lib.Math.min.name ∈ cr_tb ∧ Cond.initialized "java/lang/Math" ∈ cr_tb ∧ Cond.code Lib.Math.min.name Lib.Math.min.code 2 (some .int) ∈ cr_tb := ⟨cr_in (i := 452) (by decide +kernel) rfl, cr_in (i := 43) (by decide +kernel) rfl, cr_in (i := 453) (by decide +kernel) rfl⟩
theorem cs_X0_arrive_52 : cr_cs Y_X0_arrive Y_X0_waitAgain 52 2 := ⟨cd_X0_waitAgain, cr_in (i := 292) (by decide +kernel) rfl, cr_in (i := 39) (by decide +kernel) rfl, by decide +kernel, by decide +kernel, by decide +kernel⟩
theorem cs_X0_ringBackDue_52 : cr_cs Y_X0_ringBackDue Y_X0_waitAgain 52 2 := ⟨cd_X0_waitAgain, cr_in (i := 292) (by decide +kernel) rfl, cr_in (i := 39) (by decide +kernel) rfl, by decide +kernel, by decide +kernel, by decide +kernel⟩
theorem cm_X0_nextChange_57 : Cond.methodLink (cr_nm Y_X0_nextChange).cls 57 Lib.Math.min.name ∈ cr_tb := cr_in (i := 459) (by decide +kernel) rfl
theorem cs_X1_copyFrom_36 : cr_cs Y_X1_copyFrom Y_X2_copyFrom 36 1 := ⟨cd_X2_copyFrom, cr_in (i := 472) (by decide +kernel) rfl, cr_in (i := 38) (by decide +kernel) rfl, by decide +kernel, by decide +kernel, by decide +kernel⟩
theorem cs_X1_copyFrom_40 : cr_cs Y_X1_copyFrom Y_X0_copyFrom 40 1 := ⟨cd_X0_copyFrom, cr_in (i := 479) (by decide +kernel) rfl, cr_in (i := 39) (by decide +kernel) rfl, by decide +kernel, by decide +kernel, by decide +kernel⟩
theorem cs_X1_goOn_49 : cr_cs Y_X1_goOn Y_X1_passTick 49 0 := ⟨cd_X1_passTick, cr_in (i := 347) (by decide +kernel) rfl, cr_in (i := 37) (by decide +kernel) rfl, by decide +kernel, by decide +kernel, by decide +kernel⟩
theorem cs_X1_goOn_53 : cr_cs Y_X1_goOn Y_X1_skipQuietTicks 53 1 := ⟨cd_X1_skipQuietTicks, cr_in (i := 438) (by decide +kernel) rfl, cr_in (i := 37) (by decide +kernel) rfl, by decide +kernel, by decide +kernel, by decide +kernel⟩
theorem cm_X1_goOn_57 : Cond.methodLink (cr_nm Y_X1_goOn).cls 57 Lib.Math.max.name ∈ cr_tb := cr_in (i := 461) (by decide +kernel) rfl
theorem cs_X1_ticksTillOn_49 : cr_cs Y_X1_ticksTillOn Y_X1_passTick 49 0 := ⟨cd_X1_passTick, cr_in (i := 347) (by decide +kernel) rfl, cr_in (i := 37) (by decide +kernel) rfl, by decide +kernel, by decide +kernel, by decide +kernel⟩
theorem cs_X1_ticksTillOn_53 : cr_cs Y_X1_ticksTillOn Y_X1_skipQuietTicks 53 1 := ⟨cd_X1_skipQuietTicks, cr_in (i := 438) (by decide +kernel) rfl, cr_in (i := 37) (by decide +kernel) rfl, by decide +kernel, by decide +kernel, by decide +kernel⟩
theorem cm_X1_ticksTillOn_57 : Cond.methodLink (cr_nm Y_X1_ticksTillOn).cls 57 Lib.Math.max.name ∈ cr_tb := cr_in (i := 461) (by decide +kernel) rfl
theorem cs_X1_passTick_66 : cr_cs Y_X1_passTick Y_X2_addBusyTicks 66 1 := ⟨cd_X2_addBusyTicks, cr_in (i := 351) (by decide +kernel) rfl, cr_in (i := 38) (by decide +kernel) rfl, by decide +kernel, by decide +kernel, by decide +kernel⟩
theorem cs_X1_passTick_70 : cr_cs Y_X1_passTick Y_X1_endCalls 70 0 := ⟨cd_X1_endCalls, cr_in (i := 355) (by decide +kernel) rfl, cr_in (i := 37) (by decide +kernel) rfl, by decide +kernel, by decide +kernel, by decide +kernel⟩
theorem cs_X1_passTick_73 : cr_cs Y_X1_passTick Y_X2_endBreaks 73 1 := ⟨cd_X2_endBreaks, cr_in (i := 365) (by decide +kernel) rfl, cr_in (i := 38) (by decide +kernel) rfl, by decide +kernel, by decide +kernel, by decide +kernel⟩
theorem cs_X1_passTick_76 : cr_cs Y_X1_passTick Y_X0_ringBackDue 76 1 := ⟨cd_X0_ringBackDue, cr_in (i := 369) (by decide +kernel) rfl, cr_in (i := 39) (by decide +kernel) rfl, by decide +kernel, by decide +kernel, by decide +kernel⟩
theorem cs_X1_passTick_79 : cr_cs Y_X1_passTick Y_X0_loseImpatient 79 1 := ⟨cd_X0_loseImpatient, cr_in (i := 373) (by decide +kernel) rfl, cr_in (i := 39) (by decide +kernel) rfl, by decide +kernel, by decide +kernel, by decide +kernel⟩
theorem cs_X1_passTick_82 : cr_cs Y_X1_passTick Y_X1_giveAll 82 0 := ⟨cd_X1_giveAll, cr_in (i := 377) (by decide +kernel) rfl, cr_in (i := 37) (by decide +kernel) rfl, by decide +kernel, by decide +kernel, by decide +kernel⟩
theorem cs_X1_skipQuietTicks_85 : cr_cs Y_X1_skipQuietTicks Y_X1_nextChange 85 0 := ⟨cd_X1_nextChange, cr_in (i := 442) (by decide +kernel) rfl, cr_in (i := 37) (by decide +kernel) rfl, by decide +kernel, by decide +kernel, by decide +kernel⟩
theorem cm_X1_skipQuietTicks_88 : Cond.methodLink (cr_nm Y_X1_skipQuietTicks).cls 88 Lib.Math.min.name ∈ cr_tb := cr_in (i := 460) (by decide +kernel) rfl
theorem cm_X1_skipQuietTicks_57 : Cond.methodLink (cr_nm Y_X1_skipQuietTicks).cls 57 Lib.Math.max.name ∈ cr_tb := cr_in (i := 461) (by decide +kernel) rfl
theorem cs_X1_skipQuietTicks_66 : cr_cs Y_X1_skipQuietTicks Y_X2_addBusyTicks 66 1 := ⟨cd_X2_addBusyTicks, cr_in (i := 351) (by decide +kernel) rfl, cr_in (i := 38) (by decide +kernel) rfl, by decide +kernel, by decide +kernel, by decide +kernel⟩
theorem cs_X1_nextChange_91 : cr_cs Y_X1_nextChange Y_X2_nextBreakOver 91 0 := ⟨cd_X2_nextBreakOver, cr_in (i := 446) (by decide +kernel) rfl, cr_in (i := 38) (by decide +kernel) rfl, by decide +kernel, by decide +kernel, by decide +kernel⟩
theorem cs_X1_nextChange_97 : cr_cs Y_X1_nextChange Y_X0_nextChange 97 3 := ⟨cd_X0_nextChange, cr_in (i := 454) (by decide +kernel) rfl, cr_in (i := 39) (by decide +kernel) rfl, by decide +kernel, by decide +kernel, by decide +kernel⟩
theorem cm_X1_nextChange_88 : Cond.methodLink (cr_nm Y_X1_nextChange).cls 88 Lib.Math.min.name ∈ cr_tb := cr_in (i := 460) (by decide +kernel) rfl
theorem cs_X1_endCalls_106 : cr_cs Y_X1_endCalls Y_X1_endWith 106 1 := ⟨cd_X1_endWith, cr_in (i := 359) (by decide +kernel) rfl, cr_in (i := 37) (by decide +kernel) rfl, by decide +kernel, by decide +kernel, by decide +kernel⟩
theorem cs_X1_endWith_109 : cr_cs Y_X1_endWith Y_X2_has 109 1 := ⟨cd_X2_has, cr_in (i := 363) (by decide +kernel) rfl, cr_in (i := 38) (by decide +kernel) rfl, by decide +kernel, by decide +kernel, by decide +kernel⟩
theorem cs_X1_endWith_116 : cr_cs Y_X1_endWith Y_X2_letGo 116 2 := ⟨cd_X2_letGo, cr_in (i := 364) (by decide +kernel) rfl, cr_in (i := 38) (by decide +kernel) rfl, by decide +kernel, by decide +kernel, by decide +kernel⟩
theorem cs_X1_giveAll_120 : cr_cs Y_X1_giveAll Y_X1_nextToGive 120 0 := ⟨cd_X1_nextToGive, cr_in (i := 381) (by decide +kernel) rfl, cr_in (i := 37) (by decide +kernel) rfl, by decide +kernel, by decide +kernel, by decide +kernel⟩
theorem cs_X1_giveAll_123 : cr_cs Y_X1_giveAll Y_X0_has 123 1 := ⟨cd_X0_has, cr_in (i := 405) (by decide +kernel) rfl, cr_in (i := 39) (by decide +kernel) rfl, by decide +kernel, by decide +kernel, by decide +kernel⟩
theorem cs_X1_giveAll_124 : cr_cs Y_X1_giveAll Y_X1_bestHelper 124 1 := ⟨cd_X1_bestHelper, cr_in (i := 406) (by decide +kernel) rfl, cr_in (i := 37) (by decide +kernel) rfl, by decide +kernel, by decide +kernel, by decide +kernel⟩
theorem cs_X1_giveAll_109 : cr_cs Y_X1_giveAll Y_X2_has 109 1 := ⟨cd_X2_has, cr_in (i := 363) (by decide +kernel) rfl, cr_in (i := 38) (by decide +kernel) rfl, by decide +kernel, by decide +kernel, by decide +kernel⟩
theorem cs_X1_giveAll_127 : cr_cs Y_X1_giveAll Y_X1_give 127 2 := ⟨cd_X1_give, cr_in (i := 425) (by decide +kernel) rfl, cr_in (i := 37) (by decide +kernel) rfl, by decide +kernel, by decide +kernel, by decide +kernel⟩
theorem cs_X1_give_136 : cr_cs Y_X1_give Y_X2_gradeFor 136 2 := ⟨cd_X2_gradeFor, cr_in (i := 429) (by decide +kernel) rfl, cr_in (i := 38) (by decide +kernel) rfl, by decide +kernel, by decide +kernel, by decide +kernel⟩
theorem cs_X1_give_139 : cr_cs Y_X1_give Y_X0_start 139 4 := ⟨cd_X0_start, cr_in (i := 430) (by decide +kernel) rfl, cr_in (i := 39) (by decide +kernel) rfl, by decide +kernel, by decide +kernel, by decide +kernel⟩
theorem cs_X1_give_146 : cr_cs Y_X1_give Y_X2_take 146 3 := ⟨cd_X2_take, cr_in (i := 434) (by decide +kernel) rfl, cr_in (i := 38) (by decide +kernel) rfl, by decide +kernel, by decide +kernel, by decide +kernel⟩
theorem cs_X1_nextToGive_150 : cr_cs Y_X1_nextToGive Y_X1_countTakers 150 0 := ⟨cd_X1_countTakers, cr_in (i := 385) (by decide +kernel) rfl, cr_in (i := 37) (by decide +kernel) rfl, by decide +kernel, by decide +kernel, by decide +kernel⟩
theorem cs_X1_nextToGive_153 : cr_cs Y_X1_nextToGive Y_X1_isTakeable 153 1 := ⟨cd_X1_isTakeable, cr_in (i := 393) (by decide +kernel) rfl, cr_in (i := 37) (by decide +kernel) rfl, by decide +kernel, by decide +kernel, by decide +kernel⟩
theorem cs_X1_nextToGive_156 : cr_cs Y_X1_nextToGive Y_X1_rankOf 156 1 := ⟨cd_X1_rankOf, cr_in (i := 401) (by decide +kernel) rfl, cr_in (i := 37) (by decide +kernel) rfl, by decide +kernel, by decide +kernel, by decide +kernel⟩
theorem cs_X1_countTakers_166 : cr_cs Y_X1_countTakers Y_X2_canTake 166 3 := ⟨cd_X2_canTake, cr_in (i := 389) (by decide +kernel) rfl, cr_in (i := 38) (by decide +kernel) rfl, by decide +kernel, by decide +kernel, by decide +kernel⟩
theorem cs_X1_isTakeable_170 : cr_cs Y_X1_isTakeable Y_X1_isKeptForOwn 170 1 := ⟨cd_X1_isKeptForOwn, cr_in (i := 397) (by decide +kernel) rfl, cr_in (i := 37) (by decide +kernel) rfl, by decide +kernel, by decide +kernel, by decide +kernel⟩
theorem cs_X1_isTakeable_166 : cr_cs Y_X1_isTakeable Y_X2_canTake 166 3 := ⟨cd_X2_canTake, cr_in (i := 389) (by decide +kernel) rfl, cr_in (i := 38) (by decide +kernel) rfl, by decide +kernel, by decide +kernel, by decide +kernel⟩
theorem cs_X1_bestHelper_166 : cr_cs Y_X1_bestHelper Y_X2_canTake 166 3 := ⟨cd_X2_canTake, cr_in (i := 389) (by decide +kernel) rfl, cr_in (i := 38) (by decide +kernel) rfl, by decide +kernel, by decide +kernel, by decide +kernel⟩
theorem cs_X1_bestHelper_170 : cr_cs Y_X1_bestHelper Y_X1_isKeptForOwn 170 1 := ⟨cd_X1_isKeptForOwn, cr_in (i := 397) (by decide +kernel) rfl, cr_in (i := 37) (by decide +kernel) rfl, by decide +kernel, by decide +kernel, by decide +kernel⟩
theorem cs_X1_bestHelper_176 : cr_cs Y_X1_bestHelper Y_X2_isBetter 176 3 := ⟨cd_X2_isBetter, cr_in (i := 410) (by decide +kernel) rfl, cr_in (i := 38) (by decide +kernel) rfl, by decide +kernel, by decide +kernel, by decide +kernel⟩
theorem cs_X1_hindrance_180 : cr_cs Y_X1_hindrance Y_X2_someInHasGrade 180 1 := ⟨cd_X2_someInHasGrade, cr_in (i := 505) (by decide +kernel) rfl, cr_in (i := 38) (by decide +kernel) rfl, by decide +kernel, by decide +kernel, by decide +kernel⟩
theorem cs_X1_hindrance_183 : cr_cs Y_X1_hindrance Y_X2_someCanTake 183 2 := ⟨cd_X2_someCanTake, cr_in (i := 509) (by decide +kernel) rfl, cr_in (i := 38) (by decide +kernel) rfl, by decide +kernel, by decide +kernel, by decide +kernel⟩
theorem cs_X1_hindrance_170 : cr_cs Y_X1_hindrance Y_X1_isKeptForOwn 170 1 := ⟨cd_X1_isKeptForOwn, cr_in (i := 397) (by decide +kernel) rfl, cr_in (i := 37) (by decide +kernel) rfl, by decide +kernel, by decide +kernel, by decide +kernel⟩
theorem cs_X1_hindrance_166 : cr_cs Y_X1_hindrance Y_X2_canTake 166 3 := ⟨cd_X2_canTake, cr_in (i := 389) (by decide +kernel) rfl, cr_in (i := 38) (by decide +kernel) rfl, by decide +kernel, by decide +kernel, by decide +kernel⟩
theorem cs_X2_sortsOf_40 : cr_cs Y_X2_sortsOf Y_J_bit 40 1 := ⟨cd_J_bit, cr_in (i := 419) (by decide +kernel) rfl, cr_in (i := 42) (by decide +kernel) rfl, by decide +kernel, by decide +kernel, by decide +kernel⟩
theorem cs_X2_someCanTake_46 : cr_cs Y_X2_someCanTake Y_X2_canTake 46 3 := ⟨cd_X2_canTake, cr_in (i := 513) (by decide +kernel) rfl, cr_in (i := 38) (by decide +kernel) rfl, by decide +kernel, by decide +kernel, by decide +kernel⟩
theorem cs_X2_someInHasGrade_50 : cr_cs Y_X2_someInHasGrade Y_X2_gradeFor 50 2 := ⟨cd_X2_gradeFor, cr_in (i := 414) (by decide +kernel) rfl, cr_in (i := 38) (by decide +kernel) rfl, by decide +kernel, by decide +kernel, by decide +kernel⟩
theorem cs_X2_isBetter_50 : cr_cs Y_X2_isBetter Y_X2_gradeFor 50 2 := ⟨cd_X2_gradeFor, cr_in (i := 414) (by decide +kernel) rfl, cr_in (i := 38) (by decide +kernel) rfl, by decide +kernel, by decide +kernel, by decide +kernel⟩
theorem cs_X2_isBetter_54 : cr_cs Y_X2_isBetter Y_X2_sortsOf 54 1 := ⟨cd_X2_sortsOf, cr_in (i := 415) (by decide +kernel) rfl, cr_in (i := 38) (by decide +kernel) rfl, by decide +kernel, by decide +kernel, by decide +kernel⟩
theorem cs_X2_take_57 : cr_cs Y_X2_take Y_X2_become 57 3 := ⟨cd_X2_become, cr_in (i := 330) (by decide +kernel) rfl, cr_in (i := 38) (by decide +kernel) rfl, by decide +kernel, by decide +kernel, by decide +kernel⟩
theorem cs_X2_letGo_61 : cr_cs Y_X2_letGo Y_X2_has 61 1 := ⟨cd_X2_has, cr_in (i := 329) (by decide +kernel) rfl, cr_in (i := 38) (by decide +kernel) rfl, by decide +kernel, by decide +kernel, by decide +kernel⟩
theorem cs_X2_letGo_57 : cr_cs Y_X2_letGo Y_X2_become 57 3 := ⟨cd_X2_become, cr_in (i := 330) (by decide +kernel) rfl, cr_in (i := 38) (by decide +kernel) rfl, by decide +kernel, by decide +kernel, by decide +kernel⟩
theorem cs_X2_endBreaks_57 : cr_cs Y_X2_endBreaks Y_X2_become 57 3 := ⟨cd_X2_become, cr_in (i := 330) (by decide +kernel) rfl, cr_in (i := 38) (by decide +kernel) rfl, by decide +kernel, by decide +kernel, by decide +kernel⟩
theorem cm_X2_nextBreakOver_66 : Cond.methodLink (cr_nm Y_X2_nextBreakOver).cls 66 Lib.Math.min.name ∈ cr_tb := cr_in (i := 451) (by decide +kernel) rfl
theorem cm_X3_plan_18 : Cond.methodLink (cr_nm Y_X3_plan).cls 18 Lib.Math.max.name ∈ cr_tb := cr_in (i := 551) (by decide +kernel) rfl
theorem cm_X3_plan_24 : Cond.methodLink (cr_nm Y_X3_plan).cls 24 Lib.Math.min.name ∈ cr_tb := cr_in (i := 552) (by decide +kernel) rfl
theorem cs_X4_helper_30 : cr_cs Y_X4_helper Y_X4_refuse 30 1 := ⟨cd_X4_refuse, cr_in (i := 230) (by decide +kernel) rfl, cr_in (i := 36) (by decide +kernel) rfl, by decide +kernel, by decide +kernel, by decide +kernel⟩
theorem cs_X4_helper_47 : cr_cs Y_X4_helper Y_X2_add 47 2 := ⟨cd_X2_add, cr_in (i := 234) (by decide +kernel) rfl, cr_in (i := 38) (by decide +kernel) rfl, by decide +kernel, by decide +kernel, by decide +kernel⟩
theorem cs_X4_grade_51 : cr_cs Y_X4_grade Y_X2_has 51 1 := ⟨cd_X2_has, cr_in (i := 242) (by decide +kernel) rfl, cr_in (i := 38) (by decide +kernel) rfl, by decide +kernel, by decide +kernel, by decide +kernel⟩
theorem cs_X4_grade_55 : cr_cs Y_X4_grade Y_X4_isSort 55 1 := ⟨cd_X4_isSort, cr_in (i := 246) (by decide +kernel) rfl, cr_in (i := 36) (by decide +kernel) rfl, by decide +kernel, by decide +kernel, by decide +kernel⟩
theorem cs_X4_grade_30 : cr_cs Y_X4_grade Y_X4_refuse 30 1 := ⟨cd_X4_refuse, cr_in (i := 230) (by decide +kernel) rfl, cr_in (i := 36) (by decide +kernel) rfl, by decide +kernel, by decide +kernel, by decide +kernel⟩
theorem cs_X4_grade_58 : cr_cs Y_X4_grade Y_X4_outside 58 3 := ⟨cd_X4_outside, cr_in (i := 249) (by decide +kernel) rfl, cr_in (i := 36) (by decide +kernel) rfl, by decide +kernel, by decide +kernel, by decide +kernel⟩
theorem cs_X4_grade_62 : cr_cs Y_X4_grade Y_X2_gradeFor 62 2 := ⟨cd_X2_gradeFor, cr_in (i := 252) (by decide +kernel) rfl, cr_in (i := 38) (by decide +kernel) rfl, by decide +kernel, by decide +kernel, by decide +kernel⟩
theorem cs_X4_grade_65 : cr_cs Y_X4_grade Y_X2_setGrade 65 3 := ⟨cd_X2_setGrade, cr_in (i := 256) (by decide +kernel) rfl, cr_in (i := 38) (by decide +kernel) rfl, by decide +kernel, by decide +kernel, by decide +kernel⟩
theorem cs_X4_duty_51 : cr_cs Y_X4_duty Y_X2_has 51 1 := ⟨cd_X2_has, cr_in (i := 242) (by decide +kernel) rfl, cr_in (i := 38) (by decide +kernel) rfl, by decide +kernel, by decide +kernel, by decide +kernel⟩
theorem cs_X4_duty_30 : cr_cs Y_X4_duty Y_X4_refuse 30 1 := ⟨cd_X4_refuse, cr_in (i := 230) (by decide +kernel) rfl, cr_in (i := 36) (by decide +kernel) rfl, by decide +kernel, by decide +kernel, by decide +kernel⟩
theorem cs_X4_duty_72 : cr_cs Y_X4_duty Y_X2_become 72 3 := ⟨cd_X2_become, cr_in (i := 264) (by decide +kernel) rfl, cr_in (i := 38) (by decide +kernel) rfl, by decide +kernel, by decide +kernel, by decide +kernel⟩
theorem cs_X4_out_51 : cr_cs Y_X4_out Y_X2_has 51 1 := ⟨cd_X2_has, cr_in (i := 242) (by decide +kernel) rfl, cr_in (i := 38) (by decide +kernel) rfl, by decide +kernel, by decide +kernel, by decide +kernel⟩
theorem cs_X4_out_30 : cr_cs Y_X4_out Y_X4_refuse 30 1 := ⟨cd_X4_refuse, cr_in (i := 230) (by decide +kernel) rfl, cr_in (i := 36) (by decide +kernel) rfl, by decide +kernel, by decide +kernel, by decide +kernel⟩
theorem cs_X4_out_72 : cr_cs Y_X4_out Y_X2_become 72 3 := ⟨cd_X2_become, cr_in (i := 264) (by decide +kernel) rfl, cr_in (i := 38) (by decide +kernel) rfl, by decide +kernel, by decide +kernel, by decide +kernel⟩
theorem cs_X4_pause_51 : cr_cs Y_X4_pause Y_X2_has 51 1 := ⟨cd_X2_has, cr_in (i := 242) (by decide +kernel) rfl, cr_in (i := 38) (by decide +kernel) rfl, by decide +kernel, by decide +kernel, by decide +kernel⟩
theorem cs_X4_pause_30 : cr_cs Y_X4_pause Y_X4_refuse 30 1 := ⟨cd_X4_refuse, cr_in (i := 230) (by decide +kernel) rfl, cr_in (i := 36) (by decide +kernel) rfl, by decide +kernel, by decide +kernel, by decide +kernel⟩
theorem cs_X4_pause_58 : cr_cs Y_X4_pause Y_X4_outside 58 3 := ⟨cd_X4_outside, cr_in (i := 249) (by decide +kernel) rfl, cr_in (i := 36) (by decide +kernel) rfl, by decide +kernel, by decide +kernel, by decide +kernel⟩
theorem cs_X4_pause_72 : cr_cs Y_X4_pause Y_X2_become 72 3 := ⟨cd_X2_become, cr_in (i := 264) (by decide +kernel) rfl, cr_in (i := 38) (by decide +kernel) rfl, by decide +kernel, by decide +kernel, by decide +kernel⟩
theorem cs_X4_call_51 : cr_cs Y_X4_call Y_X2_has 51 1 := ⟨cd_X2_has, cr_in (i := 242) (by decide +kernel) rfl, cr_in (i := 38) (by decide +kernel) rfl, by decide +kernel, by decide +kernel, by decide +kernel⟩
theorem cs_X4_call_55 : cr_cs Y_X4_call Y_X4_isSort 55 1 := ⟨cd_X4_isSort, cr_in (i := 246) (by decide +kernel) rfl, cr_in (i := 36) (by decide +kernel) rfl, by decide +kernel, by decide +kernel, by decide +kernel⟩
theorem cs_X4_call_30 : cr_cs Y_X4_call Y_X4_refuse 30 1 := ⟨cd_X4_refuse, cr_in (i := 230) (by decide +kernel) rfl, cr_in (i := 36) (by decide +kernel) rfl, by decide +kernel, by decide +kernel, by decide +kernel⟩
theorem cs_X4_call_85 : cr_cs Y_X4_call Y_X0_add 85 2 := ⟨cd_X0_add, cr_in (i := 280) (by decide +kernel) rfl, cr_in (i := 39) (by decide +kernel) rfl, by decide +kernel, by decide +kernel, by decide +kernel⟩
theorem cs_X4_call_86 : cr_cs Y_X4_call Y_X0_describe 86 4 := ⟨cd_X0_describe, cr_in (i := 284) (by decide +kernel) rfl, cr_in (i := 39) (by decide +kernel) rfl, by decide +kernel, by decide +kernel, by decide +kernel⟩
theorem cs_X4_call_90 : cr_cs Y_X4_call Y_X0_arrive 90 2 := ⟨cd_X0_arrive, cr_in (i := 288) (by decide +kernel) rfl, cr_in (i := 39) (by decide +kernel) rfl, by decide +kernel, by decide +kernel, by decide +kernel⟩
theorem cs_X4_rule_30 : cr_cs Y_X4_rule Y_X4_refuse 30 1 := ⟨cd_X4_refuse, cr_in (i := 230) (by decide +kernel) rfl, cr_in (i := 36) (by decide +kernel) rfl, by decide +kernel, by decide +kernel, by decide +kernel⟩
theorem cs_X4_prefer_58 : cr_cs Y_X4_prefer Y_X4_outside 58 3 := ⟨cd_X4_outside, cr_in (i := 249) (by decide +kernel) rfl, cr_in (i := 36) (by decide +kernel) rfl, by decide +kernel, by decide +kernel, by decide +kernel⟩
theorem cs_X4_prefer_30 : cr_cs Y_X4_prefer Y_X4_refuse 30 1 := ⟨cd_X4_refuse, cr_in (i := 230) (by decide +kernel) rfl, cr_in (i := 36) (by decide +kernel) rfl, by decide +kernel, by decide +kernel, by decide +kernel⟩
theorem cs_X4_ring_100 : cr_cs Y_X4_ring Y_X4_notWaiting 100 1 := ⟨cd_X4_notWaiting, cr_in (i := 308) (by decide +kernel) rfl, cr_in (i := 36) (by decide +kernel) rfl, by decide +kernel, by decide +kernel, by decide +kernel⟩
theorem cs_X4_ring_58 : cr_cs Y_X4_ring Y_X4_outside 58 3 := ⟨cd_X4_outside, cr_in (i := 249) (by decide +kernel) rfl, cr_in (i := 36) (by decide +kernel) rfl, by decide +kernel, by decide +kernel, by decide +kernel⟩
theorem cs_X4_ring_30 : cr_cs Y_X4_ring Y_X4_refuse 30 1 := ⟨cd_X4_refuse, cr_in (i := 230) (by decide +kernel) rfl, cr_in (i := 36) (by decide +kernel) rfl, by decide +kernel, by decide +kernel, by decide +kernel⟩
theorem cs_X4_ring_103 : cr_cs Y_X4_ring Y_X0_putBack 103 2 := ⟨cd_X0_putBack, cr_in (i := 316) (by decide +kernel) rfl, cr_in (i := 39) (by decide +kernel) rfl, by decide +kernel, by decide +kernel, by decide +kernel⟩
theorem cs_X4_pass_106 : cr_cs Y_X4_pass Y_X0_has 106 1 := ⟨cd_X0_has, cr_in (i := 312) (by decide +kernel) rfl, cr_in (i := 39) (by decide +kernel) rfl, by decide +kernel, by decide +kernel, by decide +kernel⟩
theorem cs_X4_pass_55 : cr_cs Y_X4_pass Y_X4_isSort 55 1 := ⟨cd_X4_isSort, cr_in (i := 246) (by decide +kernel) rfl, cr_in (i := 36) (by decide +kernel) rfl, by decide +kernel, by decide +kernel, by decide +kernel⟩
theorem cs_X4_pass_30 : cr_cs Y_X4_pass Y_X4_refuse 30 1 := ⟨cd_X4_refuse, cr_in (i := 230) (by decide +kernel) rfl, cr_in (i := 36) (by decide +kernel) rfl, by decide +kernel, by decide +kernel, by decide +kernel⟩
theorem cs_X4_pass_58 : cr_cs Y_X4_pass Y_X4_outside 58 3 := ⟨cd_X4_outside, cr_in (i := 249) (by decide +kernel) rfl, cr_in (i := 36) (by decide +kernel) rfl, by decide +kernel, by decide +kernel, by decide +kernel⟩
theorem cs_X4_pass_86 : cr_cs Y_X4_pass Y_X0_describe 86 4 := ⟨cd_X0_describe, cr_in (i := 284) (by decide +kernel) rfl, cr_in (i := 39) (by decide +kernel) rfl, by decide +kernel, by decide +kernel, by decide +kernel⟩
theorem cs_X4_pass_114 : cr_cs Y_X4_pass Y_X0_waitAgain 114 2 := ⟨cd_X0_waitAgain, cr_in (i := 324) (by decide +kernel) rfl, cr_in (i := 39) (by decide +kernel) rfl, by decide +kernel, by decide +kernel, by decide +kernel⟩
theorem cs_X4_pass_117 : cr_cs Y_X4_pass Y_X2_letGo 117 2 := ⟨cd_X2_letGo, cr_in (i := 325) (by decide +kernel) rfl, cr_in (i := 38) (by decide +kernel) rfl, by decide +kernel, by decide +kernel, by decide +kernel⟩
theorem cs_X4_leave_106 : cr_cs Y_X4_leave Y_X0_has 106 1 := ⟨cd_X0_has, cr_in (i := 312) (by decide +kernel) rfl, cr_in (i := 39) (by decide +kernel) rfl, by decide +kernel, by decide +kernel, by decide +kernel⟩
theorem cs_X4_leave_30 : cr_cs Y_X4_leave Y_X4_refuse 30 1 := ⟨cd_X4_refuse, cr_in (i := 230) (by decide +kernel) rfl, cr_in (i := 36) (by decide +kernel) rfl, by decide +kernel, by decide +kernel, by decide +kernel⟩
theorem cs_X4_urge_100 : cr_cs Y_X4_urge Y_X4_notWaiting 100 1 := ⟨cd_X4_notWaiting, cr_in (i := 308) (by decide +kernel) rfl, cr_in (i := 36) (by decide +kernel) rfl, by decide +kernel, by decide +kernel, by decide +kernel⟩
theorem cs_X4_urge_30 : cr_cs Y_X4_urge Y_X4_refuse 30 1 := ⟨cd_X4_refuse, cr_in (i := 230) (by decide +kernel) rfl, cr_in (i := 36) (by decide +kernel) rfl, by decide +kernel, by decide +kernel, by decide +kernel⟩
theorem cs_X4_ticks_58 : cr_cs Y_X4_ticks Y_X4_outside 58 3 := ⟨cd_X4_outside, cr_in (i := 249) (by decide +kernel) rfl, cr_in (i := 36) (by decide +kernel) rfl, by decide +kernel, by decide +kernel, by decide +kernel⟩
theorem cs_X4_ticks_30 : cr_cs Y_X4_ticks Y_X4_refuse 30 1 := ⟨cd_X4_refuse, cr_in (i := 230) (by decide +kernel) rfl, cr_in (i := 36) (by decide +kernel) rfl, by decide +kernel, by decide +kernel, by decide +kernel⟩
theorem cs_X4_ticks_126 : cr_cs Y_X4_ticks Y_X1_goOn 126 1 := ⟨cd_X1_goOn, cr_in (i := 343) (by decide +kernel) rfl, cr_in (i := 37) (by decide +kernel) rfl, by decide +kernel, by decide +kernel, by decide +kernel⟩
theorem cs_X4_wait_100 : cr_cs Y_X4_wait Y_X4_notWaiting 100 1 := ⟨cd_X4_notWaiting, cr_in (i := 308) (by decide +kernel) rfl, cr_in (i := 36) (by decide +kernel) rfl, by decide +kernel, by decide +kernel, by decide +kernel⟩
theorem cs_X4_wait_30 : cr_cs Y_X4_wait Y_X4_refuse 30 1 := ⟨cd_X4_refuse, cr_in (i := 230) (by decide +kernel) rfl, cr_in (i := 36) (by decide +kernel) rfl, by decide +kernel, by decide +kernel, by decide +kernel⟩
theorem cs_X4_wait_129 : cr_cs Y_X4_wait Y_X1_copyFrom 129 1 := ⟨cd_X1_copyFrom, cr_in (i := 468) (by decide +kernel) rfl, cr_in (i := 37) (by decide +kernel) rfl, by decide +kernel, by decide +kernel, by decide +kernel⟩
theorem cs_X4_wait_133 : cr_cs Y_X4_wait Y_X1_ticksTillOn 133 1 := ⟨cd_X1_ticksTillOn, cr_in (i := 484) (by decide +kernel) rfl, cr_in (i := 37) (by decide +kernel) rfl, by decide +kernel, by decide +kernel, by decide +kernel⟩
theorem cs_X4_who_100 : cr_cs Y_X4_who Y_X4_notWaiting 100 1 := ⟨cd_X4_notWaiting, cr_in (i := 308) (by decide +kernel) rfl, cr_in (i := 36) (by decide +kernel) rfl, by decide +kernel, by decide +kernel, by decide +kernel⟩
theorem cs_X4_who_30 : cr_cs Y_X4_who Y_X4_refuse 30 1 := ⟨cd_X4_refuse, cr_in (i := 230) (by decide +kernel) rfl, cr_in (i := 36) (by decide +kernel) rfl, by decide +kernel, by decide +kernel, by decide +kernel⟩
theorem cs_X4_who_136 : cr_cs Y_X4_who Y_X4_helperIfGivenNow 136 1 := ⟨cd_X4_helperIfGivenNow, cr_in (i := 492) (by decide +kernel) rfl, cr_in (i := 36) (by decide +kernel) rfl, by decide +kernel, by decide +kernel, by decide +kernel⟩
theorem cs_X4_why_100 : cr_cs Y_X4_why Y_X4_notWaiting 100 1 := ⟨cd_X4_notWaiting, cr_in (i := 308) (by decide +kernel) rfl, cr_in (i := 36) (by decide +kernel) rfl, by decide +kernel, by decide +kernel, by decide +kernel⟩
theorem cs_X4_why_30 : cr_cs Y_X4_why Y_X4_refuse 30 1 := ⟨cd_X4_refuse, cr_in (i := 230) (by decide +kernel) rfl, cr_in (i := 36) (by decide +kernel) rfl, by decide +kernel, by decide +kernel, by decide +kernel⟩
theorem cs_X4_why_136 : cr_cs Y_X4_why Y_X4_helperIfGivenNow 136 1 := ⟨cd_X4_helperIfGivenNow, cr_in (i := 492) (by decide +kernel) rfl, cr_in (i := 36) (by decide +kernel) rfl, by decide +kernel, by decide +kernel, by decide +kernel⟩
theorem cs_X4_why_139 : cr_cs Y_X4_why Y_X1_hindrance 139 1 := ⟨cd_X1_hindrance, cr_in (i := 501) (by decide +kernel) rfl, cr_in (i := 37) (by decide +kernel) rfl, by decide +kernel, by decide +kernel, by decide +kernel⟩
theorem cs_X4_within_30 : cr_cs Y_X4_within Y_X4_refuse 30 1 := ⟨cd_X4_refuse, cr_in (i := 230) (by decide +kernel) rfl, cr_in (i := 36) (by decide +kernel) rfl, by decide +kernel, by decide +kernel, by decide +kernel⟩
theorem cs_X4_within_142 : cr_cs Y_X4_within Y_X0_givenWithin 142 1 := ⟨cd_X0_givenWithin, cr_in (i := 518) (by decide +kernel) rfl, cr_in (i := 39) (by decide +kernel) rfl, by decide +kernel, by decide +kernel, by decide +kernel⟩
theorem cs_X4_loss_30 : cr_cs Y_X4_loss Y_X4_refuse 30 1 := ⟨cd_X4_refuse, cr_in (i := 230) (by decide +kernel) rfl, cr_in (i := 36) (by decide +kernel) rfl, by decide +kernel, by decide +kernel, by decide +kernel⟩
theorem cs_X4_loss_147 : cr_cs Y_X4_loss Y_X4_lossWithOneMore 147 3 := ⟨cd_X4_lossWithOneMore, cr_in (i := 527) (by decide +kernel) rfl, cr_in (i := 36) (by decide +kernel) rfl, by decide +kernel, by decide +kernel, by decide +kernel⟩
theorem cs_X4_wanted_30 : cr_cs Y_X4_wanted Y_X4_refuse 30 1 := ⟨cd_X4_refuse, cr_in (i := 230) (by decide +kernel) rfl, cr_in (i := 36) (by decide +kernel) rfl, by decide +kernel, by decide +kernel, by decide +kernel⟩
theorem cs_X4_wanted_147 : cr_cs Y_X4_wanted Y_X4_lossWithOneMore 147 3 := ⟨cd_X4_lossWithOneMore, cr_in (i := 527) (by decide +kernel) rfl, cr_in (i := 36) (by decide +kernel) rfl, by decide +kernel, by decide +kernel, by decide +kernel⟩
theorem cs_X4_want_152 : cr_cs Y_X4_want Y_X4_isQuarter 152 1 := ⟨cd_X4_isQuarter, cr_in (i := 540) (by decide +kernel) rfl, cr_in (i := 36) (by decide +kernel) rfl, by decide +kernel, by decide +kernel, by decide +kernel⟩
theorem cs_X4_want_30 : cr_cs Y_X4_want Y_X4_refuse 30 1 := ⟨cd_X4_refuse, cr_in (i := 230) (by decide +kernel) rfl, cr_in (i := 36) (by decide +kernel) rfl, by decide +kernel, by decide +kernel, by decide +kernel⟩
theorem cs_X4_want_58 : cr_cs Y_X4_want Y_X4_outside 58 3 := ⟨cd_X4_outside, cr_in (i := 249) (by decide +kernel) rfl, cr_in (i := 36) (by decide +kernel) rfl, by decide +kernel, by decide +kernel, by decide +kernel⟩
theorem cs_X4_cover_58 : cr_cs Y_X4_cover Y_X4_outside 58 3 := ⟨cd_X4_outside, cr_in (i := 249) (by decide +kernel) rfl, cr_in (i := 36) (by decide +kernel) rfl, by decide +kernel, by decide +kernel, by decide +kernel⟩
theorem cs_X4_cover_30 : cr_cs Y_X4_cover Y_X4_refuse 30 1 := ⟨cd_X4_refuse, cr_in (i := 230) (by decide +kernel) rfl, cr_in (i := 36) (by decide +kernel) rfl, by decide +kernel, by decide +kernel, by decide +kernel⟩
theorem cs_X4_cover_158 : cr_cs Y_X4_cover Y_X3_plan 158 1 := ⟨cd_X3_plan, cr_in (i := 547) (by decide +kernel) rfl, cr_in (i := 40) (by decide +kernel) rfl, by decide +kernel, by decide +kernel, by decide +kernel⟩
theorem cs_X4_begins_152 : cr_cs Y_X4_begins Y_X4_isQuarter 152 1 := ⟨cd_X4_isQuarter, cr_in (i := 540) (by decide +kernel) rfl, cr_in (i := 36) (by decide +kernel) rfl, by decide +kernel, by decide +kernel, by decide +kernel⟩
theorem cs_X4_begins_30 : cr_cs Y_X4_begins Y_X4_refuse 30 1 := ⟨cd_X4_refuse, cr_in (i := 230) (by decide +kernel) rfl, cr_in (i := 36) (by decide +kernel) rfl, by decide +kernel, by decide +kernel, by decide +kernel⟩
theorem cs_X4_helperOf_51 : cr_cs Y_X4_helperOf Y_X2_has 51 1 := ⟨cd_X2_has, cr_in (i := 242) (by decide +kernel) rfl, cr_in (i := 38) (by decide +kernel) rfl, by decide +kernel, by decide +kernel, by decide +kernel⟩
theorem cs_X4_helperOf_30 : cr_cs Y_X4_helperOf Y_X4_refuse 30 1 := ⟨cd_X4_refuse, cr_in (i := 230) (by decide +kernel) rfl, cr_in (i := 36) (by decide +kernel) rfl, by decide +kernel, by decide +kernel, by decide +kernel⟩
theorem cs_X4_helperOf_167 : cr_cs Y_X4_helperOf Y_X0_firstWith 167 1 := ⟨cd_X0_firstWith, cr_in (i := 561) (by decide +kernel) rfl, cr_in (i := 39) (by decide +kernel) rfl, by decide +kernel, by decide +kernel, by decide +kernel⟩
theorem cs_X4_helperOf_62 : cr_cs Y_X4_helperOf Y_X2_gradeFor 62 2 := ⟨cd_X2_gradeFor, cr_in (i := 252) (by decide +kernel) rfl, cr_in (i := 38) (by decide +kernel) rfl, by decide +kernel, by decide +kernel, by decide +kernel⟩
theorem cs_X4_callOf_106 : cr_cs Y_X4_callOf Y_X0_has 106 1 := ⟨cd_X0_has, cr_in (i := 312) (by decide +kernel) rfl, cr_in (i := 39) (by decide +kernel) rfl, by decide +kernel, by decide +kernel, by decide +kernel⟩
theorem cs_X4_callOf_30 : cr_cs Y_X4_callOf Y_X4_refuse 30 1 := ⟨cd_X4_refuse, cr_in (i := 230) (by decide +kernel) rfl, cr_in (i := 36) (by decide +kernel) rfl, by decide +kernel, by decide +kernel, by decide +kernel⟩
theorem cs_X4_count_195 : cr_cs Y_X4_count Y_X0_countDoing 195 1 := ⟨cd_X0_countDoing, cr_in (i := 573) (by decide +kernel) rfl, cr_in (i := 39) (by decide +kernel) rfl, by decide +kernel, by decide +kernel, by decide +kernel⟩
theorem cs_X4_count_198 : cr_cs Y_X4_count Y_X2_countFree 198 0 := ⟨cd_X2_countFree, cr_in (i := 577) (by decide +kernel) rfl, cr_in (i := 38) (by decide +kernel) rfl, by decide +kernel, by decide +kernel, by decide +kernel⟩
theorem cs_X4_notWaiting_106 : cr_cs Y_X4_notWaiting Y_X0_has 106 1 := ⟨cd_X0_has, cr_in (i := 312) (by decide +kernel) rfl, cr_in (i := 39) (by decide +kernel) rfl, by decide +kernel, by decide +kernel, by decide +kernel⟩
theorem cs_X4_helperIfGivenNow_129 : cr_cs Y_X4_helperIfGivenNow Y_X1_copyFrom 129 1 := ⟨cd_X1_copyFrom, cr_in (i := 468) (by decide +kernel) rfl, cr_in (i := 37) (by decide +kernel) rfl, by decide +kernel, by decide +kernel, by decide +kernel⟩
theorem cs_X4_helperIfGivenNow_202 : cr_cs Y_X4_helperIfGivenNow Y_X1_giveAll 202 0 := ⟨cd_X1_giveAll, cr_in (i := 496) (by decide +kernel) rfl, cr_in (i := 37) (by decide +kernel) rfl, by decide +kernel, by decide +kernel, by decide +kernel⟩
theorem cs_X5_helper_120 : cr_cs Y_X5_helper Y_X5_refuse 120 1 := ⟨cd_X5_refuse, cr_in (i := 716) (by decide +kernel) rfl, cr_in (i := 41) (by decide +kernel) rfl, by decide +kernel, by decide +kernel, by decide +kernel⟩
theorem cs_X5_grade_130 : cr_cs Y_X5_grade Y_X5_isIn 130 2 := ⟨cd_X5_isIn, cr_in (i := 724) (by decide +kernel) rfl, cr_in (i := 41) (by decide +kernel) rfl, by decide +kernel, by decide +kernel, by decide +kernel⟩
theorem cs_X5_grade_120 : cr_cs Y_X5_grade Y_X5_refuse 120 1 := ⟨cd_X5_refuse, cr_in (i := 716) (by decide +kernel) rfl, cr_in (i := 41) (by decide +kernel) rfl, by decide +kernel, by decide +kernel, by decide +kernel⟩
theorem cs_X5_grade_134 : cr_cs Y_X5_grade Y_X5_gradeOf 134 2 := ⟨cd_X5_gradeOf, cr_in (i := 727) (by decide +kernel) rfl, cr_in (i := 41) (by decide +kernel) rfl, by decide +kernel, by decide +kernel, by decide +kernel⟩
theorem cs_X5_duty_130 : cr_cs Y_X5_duty Y_X5_isIn 130 2 := ⟨cd_X5_isIn, cr_in (i := 724) (by decide +kernel) rfl, cr_in (i := 41) (by decide +kernel) rfl, by decide +kernel, by decide +kernel, by decide +kernel⟩
theorem cs_X5_duty_120 : cr_cs Y_X5_duty Y_X5_refuse 120 1 := ⟨cd_X5_refuse, cr_in (i := 716) (by decide +kernel) rfl, cr_in (i := 41) (by decide +kernel) rfl, by decide +kernel, by decide +kernel, by decide +kernel⟩
theorem cs_X5_duty_138 : cr_cs Y_X5_duty Y_X5_becomes 138 2 := ⟨cd_X5_becomes, cr_in (i := 735) (by decide +kernel) rfl, cr_in (i := 41) (by decide +kernel) rfl, by decide +kernel, by decide +kernel, by decide +kernel⟩
theorem cs_X5_out_130 : cr_cs Y_X5_out Y_X5_isIn 130 2 := ⟨cd_X5_isIn, cr_in (i := 724) (by decide +kernel) rfl, cr_in (i := 41) (by decide +kernel) rfl, by decide +kernel, by decide +kernel, by decide +kernel⟩
theorem cs_X5_out_120 : cr_cs Y_X5_out Y_X5_refuse 120 1 := ⟨cd_X5_refuse, cr_in (i := 716) (by decide +kernel) rfl, cr_in (i := 41) (by decide +kernel) rfl, by decide +kernel, by decide +kernel, by decide +kernel⟩
theorem cs_X5_out_138 : cr_cs Y_X5_out Y_X5_becomes 138 2 := ⟨cd_X5_becomes, cr_in (i := 735) (by decide +kernel) rfl, cr_in (i := 41) (by decide +kernel) rfl, by decide +kernel, by decide +kernel, by decide +kernel⟩
theorem cs_X5_pause_130 : cr_cs Y_X5_pause Y_X5_isIn 130 2 := ⟨cd_X5_isIn, cr_in (i := 724) (by decide +kernel) rfl, cr_in (i := 41) (by decide +kernel) rfl, by decide +kernel, by decide +kernel, by decide +kernel⟩
theorem cs_X5_pause_120 : cr_cs Y_X5_pause Y_X5_refuse 120 1 := ⟨cd_X5_refuse, cr_in (i := 716) (by decide +kernel) rfl, cr_in (i := 41) (by decide +kernel) rfl, by decide +kernel, by decide +kernel, by decide +kernel⟩
theorem cs_X5_pause_138 : cr_cs Y_X5_pause Y_X5_becomes 138 2 := ⟨cd_X5_becomes, cr_in (i := 735) (by decide +kernel) rfl, cr_in (i := 41) (by decide +kernel) rfl, by decide +kernel, by decide +kernel, by decide +kernel⟩
theorem cs_X5_call_130 : cr_cs Y_X5_call Y_X5_isIn 130 2 := ⟨cd_X5_isIn, cr_in (i := 724) (by decide +kernel) rfl, cr_in (i := 41) (by decide +kernel) rfl, by decide +kernel, by decide +kernel, by decide +kernel⟩
theorem cs_X5_call_120 : cr_cs Y_X5_call Y_X5_refuse 120 1 := ⟨cd_X5_refuse, cr_in (i := 716) (by decide +kernel) rfl, cr_in (i := 41) (by decide +kernel) rfl, by decide +kernel, by decide +kernel, by decide +kernel⟩
theorem cs_X5_rule_130 : cr_cs Y_X5_rule Y_X5_isIn 130 2 := ⟨cd_X5_isIn, cr_in (i := 724) (by decide +kernel) rfl, cr_in (i := 41) (by decide +kernel) rfl, by decide +kernel, by decide +kernel, by decide +kernel⟩
theorem cs_X5_rule_120 : cr_cs Y_X5_rule Y_X5_refuse 120 1 := ⟨cd_X5_refuse, cr_in (i := 716) (by decide +kernel) rfl, cr_in (i := 41) (by decide +kernel) rfl, by decide +kernel, by decide +kernel, by decide +kernel⟩
theorem cs_X5_prefer_120 : cr_cs Y_X5_prefer Y_X5_refuse 120 1 := ⟨cd_X5_refuse, cr_in (i := 716) (by decide +kernel) rfl, cr_in (i := 41) (by decide +kernel) rfl, by decide +kernel, by decide +kernel, by decide +kernel⟩
theorem cs_X5_ring_130 : cr_cs Y_X5_ring Y_X5_isIn 130 2 := ⟨cd_X5_isIn, cr_in (i := 724) (by decide +kernel) rfl, cr_in (i := 41) (by decide +kernel) rfl, by decide +kernel, by decide +kernel, by decide +kernel⟩
theorem cs_X5_ring_120 : cr_cs Y_X5_ring Y_X5_refuse 120 1 := ⟨cd_X5_refuse, cr_in (i := 716) (by decide +kernel) rfl, cr_in (i := 41) (by decide +kernel) rfl, by decide +kernel, by decide +kernel, by decide +kernel⟩
theorem cs_X5_loses_138 : cr_cs Y_X5_loses Y_X5_becomes 138 2 := ⟨cd_X5_becomes, cr_in (i := 735) (by decide +kernel) rfl, cr_in (i := 41) (by decide +kernel) rfl, by decide +kernel, by decide +kernel, by decide +kernel⟩
theorem cs_X5_pass_130 : cr_cs Y_X5_pass Y_X5_isIn 130 2 := ⟨cd_X5_isIn, cr_in (i := 724) (by decide +kernel) rfl, cr_in (i := 41) (by decide +kernel) rfl, by decide +kernel, by decide +kernel, by decide +kernel⟩
theorem cs_X5_pass_120 : cr_cs Y_X5_pass Y_X5_refuse 120 1 := ⟨cd_X5_refuse, cr_in (i := 716) (by decide +kernel) rfl, cr_in (i := 41) (by decide +kernel) rfl, by decide +kernel, by decide +kernel, by decide +kernel⟩
theorem cs_X5_pass_148 : cr_cs Y_X5_pass Y_X5_loses 148 1 := ⟨cd_X5_loses, cr_in (i := 767) (by decide +kernel) rfl, cr_in (i := 41) (by decide +kernel) rfl, by decide +kernel, by decide +kernel, by decide +kernel⟩
theorem cs_X5_leave_130 : cr_cs Y_X5_leave Y_X5_isIn 130 2 := ⟨cd_X5_isIn, cr_in (i := 724) (by decide +kernel) rfl, cr_in (i := 41) (by decide +kernel) rfl, by decide +kernel, by decide +kernel, by decide +kernel⟩
theorem cs_X5_leave_120 : cr_cs Y_X5_leave Y_X5_refuse 120 1 := ⟨cd_X5_refuse, cr_in (i := 716) (by decide +kernel) rfl, cr_in (i := 41) (by decide +kernel) rfl, by decide +kernel, by decide +kernel, by decide +kernel⟩
theorem cs_X5_urge_130 : cr_cs Y_X5_urge Y_X5_isIn 130 2 := ⟨cd_X5_isIn, cr_in (i := 724) (by decide +kernel) rfl, cr_in (i := 41) (by decide +kernel) rfl, by decide +kernel, by decide +kernel, by decide +kernel⟩
theorem cs_X5_urge_120 : cr_cs Y_X5_urge Y_X5_refuse 120 1 := ⟨cd_X5_refuse, cr_in (i := 716) (by decide +kernel) rfl, cr_in (i := 41) (by decide +kernel) rfl, by decide +kernel, by decide +kernel, by decide +kernel⟩
theorem cs_X5_may_134 : cr_cs Y_X5_may Y_X5_gradeOf 134 2 := ⟨cd_X5_gradeOf, cr_in (i := 727) (by decide +kernel) rfl, cr_in (i := 41) (by decide +kernel) rfl, by decide +kernel, by decide +kernel, by decide +kernel⟩
theorem cs_X5_may_152 : cr_cs Y_X5_may Y_X5_hasRoom 152 1 := ⟨cd_X5_hasRoom, cr_in (i := 807) (by decide +kernel) rfl, cr_in (i := 41) (by decide +kernel) rfl, by decide +kernel, by decide +kernel, by decide +kernel⟩
theorem cs_X5_may_156 : cr_cs Y_X5_may Y_X5_waitedOf 156 1 := ⟨cd_X5_waitedOf, cr_in (i := 787) (by decide +kernel) rfl, cr_in (i := 41) (by decide +kernel) rfl, by decide +kernel, by decide +kernel, by decide +kernel⟩
theorem cs_X5_isTakeable_159 : cr_cs Y_X5_isTakeable Y_X5_may 159 2 := ⟨cd_X5_may, cr_in (i := 803) (by decide +kernel) rfl, cr_in (i := 41) (by decide +kernel) rfl, by decide +kernel, by decide +kernel, by decide +kernel⟩
theorem cs_X5_freeFor_134 : cr_cs Y_X5_freeFor Y_X5_gradeOf 134 2 := ⟨cd_X5_gradeOf, cr_in (i := 727) (by decide +kernel) rfl, cr_in (i := 41) (by decide +kernel) rfl, by decide +kernel, by decide +kernel, by decide +kernel⟩
theorem cs_X5_rankOf_162 : cr_cs Y_X5_rankOf Y_X5_freeFor 162 1 := ⟨cd_X5_freeFor, cr_in (i := 815) (by decide +kernel) rfl, cr_in (i := 41) (by decide +kernel) rfl, by decide +kernel, by decide +kernel, by decide +kernel⟩
theorem cs_X5_rankOf_156 : cr_cs Y_X5_rankOf Y_X5_waitedOf 156 1 := ⟨cd_X5_waitedOf, cr_in (i := 787) (by decide +kernel) rfl, cr_in (i := 41) (by decide +kernel) rfl, by decide +kernel, by decide +kernel, by decide +kernel⟩
theorem cs_X5_nextCall_165 : cr_cs Y_X5_nextCall Y_X5_isTakeable 165 1 := ⟨cd_X5_isTakeable, cr_in (i := 799) (by decide +kernel) rfl, cr_in (i := 41) (by decide +kernel) rfl, by decide +kernel, by decide +kernel, by decide +kernel⟩
theorem cs_X5_nextCall_168 : cr_cs Y_X5_nextCall Y_X5_rankOf 168 1 := ⟨cd_X5_rankOf, cr_in (i := 811) (by decide +kernel) rfl, cr_in (i := 41) (by decide +kernel) rfl, by decide +kernel, by decide +kernel, by decide +kernel⟩
theorem cs_X5_sortsOf_134 : cr_cs Y_X5_sortsOf Y_X5_gradeOf 134 2 := ⟨cd_X5_gradeOf, cr_in (i := 727) (by decide +kernel) rfl, cr_in (i := 41) (by decide +kernel) rfl, by decide +kernel, by decide +kernel, by decide +kernel⟩
theorem cs_X5_isAhead_134 : cr_cs Y_X5_isAhead Y_X5_gradeOf 134 2 := ⟨cd_X5_gradeOf, cr_in (i := 727) (by decide +kernel) rfl, cr_in (i := 41) (by decide +kernel) rfl, by decide +kernel, by decide +kernel, by decide +kernel⟩
theorem cs_X5_isAhead_171 : cr_cs Y_X5_isAhead Y_X5_sortsOf 171 1 := ⟨cd_X5_sortsOf, cr_in (i := 827) (by decide +kernel) rfl, cr_in (i := 41) (by decide +kernel) rfl, by decide +kernel, by decide +kernel, by decide +kernel⟩
theorem cs_X5_helperFor_159 : cr_cs Y_X5_helperFor Y_X5_may 159 2 := ⟨cd_X5_may, cr_in (i := 803) (by decide +kernel) rfl, cr_in (i := 41) (by decide +kernel) rfl, by decide +kernel, by decide +kernel, by decide +kernel⟩
theorem cs_X5_helperFor_174 : cr_cs Y_X5_helperFor Y_X5_isAhead 174 3 := ⟨cd_X5_isAhead, cr_in (i := 823) (by decide +kernel) rfl, cr_in (i := 41) (by decide +kernel) rfl, by decide +kernel, by decide +kernel, by decide +kernel⟩
theorem cs_X5_give_178 : cr_cs Y_X5_give Y_X5_nextCall 178 0 := ⟨cd_X5_nextCall, cr_in (i := 795) (by decide +kernel) rfl, cr_in (i := 41) (by decide +kernel) rfl, by decide +kernel, by decide +kernel, by decide +kernel⟩
theorem cs_X5_give_182 : cr_cs Y_X5_give Y_X5_helperFor 182 1 := ⟨cd_X5_helperFor, cr_in (i := 819) (by decide +kernel) rfl, cr_in (i := 41) (by decide +kernel) rfl, by decide +kernel, by decide +kernel, by decide +kernel⟩
theorem cs_X5_give_156 : cr_cs Y_X5_give Y_X5_waitedOf 156 1 := ⟨cd_X5_waitedOf, cr_in (i := 787) (by decide +kernel) rfl, cr_in (i := 41) (by decide +kernel) rfl, by decide +kernel, by decide +kernel, by decide +kernel⟩
theorem cs_X5_give_134 : cr_cs Y_X5_give Y_X5_gradeOf 134 2 := ⟨cd_X5_gradeOf, cr_in (i := 727) (by decide +kernel) rfl, cr_in (i := 41) (by decide +kernel) rfl, by decide +kernel, by decide +kernel, by decide +kernel⟩
theorem cs_X5_give_138 : cr_cs Y_X5_give Y_X5_becomes 138 2 := ⟨cd_X5_becomes, cr_in (i := 735) (by decide +kernel) rfl, cr_in (i := 41) (by decide +kernel) rfl, by decide +kernel, by decide +kernel, by decide +kernel⟩
theorem cs_X5_goesOn_148 : cr_cs Y_X5_goesOn Y_X5_loses 148 1 := ⟨cd_X5_loses, cr_in (i := 767) (by decide +kernel) rfl, cr_in (i := 41) (by decide +kernel) rfl, by decide +kernel, by decide +kernel, by decide +kernel⟩
theorem cs_X5_goesOn_138 : cr_cs Y_X5_goesOn Y_X5_becomes 138 2 := ⟨cd_X5_becomes, cr_in (i := 735) (by decide +kernel) rfl, cr_in (i := 41) (by decide +kernel) rfl, by decide +kernel, by decide +kernel, by decide +kernel⟩
theorem cs_X5_goesOn_156 : cr_cs Y_X5_goesOn Y_X5_waitedOf 156 1 := ⟨cd_X5_waitedOf, cr_in (i := 787) (by decide +kernel) rfl, cr_in (i := 41) (by decide +kernel) rfl, by decide +kernel, by decide +kernel, by decide +kernel⟩
theorem cs_X5_goesOn_185 : cr_cs Y_X5_goesOn Y_X5_give 185 0 := ⟨cd_X5_give, cr_in (i := 791) (by decide +kernel) rfl, cr_in (i := 41) (by decide +kernel) rfl, by decide +kernel, by decide +kernel, by decide +kernel⟩
theorem cs_X5_ticks_120 : cr_cs Y_X5_ticks Y_X5_refuse 120 1 := ⟨cd_X5_refuse, cr_in (i := 716) (by decide +kernel) rfl, cr_in (i := 41) (by decide +kernel) rfl, by decide +kernel, by decide +kernel, by decide +kernel⟩
theorem cs_X5_ticks_188 : cr_cs Y_X5_ticks Y_X5_goesOn 188 0 := ⟨cd_X5_goesOn, cr_in (i := 783) (by decide +kernel) rfl, cr_in (i := 41) (by decide +kernel) rfl, by decide +kernel, by decide +kernel, by decide +kernel⟩
theorem cs_X5_wait_130 : cr_cs Y_X5_wait Y_X5_isIn 130 2 := ⟨cd_X5_isIn, cr_in (i := 724) (by decide +kernel) rfl, cr_in (i := 41) (by decide +kernel) rfl, by decide +kernel, by decide +kernel, by decide +kernel⟩
theorem cs_X5_wait_120 : cr_cs Y_X5_wait Y_X5_refuse 120 1 := ⟨cd_X5_refuse, cr_in (i := 716) (by decide +kernel) rfl, cr_in (i := 41) (by decide +kernel) rfl, by decide +kernel, by decide +kernel, by decide +kernel⟩
theorem cs_X5_wait_194 : cr_cs Y_X5_wait Y_X5_keep 194 0 := ⟨cd_X5_keep, cr_in (i := 835) (by decide +kernel) rfl, cr_in (i := 41) (by decide +kernel) rfl, by decide +kernel, by decide +kernel, by decide +kernel⟩
theorem cs_X5_wait_188 : cr_cs Y_X5_wait Y_X5_goesOn 188 0 := ⟨cd_X5_goesOn, cr_in (i := 783) (by decide +kernel) rfl, cr_in (i := 41) (by decide +kernel) rfl, by decide +kernel, by decide +kernel, by decide +kernel⟩
theorem cs_X5_wait_197 : cr_cs Y_X5_wait Y_X5_putBack 197 0 := ⟨cd_X5_putBack, cr_in (i := 839) (by decide +kernel) rfl, cr_in (i := 41) (by decide +kernel) rfl, by decide +kernel, by decide +kernel, by decide +kernel⟩
theorem cs_X5_whoOf_194 : cr_cs Y_X5_whoOf Y_X5_keep 194 0 := ⟨cd_X5_keep, cr_in (i := 835) (by decide +kernel) rfl, cr_in (i := 41) (by decide +kernel) rfl, by decide +kernel, by decide +kernel, by decide +kernel⟩
theorem cs_X5_whoOf_185 : cr_cs Y_X5_whoOf Y_X5_give 185 0 := ⟨cd_X5_give, cr_in (i := 791) (by decide +kernel) rfl, cr_in (i := 41) (by decide +kernel) rfl, by decide +kernel, by decide +kernel, by decide +kernel⟩
theorem cs_X5_whoOf_197 : cr_cs Y_X5_whoOf Y_X5_putBack 197 0 := ⟨cd_X5_putBack, cr_in (i := 839) (by decide +kernel) rfl, cr_in (i := 41) (by decide +kernel) rfl, by decide +kernel, by decide +kernel, by decide +kernel⟩
theorem cs_X5_who_130 : cr_cs Y_X5_who Y_X5_isIn 130 2 := ⟨cd_X5_isIn, cr_in (i := 724) (by decide +kernel) rfl, cr_in (i := 41) (by decide +kernel) rfl, by decide +kernel, by decide +kernel, by decide +kernel⟩
theorem cs_X5_who_120 : cr_cs Y_X5_who Y_X5_refuse 120 1 := ⟨cd_X5_refuse, cr_in (i := 716) (by decide +kernel) rfl, cr_in (i := 41) (by decide +kernel) rfl, by decide +kernel, by decide +kernel, by decide +kernel⟩
theorem cs_X5_who_200 : cr_cs Y_X5_who Y_X5_whoOf 200 1 := ⟨cd_X5_whoOf, cr_in (i := 847) (by decide +kernel) rfl, cr_in (i := 41) (by decide +kernel) rfl, by decide +kernel, by decide +kernel, by decide +kernel⟩
theorem cs_X5_why_130 : cr_cs Y_X5_why Y_X5_isIn 130 2 := ⟨cd_X5_isIn, cr_in (i := 724) (by decide +kernel) rfl, cr_in (i := 41) (by decide +kernel) rfl, by decide +kernel, by decide +kernel, by decide +kernel⟩
theorem cs_X5_why_120 : cr_cs Y_X5_why Y_X5_refuse 120 1 := ⟨cd_X5_refuse, cr_in (i := 716) (by decide +kernel) rfl, cr_in (i := 41) (by decide +kernel) rfl, by decide +kernel, by decide +kernel, by decide +kernel⟩
theorem cs_X5_why_200 : cr_cs Y_X5_why Y_X5_whoOf 200 1 := ⟨cd_X5_whoOf, cr_in (i := 847) (by decide +kernel) rfl, cr_in (i := 41) (by decide +kernel) rfl, by decide +kernel, by decide +kernel, by decide +kernel⟩
theorem cs_X5_why_134 : cr_cs Y_X5_why Y_X5_gradeOf 134 2 := ⟨cd_X5_gradeOf, cr_in (i := 727) (by decide +kernel) rfl, cr_in (i := 41) (by decide +kernel) rfl, by decide +kernel, by decide +kernel, by decide +kernel⟩
theorem cs_X5_why_152 : cr_cs Y_X5_why Y_X5_hasRoom 152 1 := ⟨cd_X5_hasRoom, cr_in (i := 807) (by decide +kernel) rfl, cr_in (i := 41) (by decide +kernel) rfl, by decide +kernel, by decide +kernel, by decide +kernel⟩
theorem cs_X5_why_156 : cr_cs Y_X5_why Y_X5_waitedOf 156 1 := ⟨cd_X5_waitedOf, cr_in (i := 787) (by decide +kernel) rfl, cr_in (i := 41) (by decide +kernel) rfl, by decide +kernel, by decide +kernel, by decide +kernel⟩
theorem cs_X5_why_159 : cr_cs Y_X5_why Y_X5_may 159 2 := ⟨cd_X5_may, cr_in (i := 803) (by decide +kernel) rfl, cr_in (i := 41) (by decide +kernel) rfl, by decide +kernel, by decide +kernel, by decide +kernel⟩
theorem cs_X5_within_120 : cr_cs Y_X5_within Y_X5_refuse 120 1 := ⟨cd_X5_refuse, cr_in (i := 716) (by decide +kernel) rfl, cr_in (i := 41) (by decide +kernel) rfl, by decide +kernel, by decide +kernel, by decide +kernel⟩
theorem cs_X5_loss_120 : cr_cs Y_X5_loss Y_X5_refuse 120 1 := ⟨cd_X5_refuse, cr_in (i := 716) (by decide +kernel) rfl, cr_in (i := 41) (by decide +kernel) rfl, by decide +kernel, by decide +kernel, by decide +kernel⟩
theorem cs_X5_loss_207 : cr_cs Y_X5_loss Y_X5_lossOf 207 2 := ⟨cd_X5_lossOf, cr_in (i := 863) (by decide +kernel) rfl, cr_in (i := 41) (by decide +kernel) rfl, by decide +kernel, by decide +kernel, by decide +kernel⟩
theorem cs_X5_wanted_120 : cr_cs Y_X5_wanted Y_X5_refuse 120 1 := ⟨cd_X5_refuse, cr_in (i := 716) (by decide +kernel) rfl, cr_in (i := 41) (by decide +kernel) rfl, by decide +kernel, by decide +kernel, by decide +kernel⟩
theorem cs_X5_wanted_207 : cr_cs Y_X5_wanted Y_X5_lossOf 207 2 := ⟨cd_X5_lossOf, cr_in (i := 863) (by decide +kernel) rfl, cr_in (i := 41) (by decide +kernel) rfl, by decide +kernel, by decide +kernel, by decide +kernel⟩
theorem cs_X5_want_130 : cr_cs Y_X5_want Y_X5_isIn 130 2 := ⟨cd_X5_isIn, cr_in (i := 724) (by decide +kernel) rfl, cr_in (i := 41) (by decide +kernel) rfl, by decide +kernel, by decide +kernel, by decide +kernel⟩
theorem cs_X5_want_120 : cr_cs Y_X5_want Y_X5_refuse 120 1 := ⟨cd_X5_refuse, cr_in (i := 716) (by decide +kernel) rfl, cr_in (i := 41) (by decide +kernel) rfl, by decide +kernel, by decide +kernel, by decide +kernel⟩
theorem cs_X5_cover_120 : cr_cs Y_X5_cover Y_X5_refuse 120 1 := ⟨cd_X5_refuse, cr_in (i := 716) (by decide +kernel) rfl, cr_in (i := 41) (by decide +kernel) rfl, by decide +kernel, by decide +kernel, by decide +kernel⟩
theorem cm_X5_cover_211 : Cond.methodLink (cr_nm Y_X5_cover).cls 211 Lib.Math.max.name ∈ cr_tb := cr_in (i := 881) (by decide +kernel) rfl
theorem cm_X5_cover_216 : Cond.methodLink (cr_nm Y_X5_cover).cls 216 Lib.Math.min.name ∈ cr_tb := cr_in (i := 882) (by decide +kernel) rfl
theorem cs_X5_begins_130 : cr_cs Y_X5_begins Y_X5_isIn 130 2 := ⟨cd_X5_isIn, cr_in (i := 724) (by decide +kernel) rfl, cr_in (i := 41) (by decide +kernel) rfl, by decide +kernel, by decide +kernel, by decide +kernel⟩
theorem cs_X5_begins_120 : cr_cs Y_X5_begins Y_X5_refuse 120 1 := ⟨cd_X5_refuse, cr_in (i := 716) (by decide +kernel) rfl, cr_in (i := 41) (by decide +kernel) rfl, by decide +kernel, by decide +kernel, by decide +kernel⟩
theorem cs_X5_helperOf_130 : cr_cs Y_X5_helperOf Y_X5_isIn 130 2 := ⟨cd_X5_isIn, cr_in (i := 724) (by decide +kernel) rfl, cr_in (i := 41) (by decide +kernel) rfl, by decide +kernel, by decide +kernel, by decide +kernel⟩
theorem cs_X5_helperOf_120 : cr_cs Y_X5_helperOf Y_X5_refuse 120 1 := ⟨cd_X5_refuse, cr_in (i := 716) (by decide +kernel) rfl, cr_in (i := 41) (by decide +kernel) rfl, by decide +kernel, by decide +kernel, by decide +kernel⟩
theorem cs_X5_helperOf_134 : cr_cs Y_X5_helperOf Y_X5_gradeOf 134 2 := ⟨cd_X5_gradeOf, cr_in (i := 727) (by decide +kernel) rfl, cr_in (i := 41) (by decide +kernel) rfl, by decide +kernel, by decide +kernel, by decide +kernel⟩
theorem cs_X5_callOf_130 : cr_cs Y_X5_callOf Y_X5_isIn 130 2 := ⟨cd_X5_isIn, cr_in (i := 724) (by decide +kernel) rfl, cr_in (i := 41) (by decide +kernel) rfl, by decide +kernel, by decide +kernel, by decide +kernel⟩
theorem cs_X5_callOf_120 : cr_cs Y_X5_callOf Y_X5_refuse 120 1 := ⟨cd_X5_refuse, cr_in (i := 716) (by decide +kernel) rfl, cr_in (i := 41) (by decide +kernel) rfl, by decide +kernel, by decide +kernel, by decide +kernel⟩
theorem cs_X5_callOf_156 : cr_cs Y_X5_callOf Y_X5_waitedOf 156 1 := ⟨cd_X5_waitedOf, cr_in (i := 787) (by decide +kernel) rfl, cr_in (i := 41) (by decide +kernel) rfl, by decide +kernel, by decide +kernel, by decide +kernel⟩
theorem cs_X5_count_219 : cr_cs Y_X5_count Y_X5_inState 219 1 := ⟨cd_X5_inState, cr_in (i := 899) (by decide +kernel) rfl, cr_in (i := 41) (by decide +kernel) rfl, by decide +kernel, by decide +kernel, by decide +kernel⟩
theorem ac_0_63 : Cond.methodLink RX0 63 arraycopyName ∈ cr_tb ∧ Cond.native arraycopyName ∈ cr_tb ∧ Cond.static arraycopyName ∈ cr_tb ∧ Cond.initialized "java/lang/System" ∈ cr_tb := ⟨cr_in (i := 483) (by decide +kernel) rfl, cr_in (i := 478) (by decide +kernel) rfl, cr_in (i := 477) (by decide +kernel) rfl, cr_in (i := 44) (by decide +kernel) rfl⟩
theorem ac_2_71 : Cond.methodLink RX2 71 arraycopyName ∈ cr_tb ∧ Cond.native arraycopyName ∈ cr_tb ∧ Cond.static arraycopyName ∈ cr_tb ∧ Cond.initialized "java/lang/System" ∈ cr_tb := ⟨cr_in (i := 476) (by decide +kernel) rfl, cr_in (i := 478) (by decide +kernel) rfl, cr_in (i := 477) (by decide +kernel) rfl, cr_in (i := 44) (by decide +kernel) rfl⟩
theorem fit_shF_shH_1 : cr_fit shF shH (fun j => 1 + j) := cr_fit_of (by decide +kernel) (fun i j _ _ h => by have h : 1 + i = 1 + j := h; omega)
theorem fit_shF_shC_10 : cr_fit shF shC (fun j => 10 + j) := cr_fit_of (by decide +kernel) (fun i j _ _ h => by have h : 10 + i = 10 + j := h; omega)
theorem fit_shR_shF_1 : cr_fit shR shF (fun j => 1 + j) := cr_fit_of (by decide +kernel) (fun i j _ _ h => by have h : 1 + i = 1 + j := h; omega)
theorem fit_shR_shF_26 : cr_fit shR shF (fun j => 26 + j) := cr_fit_of (by decide +kernel) (fun i j _ _ h => by have h : 26 + i = 26 + j := h; omega)
theorem fit_shR_shS_51 : cr_fit shR shS (fun j => 51 + j) := cr_fit_of (by decide +kernel) (fun i j _ _ h => by have h : 51 + i = 51 + j := h; omega)
theorem fit_shR_shH_2 : cr_fit shR shH (fun j => 2 + j) := cr_fit_of (by decide +kernel) (fun i j _ _ h => by have h : 2 + i = 2 + j := h; omega)
theorem fit_shR_shC_11 : cr_fit shR shC (fun j => 11 + j) := cr_fit_of (by decide +kernel) (fun i j _ _ h => by have h : 11 + i = 11 + j := h; omega)
end
section
theorem dX0_has_0 : decode (cr_by Y_X0_has) 0 = .ok (.iload_n 1, 1) := by decide +kernel
theorem dX0_has_1 : decode (cr_by Y_X0_has) 1 = .ok (.ifCond .lt 15, 3) := by decide +kernel
theorem dX0_has_4 : decode (cr_by Y_X0_has) 4 = .ok (.iload_n 1, 1) := by decide +kernel
theorem dX0_has_5 : decode (cr_by Y_X0_has) 5 = .ok (.aload_n 0, 1) := by decide +kernel
theorem dX0_has_6 : decode (cr_by Y_X0_has) 6 = .ok (.getfield 48, 3) := by decide +kernel
theorem dX0_has_9 : decode (cr_by Y_X0_has) 9 = .ok (.if_icmp .ge 7, 3) := by decide +kernel
theorem dX0_has_12 : decode (cr_by Y_X0_has) 12 = .ok (.iconst 1, 1) := by decide +kernel
theorem dX0_has_13 : decode (cr_by Y_X0_has) 13 = .ok (.goto 4, 3) := by decide +kernel
theorem dX0_has_16 : decode (cr_by Y_X0_has) 16 = .ok (.iconst 0, 1) := by decide +kernel
theorem dX0_has_17 : decode (cr_by Y_X0_has) 17 = .ok (.ireturn, 1) := by decide +kernel
theorem dX0_add_0 : decode (cr_by Y_X0_add) 0 = .ok (.aload_n 0, 1) := by decide +kernel
theorem dX0_add_1 : decode (cr_by Y_X0_add) 1 = .ok (.getfield 48, 3) := by decide +kernel
theorem dX0_add_4 : decode (cr_by Y_X0_add) 4 = .ok (.sipush 200, 3) := by decide +kernel
theorem dX0_add_7 : decode (cr_by Y_X0_add) 7 = .ok (.if_icmp .lt 6, 3) := by decide +kernel
theorem dX0_add_10 : decode (cr_by Y_X0_add) 10 = .ok (.bipush (-9), 2) := by decide +kernel
theorem dX0_add_12 : decode (cr_by Y_X0_add) 12 = .ok (.ireturn, 1) := by decide +kernel
theorem dX0_add_13 : decode (cr_by Y_X0_add) 13 = .ok (.aload_n 0, 1) := by decide +kernel
theorem dX0_add_14 : decode (cr_by Y_X0_add) 14 = .ok (.getfield 15, 3) := by decide +kernel
theorem dX0_add_17 : decode (cr_by Y_X0_add) 17 = .ok (.aload_n 0, 1) := by decide +kernel
theorem dX0_add_18 : decode (cr_by Y_X0_add) 18 = .ok (.getfield 48, 3) := by decide +kernel
theorem dX0_add_21 : decode (cr_by Y_X0_add) 21 = .ok (.iload_n 1, 1) := by decide +kernel
theorem dX0_add_22 : decode (cr_by Y_X0_add) 22 = .ok (.iastore, 1) := by decide +kernel
theorem dX0_add_23 : decode (cr_by Y_X0_add) 23 = .ok (.aload_n 0, 1) := by decide +kernel
theorem dX0_add_24 : decode (cr_by Y_X0_add) 24 = .ok (.getfield 18, 3) := by decide +kernel
theorem dX0_add_27 : decode (cr_by Y_X0_add) 27 = .ok (.aload_n 0, 1) := by decide +kernel
theorem dX0_add_28 : decode (cr_by Y_X0_add) 28 = .ok (.getfield 48, 3) := by decide +kernel
theorem dX0_add_31 : decode (cr_by Y_X0_add) 31 = .ok (.iload_n 2, 1) := by decide +kernel
theorem dX0_add_32 : decode (cr_by Y_X0_add) 32 = .ok (.iastore, 1) := by decide +kernel
theorem dX0_add_33 : decode (cr_by Y_X0_add) 33 = .ok (.aload_n 0, 1) := by decide +kernel
theorem dX0_add_34 : decode (cr_by Y_X0_add) 34 = .ok (.getfield 42, 3) := by decide +kernel
theorem dX0_add_37 : decode (cr_by Y_X0_add) 37 = .ok (.aload_n 0, 1) := by decide +kernel
theorem dX0_add_38 : decode (cr_by Y_X0_add) 38 = .ok (.getfield 48, 3) := by decide +kernel
theorem dX0_add_41 : decode (cr_by Y_X0_add) 41 = .ok (.bipush (-9), 2) := by decide +kernel
theorem dX0_add_43 : decode (cr_by Y_X0_add) 43 = .ok (.iastore, 1) := by decide +kernel
theorem dX0_add_44 : decode (cr_by Y_X0_add) 44 = .ok (.aload_n 0, 1) := by decide +kernel
theorem dX0_add_45 : decode (cr_by Y_X0_add) 45 = .ok (.getfield 45, 3) := by decide +kernel
theorem dX0_add_48 : decode (cr_by Y_X0_add) 48 = .ok (.aload_n 0, 1) := by decide +kernel
theorem dX0_add_49 : decode (cr_by Y_X0_add) 49 = .ok (.getfield 48, 3) := by decide +kernel
theorem dX0_add_52 : decode (cr_by Y_X0_add) 52 = .ok (.bipush (-9), 2) := by decide +kernel
theorem dX0_add_54 : decode (cr_by Y_X0_add) 54 = .ok (.iastore, 1) := by decide +kernel
theorem dX0_add_55 : decode (cr_by Y_X0_add) 55 = .ok (.aload_n 0, 1) := by decide +kernel
theorem dX0_add_56 : decode (cr_by Y_X0_add) 56 = .ok (.dup, 1) := by decide +kernel
theorem dX0_add_57 : decode (cr_by Y_X0_add) 57 = .ok (.getfield 48, 3) := by decide +kernel
theorem dX0_add_60 : decode (cr_by Y_X0_add) 60 = .ok (.dup_x1, 1) := by decide +kernel
theorem dX0_add_61 : decode (cr_by Y_X0_add) 61 = .ok (.iconst 1, 1) := by decide +kernel
theorem dX0_add_62 : decode (cr_by Y_X0_add) 62 = .ok (.iadd, 1) := by decide +kernel
theorem dX0_add_63 : decode (cr_by Y_X0_add) 63 = .ok (.putfield 48, 3) := by decide +kernel
theorem dX0_add_66 : decode (cr_by Y_X0_add) 66 = .ok (.ireturn, 1) := by decide +kernel
theorem dX0_describe_0 : decode (cr_by Y_X0_describe) 0 = .ok (.aload_n 0, 1) := by decide +kernel
theorem dX0_describe_1 : decode (cr_by Y_X0_describe) 1 = .ok (.getfield 21, 3) := by decide +kernel
theorem dX0_describe_4 : decode (cr_by Y_X0_describe) 4 = .ok (.iload_n 1, 1) := by decide +kernel
theorem dX0_describe_5 : decode (cr_by Y_X0_describe) 5 = .ok (.iload_n 2, 1) := by decide +kernel
theorem dX0_describe_6 : decode (cr_by Y_X0_describe) 6 = .ok (.iastore, 1) := by decide +kernel
theorem dX0_describe_7 : decode (cr_by Y_X0_describe) 7 = .ok (.aload_n 0, 1) := by decide +kernel
theorem dX0_describe_8 : decode (cr_by Y_X0_describe) 8 = .ok (.getfield 24, 3) := by decide +kernel
theorem dX0_describe_11 : decode (cr_by Y_X0_describe) 11 = .ok (.iload_n 1, 1) := by decide +kernel
theorem dX0_describe_12 : decode (cr_by Y_X0_describe) 12 = .ok (.iload_n 3, 1) := by decide +kernel
theorem dX0_describe_13 : decode (cr_by Y_X0_describe) 13 = .ok (.iastore, 1) := by decide +kernel
theorem dX0_describe_14 : decode (cr_by Y_X0_describe) 14 = .ok (.aload_n 0, 1) := by decide +kernel
theorem dX0_describe_15 : decode (cr_by Y_X0_describe) 15 = .ok (.getfield 27, 3) := by decide +kernel
theorem dX0_describe_18 : decode (cr_by Y_X0_describe) 18 = .ok (.iload_n 1, 1) := by decide +kernel
theorem dX0_describe_19 : decode (cr_by Y_X0_describe) 19 = .ok (.iload 4, 2) := by decide +kernel
theorem dX0_describe_21 : decode (cr_by Y_X0_describe) 21 = .ok (.iastore, 1) := by decide +kernel
theorem dX0_describe_22 : decode (cr_by Y_X0_describe) 22 = .ok (.return_, 1) := by decide +kernel
theorem dX0_arrive_0 : decode (cr_by Y_X0_arrive) 0 = .ok (.aload_n 0, 1) := by decide +kernel
theorem dX0_arrive_1 : decode (cr_by Y_X0_arrive) 1 = .ok (.getfield 30, 3) := by decide +kernel
theorem dX0_arrive_4 : decode (cr_by Y_X0_arrive) 4 = .ok (.iload_n 1, 1) := by decide +kernel
theorem dX0_arrive_5 : decode (cr_by Y_X0_arrive) 5 = .ok (.iload_n 2, 1) := by decide +kernel
theorem dX0_arrive_6 : decode (cr_by Y_X0_arrive) 6 = .ok (.iastore, 1) := by decide +kernel
theorem dX0_arrive_7 : decode (cr_by Y_X0_arrive) 7 = .ok (.aload_n 0, 1) := by decide +kernel
theorem dX0_arrive_8 : decode (cr_by Y_X0_arrive) 8 = .ok (.iload_n 1, 1) := by decide +kernel
theorem dX0_arrive_9 : decode (cr_by Y_X0_arrive) 9 = .ok (.iload_n 2, 1) := by decide +kernel
theorem dX0_arrive_10 : decode (cr_by Y_X0_arrive) 10 = .ok (.invokevirtual 52, 3) := by decide +kernel
theorem dX0_arrive_13 : decode (cr_by Y_X0_arrive) 13 = .ok (.return_, 1) := by decide +kernel
theorem dX0_waitAgain_0 : decode (cr_by Y_X0_waitAgain) 0 = .ok (.aload_n 0, 1) := by decide +kernel
theorem dX0_waitAgain_1 : decode (cr_by Y_X0_waitAgain) 1 = .ok (.getfield 9, 3) := by decide +kernel
theorem dX0_waitAgain_4 : decode (cr_by Y_X0_waitAgain) 4 = .ok (.iload_n 1, 1) := by decide +kernel
theorem dX0_waitAgain_5 : decode (cr_by Y_X0_waitAgain) 5 = .ok (.iconst 0, 1) := by decide +kernel
theorem dX0_waitAgain_6 : decode (cr_by Y_X0_waitAgain) 6 = .ok (.iastore, 1) := by decide +kernel
theorem dX0_waitAgain_7 : decode (cr_by Y_X0_waitAgain) 7 = .ok (.aload_n 0, 1) := by decide +kernel
theorem dX0_waitAgain_8 : decode (cr_by Y_X0_waitAgain) 8 = .ok (.getfield 33, 3) := by decide +kernel
theorem dX0_waitAgain_11 : decode (cr_by Y_X0_waitAgain) 11 = .ok (.iload_n 1, 1) := by decide +kernel
theorem dX0_waitAgain_12 : decode (cr_by Y_X0_waitAgain) 12 = .ok (.iload_n 2, 1) := by decide +kernel
theorem dX0_waitAgain_13 : decode (cr_by Y_X0_waitAgain) 13 = .ok (.iastore, 1) := by decide +kernel
theorem dX0_waitAgain_14 : decode (cr_by Y_X0_waitAgain) 14 = .ok (.aload_n 0, 1) := by decide +kernel
theorem dX0_waitAgain_15 : decode (cr_by Y_X0_waitAgain) 15 = .ok (.getfield 36, 3) := by decide +kernel
theorem dX0_waitAgain_18 : decode (cr_by Y_X0_waitAgain) 18 = .ok (.iload_n 1, 1) := by decide +kernel
theorem dX0_waitAgain_19 : decode (cr_by Y_X0_waitAgain) 19 = .ok (.bipush (-9), 2) := by decide +kernel
theorem dX0_waitAgain_21 : decode (cr_by Y_X0_waitAgain) 21 = .ok (.iastore, 1) := by decide +kernel
theorem dX0_waitAgain_22 : decode (cr_by Y_X0_waitAgain) 22 = .ok (.return_, 1) := by decide +kernel
theorem dX0_putBack_0 : decode (cr_by Y_X0_putBack) 0 = .ok (.aload_n 0, 1) := by decide +kernel
theorem dX0_putBack_1 : decode (cr_by Y_X0_putBack) 1 = .ok (.getfield 9, 3) := by decide +kernel
theorem dX0_putBack_4 : decode (cr_by Y_X0_putBack) 4 = .ok (.iload_n 1, 1) := by decide +kernel
theorem dX0_putBack_5 : decode (cr_by Y_X0_putBack) 5 = .ok (.iconst 4, 1) := by decide +kernel
theorem dX0_putBack_6 : decode (cr_by Y_X0_putBack) 6 = .ok (.iastore, 1) := by decide +kernel
theorem dX0_putBack_7 : decode (cr_by Y_X0_putBack) 7 = .ok (.aload_n 0, 1) := by decide +kernel
theorem dX0_putBack_8 : decode (cr_by Y_X0_putBack) 8 = .ok (.getfield 39, 3) := by decide +kernel
theorem dX0_putBack_11 : decode (cr_by Y_X0_putBack) 11 = .ok (.iload_n 1, 1) := by decide +kernel
theorem dX0_putBack_12 : decode (cr_by Y_X0_putBack) 12 = .ok (.iload_n 2, 1) := by decide +kernel
theorem dX0_putBack_13 : decode (cr_by Y_X0_putBack) 13 = .ok (.iastore, 1) := by decide +kernel
theorem dX0_putBack_14 : decode (cr_by Y_X0_putBack) 14 = .ok (.return_, 1) := by decide +kernel
theorem dX0_start_0 : decode (cr_by Y_X0_start) 0 = .ok (.aload_n 0, 1) := by decide +kernel
theorem dX0_start_1 : decode (cr_by Y_X0_start) 1 = .ok (.getfield 9, 3) := by decide +kernel
theorem dX0_start_4 : decode (cr_by Y_X0_start) 4 = .ok (.iload_n 1, 1) := by decide +kernel
theorem dX0_start_5 : decode (cr_by Y_X0_start) 5 = .ok (.iconst 1, 1) := by decide +kernel
theorem dX0_start_6 : decode (cr_by Y_X0_start) 6 = .ok (.iastore, 1) := by decide +kernel
theorem dX0_start_7 : decode (cr_by Y_X0_start) 7 = .ok (.aload_n 0, 1) := by decide +kernel
theorem dX0_start_8 : decode (cr_by Y_X0_start) 8 = .ok (.getfield 36, 3) := by decide +kernel
theorem dX0_start_11 : decode (cr_by Y_X0_start) 11 = .ok (.iload_n 1, 1) := by decide +kernel
theorem dX0_start_12 : decode (cr_by Y_X0_start) 12 = .ok (.iload_n 2, 1) := by decide +kernel
theorem dX0_start_13 : decode (cr_by Y_X0_start) 13 = .ok (.iastore, 1) := by decide +kernel
theorem dX0_start_14 : decode (cr_by Y_X0_start) 14 = .ok (.aload_n 0, 1) := by decide +kernel
theorem dX0_start_15 : decode (cr_by Y_X0_start) 15 = .ok (.getfield 39, 3) := by decide +kernel
theorem dX0_start_18 : decode (cr_by Y_X0_start) 18 = .ok (.iload_n 1, 1) := by decide +kernel
theorem dX0_start_19 : decode (cr_by Y_X0_start) 19 = .ok (.iload 4, 2) := by decide +kernel
theorem dX0_start_21 : decode (cr_by Y_X0_start) 21 = .ok (.iastore, 1) := by decide +kernel
theorem dX0_start_22 : decode (cr_by Y_X0_start) 22 = .ok (.aload_n 0, 1) := by decide +kernel
theorem dX0_start_23 : decode (cr_by Y_X0_start) 23 = .ok (.getfield 45, 3) := by decide +kernel
theorem dX0_start_26 : decode (cr_by Y_X0_start) 26 = .ok (.iload_n 1, 1) := by decide +kernel
theorem dX0_start_27 : decode (cr_by Y_X0_start) 27 = .ok (.iload_n 3, 1) := by decide +kernel
theorem dX0_start_28 : decode (cr_by Y_X0_start) 28 = .ok (.aload_n 0, 1) := by decide +kernel
theorem dX0_start_29 : decode (cr_by Y_X0_start) 29 = .ok (.getfield 33, 3) := by decide +kernel
theorem dX0_start_32 : decode (cr_by Y_X0_start) 32 = .ok (.iload_n 1, 1) := by decide +kernel
theorem dX0_start_33 : decode (cr_by Y_X0_start) 33 = .ok (.iaload, 1) := by decide +kernel
theorem dX0_start_34 : decode (cr_by Y_X0_start) 34 = .ok (.isub, 1) := by decide +kernel
theorem dX0_start_35 : decode (cr_by Y_X0_start) 35 = .ok (.iastore, 1) := by decide +kernel
theorem dX0_start_36 : decode (cr_by Y_X0_start) 36 = .ok (.aload_n 0, 1) := by decide +kernel
theorem dX0_start_37 : decode (cr_by Y_X0_start) 37 = .ok (.getfield 42, 3) := by decide +kernel
theorem dX0_start_40 : decode (cr_by Y_X0_start) 40 = .ok (.iload_n 1, 1) := by decide +kernel
theorem dX0_start_41 : decode (cr_by Y_X0_start) 41 = .ok (.iaload, 1) := by decide +kernel
theorem dX0_start_42 : decode (cr_by Y_X0_start) 42 = .ok (.ifCond .ge 15, 3) := by decide +kernel
theorem dX0_start_45 : decode (cr_by Y_X0_start) 45 = .ok (.aload_n 0, 1) := by decide +kernel
theorem dX0_start_46 : decode (cr_by Y_X0_start) 46 = .ok (.getfield 42, 3) := by decide +kernel
theorem dX0_start_49 : decode (cr_by Y_X0_start) 49 = .ok (.iload_n 1, 1) := by decide +kernel
theorem dX0_start_50 : decode (cr_by Y_X0_start) 50 = .ok (.aload_n 0, 1) := by decide +kernel
theorem dX0_start_51 : decode (cr_by Y_X0_start) 51 = .ok (.getfield 45, 3) := by decide +kernel
theorem dX0_start_54 : decode (cr_by Y_X0_start) 54 = .ok (.iload_n 1, 1) := by decide +kernel
theorem dX0_start_55 : decode (cr_by Y_X0_start) 55 = .ok (.iaload, 1) := by decide +kernel
theorem dX0_start_56 : decode (cr_by Y_X0_start) 56 = .ok (.iastore, 1) := by decide +kernel
theorem dX0_start_57 : decode (cr_by Y_X0_start) 57 = .ok (.return_, 1) := by decide +kernel
theorem dX0_ringBackDue_0 : decode (cr_by Y_X0_ringBackDue) 0 = .ok (.iconst 0, 1) := by decide +kernel
theorem dX0_ringBackDue_1 : decode (cr_by Y_X0_ringBackDue) 1 = .ok (.istore_n 2, 1) := by decide +kernel
theorem dX0_ringBackDue_2 : decode (cr_by Y_X0_ringBackDue) 2 = .ok (.iload_n 2, 1) := by decide +kernel
theorem dX0_ringBackDue_3 : decode (cr_by Y_X0_ringBackDue) 3 = .ok (.aload_n 0, 1) := by decide +kernel
theorem dX0_ringBackDue_4 : decode (cr_by Y_X0_ringBackDue) 4 = .ok (.getfield 48, 3) := by decide +kernel
theorem dX0_ringBackDue_7 : decode (cr_by Y_X0_ringBackDue) 7 = .ok (.if_icmp .ge 35, 3) := by decide +kernel
theorem dX0_ringBackDue_10 : decode (cr_by Y_X0_ringBackDue) 10 = .ok (.aload_n 0, 1) := by decide +kernel
theorem dX0_ringBackDue_11 : decode (cr_by Y_X0_ringBackDue) 11 = .ok (.getfield 9, 3) := by decide +kernel
theorem dX0_ringBackDue_14 : decode (cr_by Y_X0_ringBackDue) 14 = .ok (.iload_n 2, 1) := by decide +kernel
theorem dX0_ringBackDue_15 : decode (cr_by Y_X0_ringBackDue) 15 = .ok (.iaload, 1) := by decide +kernel
theorem dX0_ringBackDue_16 : decode (cr_by Y_X0_ringBackDue) 16 = .ok (.iconst 4, 1) := by decide +kernel
theorem dX0_ringBackDue_17 : decode (cr_by Y_X0_ringBackDue) 17 = .ok (.if_icmp .ne 19, 3) := by decide +kernel
theorem dX0_ringBackDue_20 : decode (cr_by Y_X0_ringBackDue) 20 = .ok (.aload_n 0, 1) := by decide +kernel
theorem dX0_ringBackDue_21 : decode (cr_by Y_X0_ringBackDue) 21 = .ok (.getfield 39, 3) := by decide +kernel
theorem dX0_ringBackDue_24 : decode (cr_by Y_X0_ringBackDue) 24 = .ok (.iload_n 2, 1) := by decide +kernel
theorem dX0_ringBackDue_25 : decode (cr_by Y_X0_ringBackDue) 25 = .ok (.iaload, 1) := by decide +kernel
theorem dX0_ringBackDue_26 : decode (cr_by Y_X0_ringBackDue) 26 = .ok (.iload_n 1, 1) := by decide +kernel
theorem dX0_ringBackDue_27 : decode (cr_by Y_X0_ringBackDue) 27 = .ok (.if_icmp .gt 9, 3) := by decide +kernel
theorem dX0_ringBackDue_30 : decode (cr_by Y_X0_ringBackDue) 30 = .ok (.aload_n 0, 1) := by decide +kernel
theorem dX0_ringBackDue_31 : decode (cr_by Y_X0_ringBackDue) 31 = .ok (.iload_n 2, 1) := by decide +kernel
theorem dX0_ringBackDue_32 : decode (cr_by Y_X0_ringBackDue) 32 = .ok (.iload_n 1, 1) := by decide +kernel
theorem dX0_ringBackDue_33 : decode (cr_by Y_X0_ringBackDue) 33 = .ok (.invokevirtual 52, 3) := by decide +kernel
theorem dX0_ringBackDue_36 : decode (cr_by Y_X0_ringBackDue) 36 = .ok (.iinc 2 1, 3) := by decide +kernel
theorem dX0_ringBackDue_39 : decode (cr_by Y_X0_ringBackDue) 39 = .ok (.goto (-37), 3) := by decide +kernel
theorem dX0_ringBackDue_42 : decode (cr_by Y_X0_ringBackDue) 42 = .ok (.return_, 1) := by decide +kernel
theorem dX0_loseImpatient_0 : decode (cr_by Y_X0_loseImpatient) 0 = .ok (.iconst 0, 1) := by decide +kernel
theorem dX0_loseImpatient_1 : decode (cr_by Y_X0_loseImpatient) 1 = .ok (.istore_n 2, 1) := by decide +kernel
theorem dX0_loseImpatient_2 : decode (cr_by Y_X0_loseImpatient) 2 = .ok (.iload_n 2, 1) := by decide +kernel
theorem dX0_loseImpatient_3 : decode (cr_by Y_X0_loseImpatient) 3 = .ok (.aload_n 0, 1) := by decide +kernel
theorem dX0_loseImpatient_4 : decode (cr_by Y_X0_loseImpatient) 4 = .ok (.getfield 48, 3) := by decide +kernel
theorem dX0_loseImpatient_7 : decode (cr_by Y_X0_loseImpatient) 7 = .ok (.if_icmp .ge 42, 3) := by decide +kernel
theorem dX0_loseImpatient_10 : decode (cr_by Y_X0_loseImpatient) 10 = .ok (.aload_n 0, 1) := by decide +kernel
theorem dX0_loseImpatient_11 : decode (cr_by Y_X0_loseImpatient) 11 = .ok (.getfield 9, 3) := by decide +kernel
theorem dX0_loseImpatient_14 : decode (cr_by Y_X0_loseImpatient) 14 = .ok (.iload_n 2, 1) := by decide +kernel
theorem dX0_loseImpatient_15 : decode (cr_by Y_X0_loseImpatient) 15 = .ok (.iaload, 1) := by decide +kernel
theorem dX0_loseImpatient_16 : decode (cr_by Y_X0_loseImpatient) 16 = .ok (.ifCond .ne 27, 3) := by decide +kernel
theorem dX0_loseImpatient_19 : decode (cr_by Y_X0_loseImpatient) 19 = .ok (.iload_n 1, 1) := by decide +kernel
theorem dX0_loseImpatient_20 : decode (cr_by Y_X0_loseImpatient) 20 = .ok (.aload_n 0, 1) := by decide +kernel
theorem dX0_loseImpatient_21 : decode (cr_by Y_X0_loseImpatient) 21 = .ok (.getfield 33, 3) := by decide +kernel
theorem dX0_loseImpatient_24 : decode (cr_by Y_X0_loseImpatient) 24 = .ok (.iload_n 2, 1) := by decide +kernel
theorem dX0_loseImpatient_25 : decode (cr_by Y_X0_loseImpatient) 25 = .ok (.iaload, 1) := by decide +kernel
theorem dX0_loseImpatient_26 : decode (cr_by Y_X0_loseImpatient) 26 = .ok (.isub, 1) := by decide +kernel
theorem dX0_loseImpatient_27 : decode (cr_by Y_X0_loseImpatient) 27 = .ok (.aload_n 0, 1) := by decide +kernel
theorem dX0_loseImpatient_28 : decode (cr_by Y_X0_loseImpatient) 28 = .ok (.getfield 27, 3) := by decide +kernel
theorem dX0_loseImpatient_31 : decode (cr_by Y_X0_loseImpatient) 31 = .ok (.iload_n 2, 1) := by decide +kernel
theorem dX0_loseImpatient_32 : decode (cr_by Y_X0_loseImpatient) 32 = .ok (.iaload, 1) := by decide +kernel
theorem dX0_loseImpatient_33 : decode (cr_by Y_X0_loseImpatient) 33 = .ok (.if_icmp .le 10, 3) := by decide +kernel
theorem dX0_loseImpatient_36 : decode (cr_by Y_X0_loseImpatient) 36 = .ok (.aload_n 0, 1) := by decide +kernel
theorem dX0_loseImpatient_37 : decode (cr_by Y_X0_loseImpatient) 37 = .ok (.getfield 9, 3) := by decide +kernel
theorem dX0_loseImpatient_40 : decode (cr_by Y_X0_loseImpatient) 40 = .ok (.iload_n 2, 1) := by decide +kernel
theorem dX0_loseImpatient_41 : decode (cr_by Y_X0_loseImpatient) 41 = .ok (.iconst 3, 1) := by decide +kernel
theorem dX0_loseImpatient_42 : decode (cr_by Y_X0_loseImpatient) 42 = .ok (.iastore, 1) := by decide +kernel
theorem dX0_loseImpatient_43 : decode (cr_by Y_X0_loseImpatient) 43 = .ok (.iinc 2 1, 3) := by decide +kernel
theorem dX0_loseImpatient_46 : decode (cr_by Y_X0_loseImpatient) 46 = .ok (.goto (-44), 3) := by decide +kernel
theorem dX0_loseImpatient_49 : decode (cr_by Y_X0_loseImpatient) 49 = .ok (.return_, 1) := by decide +kernel
theorem dX0_nextChange_0 : decode (cr_by Y_X0_nextChange) 0 = .ok (.aload_n 0, 1) := by decide +kernel
theorem dX0_nextChange_1 : decode (cr_by Y_X0_nextChange) 1 = .ok (.getfield 9, 3) := by decide +kernel
theorem dX0_nextChange_4 : decode (cr_by Y_X0_nextChange) 4 = .ok (.iload_n 1, 1) := by decide +kernel
theorem dX0_nextChange_5 : decode (cr_by Y_X0_nextChange) 5 = .ok (.iaload, 1) := by decide +kernel
theorem dX0_nextChange_6 : decode (cr_by Y_X0_nextChange) 6 = .ok (.iconst 1, 1) := by decide +kernel
theorem dX0_nextChange_7 : decode (cr_by Y_X0_nextChange) 7 = .ok (.if_icmp .eq 13, 3) := by decide +kernel
theorem dX0_nextChange_10 : decode (cr_by Y_X0_nextChange) 10 = .ok (.aload_n 0, 1) := by decide +kernel
theorem dX0_nextChange_11 : decode (cr_by Y_X0_nextChange) 11 = .ok (.getfield 9, 3) := by decide +kernel
theorem dX0_nextChange_14 : decode (cr_by Y_X0_nextChange) 14 = .ok (.iload_n 1, 1) := by decide +kernel
theorem dX0_nextChange_15 : decode (cr_by Y_X0_nextChange) 15 = .ok (.iaload, 1) := by decide +kernel
theorem dX0_nextChange_16 : decode (cr_by Y_X0_nextChange) 16 = .ok (.iconst 4, 1) := by decide +kernel
theorem dX0_nextChange_17 : decode (cr_by Y_X0_nextChange) 17 = .ok (.if_icmp .ne 10, 3) := by decide +kernel
theorem dX0_nextChange_20 : decode (cr_by Y_X0_nextChange) 20 = .ok (.aload_n 0, 1) := by decide +kernel
theorem dX0_nextChange_21 : decode (cr_by Y_X0_nextChange) 21 = .ok (.getfield 39, 3) := by decide +kernel
theorem dX0_nextChange_24 : decode (cr_by Y_X0_nextChange) 24 = .ok (.iload_n 1, 1) := by decide +kernel
theorem dX0_nextChange_25 : decode (cr_by Y_X0_nextChange) 25 = .ok (.iaload, 1) := by decide +kernel
theorem dX0_nextChange_26 : decode (cr_by Y_X0_nextChange) 26 = .ok (.ireturn, 1) := by decide +kernel
theorem dX0_nextChange_27 : decode (cr_by Y_X0_nextChange) 27 = .ok (.aload_n 0, 1) := by decide +kernel
theorem dX0_nextChange_28 : decode (cr_by Y_X0_nextChange) 28 = .ok (.getfield 9, 3) := by decide +kernel
theorem dX0_nextChange_31 : decode (cr_by Y_X0_nextChange) 31 = .ok (.iload_n 1, 1) := by decide +kernel
theorem dX0_nextChange_32 : decode (cr_by Y_X0_nextChange) 32 = .ok (.iaload, 1) := by decide +kernel
theorem dX0_nextChange_33 : decode (cr_by Y_X0_nextChange) 33 = .ok (.ifCond .eq 6, 3) := by decide +kernel
theorem dX0_nextChange_36 : decode (cr_by Y_X0_nextChange) 36 = .ok (.ldc 56, 2) := by decide +kernel
theorem dX0_nextChange_38 : decode (cr_by Y_X0_nextChange) 38 = .ok (.ireturn, 1) := by decide +kernel
theorem dX0_nextChange_39 : decode (cr_by Y_X0_nextChange) 39 = .ok (.aload_n 0, 1) := by decide +kernel
theorem dX0_nextChange_40 : decode (cr_by Y_X0_nextChange) 40 = .ok (.getfield 33, 3) := by decide +kernel
theorem dX0_nextChange_43 : decode (cr_by Y_X0_nextChange) 43 = .ok (.iload_n 1, 1) := by decide +kernel
theorem dX0_nextChange_44 : decode (cr_by Y_X0_nextChange) 44 = .ok (.iaload, 1) := by decide +kernel
theorem dX0_nextChange_45 : decode (cr_by Y_X0_nextChange) 45 = .ok (.aload_n 0, 1) := by decide +kernel
theorem dX0_nextChange_46 : decode (cr_by Y_X0_nextChange) 46 = .ok (.getfield 27, 3) := by decide +kernel
theorem dX0_nextChange_49 : decode (cr_by Y_X0_nextChange) 49 = .ok (.iload_n 1, 1) := by decide +kernel
theorem dX0_nextChange_50 : decode (cr_by Y_X0_nextChange) 50 = .ok (.iaload, 1) := by decide +kernel
theorem dX0_nextChange_51 : decode (cr_by Y_X0_nextChange) 51 = .ok (.iadd, 1) := by decide +kernel
theorem dX0_nextChange_52 : decode (cr_by Y_X0_nextChange) 52 = .ok (.iconst 1, 1) := by decide +kernel
theorem dX0_nextChange_53 : decode (cr_by Y_X0_nextChange) 53 = .ok (.iadd, 1) := by decide +kernel
theorem dX0_nextChange_54 : decode (cr_by Y_X0_nextChange) 54 = .ok (.istore 4, 2) := by decide +kernel
theorem dX0_nextChange_56 : decode (cr_by Y_X0_nextChange) 56 = .ok (.aload_n 0, 1) := by decide +kernel
theorem dX0_nextChange_57 : decode (cr_by Y_X0_nextChange) 57 = .ok (.getfield 33, 3) := by decide +kernel
theorem dX0_nextChange_60 : decode (cr_by Y_X0_nextChange) 60 = .ok (.iload_n 1, 1) := by decide +kernel
theorem dX0_nextChange_61 : decode (cr_by Y_X0_nextChange) 61 = .ok (.iaload, 1) := by decide +kernel
theorem dX0_nextChange_62 : decode (cr_by Y_X0_nextChange) 62 = .ok (.iload_n 3, 1) := by decide +kernel
theorem dX0_nextChange_63 : decode (cr_by Y_X0_nextChange) 63 = .ok (.iadd, 1) := by decide +kernel
theorem dX0_nextChange_64 : decode (cr_by Y_X0_nextChange) 64 = .ok (.istore 5, 2) := by decide +kernel
theorem dX0_nextChange_66 : decode (cr_by Y_X0_nextChange) 66 = .ok (.aload_n 0, 1) := by decide +kernel
theorem dX0_nextChange_67 : decode (cr_by Y_X0_nextChange) 67 = .ok (.getfield 15, 3) := by decide +kernel
theorem dX0_nextChange_70 : decode (cr_by Y_X0_nextChange) 70 = .ok (.iload_n 1, 1) := by decide +kernel
theorem dX0_nextChange_71 : decode (cr_by Y_X0_nextChange) 71 = .ok (.iaload, 1) := by decide +kernel
theorem dX0_nextChange_72 : decode (cr_by Y_X0_nextChange) 72 = .ok (.iconst 1, 1) := by decide +kernel
theorem dX0_nextChange_73 : decode (cr_by Y_X0_nextChange) 73 = .ok (.if_icmp .ne 19, 3) := by decide +kernel
theorem dX0_nextChange_76 : decode (cr_by Y_X0_nextChange) 76 = .ok (.iload 5, 2) := by decide +kernel
theorem dX0_nextChange_78 : decode (cr_by Y_X0_nextChange) 78 = .ok (.iload_n 2, 1) := by decide +kernel
theorem dX0_nextChange_79 : decode (cr_by Y_X0_nextChange) 79 = .ok (.if_icmp .le 13, 3) := by decide +kernel
theorem dX0_nextChange_82 : decode (cr_by Y_X0_nextChange) 82 = .ok (.iload 4, 2) := by decide +kernel
theorem dX0_nextChange_84 : decode (cr_by Y_X0_nextChange) 84 = .ok (.iload 5, 2) := by decide +kernel
theorem dX0_nextChange_86 : decode (cr_by Y_X0_nextChange) 86 = .ok (.invokestatic 57, 3) := by decide +kernel
theorem dX0_nextChange_89 : decode (cr_by Y_X0_nextChange) 89 = .ok (.goto 5, 3) := by decide +kernel
theorem dX0_nextChange_92 : decode (cr_by Y_X0_nextChange) 92 = .ok (.iload 4, 2) := by decide +kernel
theorem dX0_nextChange_94 : decode (cr_by Y_X0_nextChange) 94 = .ok (.ireturn, 1) := by decide +kernel
theorem dX0_firstWith_0 : decode (cr_by Y_X0_firstWith) 0 = .ok (.iconst 0, 1) := by decide +kernel
theorem dX0_firstWith_1 : decode (cr_by Y_X0_firstWith) 1 = .ok (.istore_n 2, 1) := by decide +kernel
theorem dX0_firstWith_2 : decode (cr_by Y_X0_firstWith) 2 = .ok (.iload_n 2, 1) := by decide +kernel
theorem dX0_firstWith_3 : decode (cr_by Y_X0_firstWith) 3 = .ok (.aload_n 0, 1) := by decide +kernel
theorem dX0_firstWith_4 : decode (cr_by Y_X0_firstWith) 4 = .ok (.getfield 48, 3) := by decide +kernel
theorem dX0_firstWith_7 : decode (cr_by Y_X0_firstWith) 7 = .ok (.if_icmp .ge 31, 3) := by decide +kernel
theorem dX0_firstWith_10 : decode (cr_by Y_X0_firstWith) 10 = .ok (.aload_n 0, 1) := by decide +kernel
theorem dX0_firstWith_11 : decode (cr_by Y_X0_firstWith) 11 = .ok (.getfield 9, 3) := by decide +kernel
theorem dX0_firstWith_14 : decode (cr_by Y_X0_firstWith) 14 = .ok (.iload_n 2, 1) := by decide +kernel
theorem dX0_firstWith_15 : decode (cr_by Y_X0_firstWith) 15 = .ok (.iaload, 1) := by decide +kernel
theorem dX0_firstWith_16 : decode (cr_by Y_X0_firstWith) 16 = .ok (.iconst 1, 1) := by decide +kernel
theorem dX0_firstWith_17 : decode (cr_by Y_X0_firstWith) 17 = .ok (.if_icmp .ne 15, 3) := by decide +kernel
theorem dX0_firstWith_20 : decode (cr_by Y_X0_firstWith) 20 = .ok (.aload_n 0, 1) := by decide +kernel
theorem dX0_firstWith_21 : decode (cr_by Y_X0_firstWith) 21 = .ok (.getfield 36, 3) := by decide +kernel
theorem dX0_firstWith_24 : decode (cr_by Y_X0_firstWith) 24 = .ok (.iload_n 2, 1) := by decide +kernel
theorem dX0_firstWith_25 : decode (cr_by Y_X0_firstWith) 25 = .ok (.iaload, 1) := by decide +kernel
theorem dX0_firstWith_26 : decode (cr_by Y_X0_firstWith) 26 = .ok (.iload_n 1, 1) := by decide +kernel
theorem dX0_firstWith_27 : decode (cr_by Y_X0_firstWith) 27 = .ok (.if_icmp .ne 5, 3) := by decide +kernel
theorem dX0_firstWith_30 : decode (cr_by Y_X0_firstWith) 30 = .ok (.iload_n 2, 1) := by decide +kernel
theorem dX0_firstWith_31 : decode (cr_by Y_X0_firstWith) 31 = .ok (.ireturn, 1) := by decide +kernel
theorem dX0_firstWith_32 : decode (cr_by Y_X0_firstWith) 32 = .ok (.iinc 2 1, 3) := by decide +kernel
theorem dX0_firstWith_35 : decode (cr_by Y_X0_firstWith) 35 = .ok (.goto (-33), 3) := by decide +kernel
theorem dX0_firstWith_38 : decode (cr_by Y_X0_firstWith) 38 = .ok (.bipush (-9), 2) := by decide +kernel
theorem dX0_firstWith_40 : decode (cr_by Y_X0_firstWith) 40 = .ok (.ireturn, 1) := by decide +kernel
theorem dX0_givenWithin_0 : decode (cr_by Y_X0_givenWithin) 0 = .ok (.iconst 0, 1) := by decide +kernel
theorem dX0_givenWithin_1 : decode (cr_by Y_X0_givenWithin) 1 = .ok (.istore_n 2, 1) := by decide +kernel
theorem dX0_givenWithin_2 : decode (cr_by Y_X0_givenWithin) 2 = .ok (.iconst 0, 1) := by decide +kernel
theorem dX0_givenWithin_3 : decode (cr_by Y_X0_givenWithin) 3 = .ok (.istore_n 3, 1) := by decide +kernel
theorem dX0_givenWithin_4 : decode (cr_by Y_X0_givenWithin) 4 = .ok (.iload_n 3, 1) := by decide +kernel
theorem dX0_givenWithin_5 : decode (cr_by Y_X0_givenWithin) 5 = .ok (.aload_n 0, 1) := by decide +kernel
theorem dX0_givenWithin_6 : decode (cr_by Y_X0_givenWithin) 6 = .ok (.getfield 48, 3) := by decide +kernel
theorem dX0_givenWithin_9 : decode (cr_by Y_X0_givenWithin) 9 = .ok (.if_icmp .ge 31, 3) := by decide +kernel
theorem dX0_givenWithin_12 : decode (cr_by Y_X0_givenWithin) 12 = .ok (.aload_n 0, 1) := by decide +kernel
theorem dX0_givenWithin_13 : decode (cr_by Y_X0_givenWithin) 13 = .ok (.getfield 42, 3) := by decide +kernel
theorem dX0_givenWithin_16 : decode (cr_by Y_X0_givenWithin) 16 = .ok (.iload_n 3, 1) := by decide +kernel
theorem dX0_givenWithin_17 : decode (cr_by Y_X0_givenWithin) 17 = .ok (.iaload, 1) := by decide +kernel
theorem dX0_givenWithin_18 : decode (cr_by Y_X0_givenWithin) 18 = .ok (.ifCond .lt 16, 3) := by decide +kernel
theorem dX0_givenWithin_21 : decode (cr_by Y_X0_givenWithin) 21 = .ok (.aload_n 0, 1) := by decide +kernel
theorem dX0_givenWithin_22 : decode (cr_by Y_X0_givenWithin) 22 = .ok (.getfield 42, 3) := by decide +kernel
theorem dX0_givenWithin_25 : decode (cr_by Y_X0_givenWithin) 25 = .ok (.iload_n 3, 1) := by decide +kernel
theorem dX0_givenWithin_26 : decode (cr_by Y_X0_givenWithin) 26 = .ok (.iaload, 1) := by decide +kernel
theorem dX0_givenWithin_27 : decode (cr_by Y_X0_givenWithin) 27 = .ok (.iload_n 1, 1) := by decide +kernel
theorem dX0_givenWithin_28 : decode (cr_by Y_X0_givenWithin) 28 = .ok (.if_icmp .gt 6, 3) := by decide +kernel
theorem dX0_givenWithin_31 : decode (cr_by Y_X0_givenWithin) 31 = .ok (.iinc 2 1, 3) := by decide +kernel
theorem dX0_givenWithin_34 : decode (cr_by Y_X0_givenWithin) 34 = .ok (.iinc 3 1, 3) := by decide +kernel
theorem dX0_givenWithin_37 : decode (cr_by Y_X0_givenWithin) 37 = .ok (.goto (-33), 3) := by decide +kernel
theorem dX0_givenWithin_40 : decode (cr_by Y_X0_givenWithin) 40 = .ok (.iload_n 2, 1) := by decide +kernel
theorem dX0_givenWithin_41 : decode (cr_by Y_X0_givenWithin) 41 = .ok (.ireturn, 1) := by decide +kernel
theorem dX0_countDoing_0 : decode (cr_by Y_X0_countDoing) 0 = .ok (.iconst 0, 1) := by decide +kernel
theorem dX0_countDoing_1 : decode (cr_by Y_X0_countDoing) 1 = .ok (.istore_n 2, 1) := by decide +kernel
theorem dX0_countDoing_2 : decode (cr_by Y_X0_countDoing) 2 = .ok (.iconst 0, 1) := by decide +kernel
theorem dX0_countDoing_3 : decode (cr_by Y_X0_countDoing) 3 = .ok (.istore_n 3, 1) := by decide +kernel
theorem dX0_countDoing_4 : decode (cr_by Y_X0_countDoing) 4 = .ok (.iload_n 3, 1) := by decide +kernel
theorem dX0_countDoing_5 : decode (cr_by Y_X0_countDoing) 5 = .ok (.aload_n 0, 1) := by decide +kernel
theorem dX0_countDoing_6 : decode (cr_by Y_X0_countDoing) 6 = .ok (.getfield 48, 3) := by decide +kernel
theorem dX0_countDoing_9 : decode (cr_by Y_X0_countDoing) 9 = .ok (.if_icmp .ge 22, 3) := by decide +kernel
theorem dX0_countDoing_12 : decode (cr_by Y_X0_countDoing) 12 = .ok (.aload_n 0, 1) := by decide +kernel
theorem dX0_countDoing_13 : decode (cr_by Y_X0_countDoing) 13 = .ok (.getfield 9, 3) := by decide +kernel
theorem dX0_countDoing_16 : decode (cr_by Y_X0_countDoing) 16 = .ok (.iload_n 3, 1) := by decide +kernel
theorem dX0_countDoing_17 : decode (cr_by Y_X0_countDoing) 17 = .ok (.iaload, 1) := by decide +kernel
theorem dX0_countDoing_18 : decode (cr_by Y_X0_countDoing) 18 = .ok (.iload_n 1, 1) := by decide +kernel
theorem dX0_countDoing_19 : decode (cr_by Y_X0_countDoing) 19 = .ok (.if_icmp .ne 6, 3) := by decide +kernel
theorem dX0_countDoing_22 : decode (cr_by Y_X0_countDoing) 22 = .ok (.iinc 2 1, 3) := by decide +kernel
theorem dX0_countDoing_25 : decode (cr_by Y_X0_countDoing) 25 = .ok (.iinc 3 1, 3) := by decide +kernel
theorem dX0_countDoing_28 : decode (cr_by Y_X0_countDoing) 28 = .ok (.goto (-24), 3) := by decide +kernel
theorem dX0_countDoing_31 : decode (cr_by Y_X0_countDoing) 31 = .ok (.iload_n 2, 1) := by decide +kernel
theorem dX0_countDoing_32 : decode (cr_by Y_X0_countDoing) 32 = .ok (.ireturn, 1) := by decide +kernel
theorem dX0_copyFrom_0 : decode (cr_by Y_X0_copyFrom) 0 = .ok (.aload_n 0, 1) := by decide +kernel
theorem dX0_copyFrom_1 : decode (cr_by Y_X0_copyFrom) 1 = .ok (.aload_n 1, 1) := by decide +kernel
theorem dX0_copyFrom_2 : decode (cr_by Y_X0_copyFrom) 2 = .ok (.getfield 48, 3) := by decide +kernel
theorem dX0_copyFrom_5 : decode (cr_by Y_X0_copyFrom) 5 = .ok (.putfield 48, 3) := by decide +kernel
theorem dX0_copyFrom_8 : decode (cr_by Y_X0_copyFrom) 8 = .ok (.aload_n 1, 1) := by decide +kernel
theorem dX0_copyFrom_9 : decode (cr_by Y_X0_copyFrom) 9 = .ok (.getfield 9, 3) := by decide +kernel
theorem dX0_copyFrom_12 : decode (cr_by Y_X0_copyFrom) 12 = .ok (.iconst 0, 1) := by decide +kernel
theorem dX0_copyFrom_13 : decode (cr_by Y_X0_copyFrom) 13 = .ok (.aload_n 0, 1) := by decide +kernel
theorem dX0_copyFrom_14 : decode (cr_by Y_X0_copyFrom) 14 = .ok (.getfield 9, 3) := by decide +kernel
theorem dX0_copyFrom_17 : decode (cr_by Y_X0_copyFrom) 17 = .ok (.iconst 0, 1) := by decide +kernel
theorem dX0_copyFrom_18 : decode (cr_by Y_X0_copyFrom) 18 = .ok (.aload_n 0, 1) := by decide +kernel
theorem dX0_copyFrom_19 : decode (cr_by Y_X0_copyFrom) 19 = .ok (.getfield 48, 3) := by decide +kernel
theorem dX0_copyFrom_22 : decode (cr_by Y_X0_copyFrom) 22 = .ok (.invokestatic 63, 3) := by decide +kernel
theorem dX0_copyFrom_25 : decode (cr_by Y_X0_copyFrom) 25 = .ok (.aload_n 1, 1) := by decide +kernel
theorem dX0_copyFrom_26 : decode (cr_by Y_X0_copyFrom) 26 = .ok (.getfield 15, 3) := by decide +kernel
theorem dX0_copyFrom_29 : decode (cr_by Y_X0_copyFrom) 29 = .ok (.iconst 0, 1) := by decide +kernel
theorem dX0_copyFrom_30 : decode (cr_by Y_X0_copyFrom) 30 = .ok (.aload_n 0, 1) := by decide +kernel
theorem dX0_copyFrom_31 : decode (cr_by Y_X0_copyFrom) 31 = .ok (.getfield 15, 3) := by decide +kernel
theorem dX0_copyFrom_34 : decode (cr_by Y_X0_copyFrom) 34 = .ok (.iconst 0, 1) := by decide +kernel
theorem dX0_copyFrom_35 : decode (cr_by Y_X0_copyFrom) 35 = .ok (.aload_n 0, 1) := by decide +kernel
theorem dX0_copyFrom_36 : decode (cr_by Y_X0_copyFrom) 36 = .ok (.getfield 48, 3) := by decide +kernel
theorem dX0_copyFrom_39 : decode (cr_by Y_X0_copyFrom) 39 = .ok (.invokestatic 63, 3) := by decide +kernel
theorem dX0_copyFrom_42 : decode (cr_by Y_X0_copyFrom) 42 = .ok (.aload_n 1, 1) := by decide +kernel
theorem dX0_copyFrom_43 : decode (cr_by Y_X0_copyFrom) 43 = .ok (.getfield 18, 3) := by decide +kernel
theorem dX0_copyFrom_46 : decode (cr_by Y_X0_copyFrom) 46 = .ok (.iconst 0, 1) := by decide +kernel
theorem dX0_copyFrom_47 : decode (cr_by Y_X0_copyFrom) 47 = .ok (.aload_n 0, 1) := by decide +kernel
theorem dX0_copyFrom_48 : decode (cr_by Y_X0_copyFrom) 48 = .ok (.getfield 18, 3) := by decide +kernel
theorem dX0_copyFrom_51 : decode (cr_by Y_X0_copyFrom) 51 = .ok (.iconst 0, 1) := by decide +kernel
theorem dX0_copyFrom_52 : decode (cr_by Y_X0_copyFrom) 52 = .ok (.aload_n 0, 1) := by decide +kernel
theorem dX0_copyFrom_53 : decode (cr_by Y_X0_copyFrom) 53 = .ok (.getfield 48, 3) := by decide +kernel
theorem dX0_copyFrom_56 : decode (cr_by Y_X0_copyFrom) 56 = .ok (.invokestatic 63, 3) := by decide +kernel
theorem dX0_copyFrom_59 : decode (cr_by Y_X0_copyFrom) 59 = .ok (.aload_n 1, 1) := by decide +kernel
theorem dX0_copyFrom_60 : decode (cr_by Y_X0_copyFrom) 60 = .ok (.getfield 21, 3) := by decide +kernel
theorem dX0_copyFrom_63 : decode (cr_by Y_X0_copyFrom) 63 = .ok (.iconst 0, 1) := by decide +kernel
theorem dX0_copyFrom_64 : decode (cr_by Y_X0_copyFrom) 64 = .ok (.aload_n 0, 1) := by decide +kernel
theorem dX0_copyFrom_65 : decode (cr_by Y_X0_copyFrom) 65 = .ok (.getfield 21, 3) := by decide +kernel
theorem dX0_copyFrom_68 : decode (cr_by Y_X0_copyFrom) 68 = .ok (.iconst 0, 1) := by decide +kernel
theorem dX0_copyFrom_69 : decode (cr_by Y_X0_copyFrom) 69 = .ok (.aload_n 0, 1) := by decide +kernel
theorem dX0_copyFrom_70 : decode (cr_by Y_X0_copyFrom) 70 = .ok (.getfield 48, 3) := by decide +kernel
theorem dX0_copyFrom_73 : decode (cr_by Y_X0_copyFrom) 73 = .ok (.invokestatic 63, 3) := by decide +kernel
theorem dX0_copyFrom_76 : decode (cr_by Y_X0_copyFrom) 76 = .ok (.aload_n 1, 1) := by decide +kernel
theorem dX0_copyFrom_77 : decode (cr_by Y_X0_copyFrom) 77 = .ok (.getfield 24, 3) := by decide +kernel
theorem dX0_copyFrom_80 : decode (cr_by Y_X0_copyFrom) 80 = .ok (.iconst 0, 1) := by decide +kernel
theorem dX0_copyFrom_81 : decode (cr_by Y_X0_copyFrom) 81 = .ok (.aload_n 0, 1) := by decide +kernel
theorem dX0_copyFrom_82 : decode (cr_by Y_X0_copyFrom) 82 = .ok (.getfield 24, 3) := by decide +kernel
theorem dX0_copyFrom_85 : decode (cr_by Y_X0_copyFrom) 85 = .ok (.iconst 0, 1) := by decide +kernel
theorem dX0_copyFrom_86 : decode (cr_by Y_X0_copyFrom) 86 = .ok (.aload_n 0, 1) := by decide +kernel
theorem dX0_copyFrom_87 : decode (cr_by Y_X0_copyFrom) 87 = .ok (.getfield 48, 3) := by decide +kernel
theorem dX0_copyFrom_90 : decode (cr_by Y_X0_copyFrom) 90 = .ok (.invokestatic 63, 3) := by decide +kernel
theorem dX0_copyFrom_93 : decode (cr_by Y_X0_copyFrom) 93 = .ok (.aload_n 1, 1) := by decide +kernel
theorem dX0_copyFrom_94 : decode (cr_by Y_X0_copyFrom) 94 = .ok (.getfield 27, 3) := by decide +kernel
theorem dX0_copyFrom_97 : decode (cr_by Y_X0_copyFrom) 97 = .ok (.iconst 0, 1) := by decide +kernel
theorem dX0_copyFrom_98 : decode (cr_by Y_X0_copyFrom) 98 = .ok (.aload_n 0, 1) := by decide +kernel
theorem dX0_copyFrom_99 : decode (cr_by Y_X0_copyFrom) 99 = .ok (.getfield 27, 3) := by decide +kernel
theorem dX0_copyFrom_102 : decode (cr_by Y_X0_copyFrom) 102 = .ok (.iconst 0, 1) := by decide +kernel
theorem dX0_copyFrom_103 : decode (cr_by Y_X0_copyFrom) 103 = .ok (.aload_n 0, 1) := by decide +kernel
theorem dX0_copyFrom_104 : decode (cr_by Y_X0_copyFrom) 104 = .ok (.getfield 48, 3) := by decide +kernel
theorem dX0_copyFrom_107 : decode (cr_by Y_X0_copyFrom) 107 = .ok (.invokestatic 63, 3) := by decide +kernel
theorem dX0_copyFrom_110 : decode (cr_by Y_X0_copyFrom) 110 = .ok (.aload_n 1, 1) := by decide +kernel
theorem dX0_copyFrom_111 : decode (cr_by Y_X0_copyFrom) 111 = .ok (.getfield 30, 3) := by decide +kernel
theorem dX0_copyFrom_114 : decode (cr_by Y_X0_copyFrom) 114 = .ok (.iconst 0, 1) := by decide +kernel
theorem dX0_copyFrom_115 : decode (cr_by Y_X0_copyFrom) 115 = .ok (.aload_n 0, 1) := by decide +kernel
theorem dX0_copyFrom_116 : decode (cr_by Y_X0_copyFrom) 116 = .ok (.getfield 30, 3) := by decide +kernel
theorem dX0_copyFrom_119 : decode (cr_by Y_X0_copyFrom) 119 = .ok (.iconst 0, 1) := by decide +kernel
theorem dX0_copyFrom_120 : decode (cr_by Y_X0_copyFrom) 120 = .ok (.aload_n 0, 1) := by decide +kernel
theorem dX0_copyFrom_121 : decode (cr_by Y_X0_copyFrom) 121 = .ok (.getfield 48, 3) := by decide +kernel
theorem dX0_copyFrom_124 : decode (cr_by Y_X0_copyFrom) 124 = .ok (.invokestatic 63, 3) := by decide +kernel
theorem dX0_copyFrom_127 : decode (cr_by Y_X0_copyFrom) 127 = .ok (.aload_n 1, 1) := by decide +kernel
theorem dX0_copyFrom_128 : decode (cr_by Y_X0_copyFrom) 128 = .ok (.getfield 33, 3) := by decide +kernel
theorem dX0_copyFrom_131 : decode (cr_by Y_X0_copyFrom) 131 = .ok (.iconst 0, 1) := by decide +kernel
theorem dX0_copyFrom_132 : decode (cr_by Y_X0_copyFrom) 132 = .ok (.aload_n 0, 1) := by decide +kernel
theorem dX0_copyFrom_133 : decode (cr_by Y_X0_copyFrom) 133 = .ok (.getfield 33, 3) := by decide +kernel
theorem dX0_copyFrom_136 : decode (cr_by Y_X0_copyFrom) 136 = .ok (.iconst 0, 1) := by decide +kernel
theorem dX0_copyFrom_137 : decode (cr_by Y_X0_copyFrom) 137 = .ok (.aload_n 0, 1) := by decide +kernel
theorem dX0_copyFrom_138 : decode (cr_by Y_X0_copyFrom) 138 = .ok (.getfield 48, 3) := by decide +kernel
theorem dX0_copyFrom_141 : decode (cr_by Y_X0_copyFrom) 141 = .ok (.invokestatic 63, 3) := by decide +kernel
theorem dX0_copyFrom_144 : decode (cr_by Y_X0_copyFrom) 144 = .ok (.aload_n 1, 1) := by decide +kernel
theorem dX0_copyFrom_145 : decode (cr_by Y_X0_copyFrom) 145 = .ok (.getfield 36, 3) := by decide +kernel
theorem dX0_copyFrom_148 : decode (cr_by Y_X0_copyFrom) 148 = .ok (.iconst 0, 1) := by decide +kernel
theorem dX0_copyFrom_149 : decode (cr_by Y_X0_copyFrom) 149 = .ok (.aload_n 0, 1) := by decide +kernel
theorem dX0_copyFrom_150 : decode (cr_by Y_X0_copyFrom) 150 = .ok (.getfield 36, 3) := by decide +kernel
theorem dX0_copyFrom_153 : decode (cr_by Y_X0_copyFrom) 153 = .ok (.iconst 0, 1) := by decide +kernel
theorem dX0_copyFrom_154 : decode (cr_by Y_X0_copyFrom) 154 = .ok (.aload_n 0, 1) := by decide +kernel
theorem dX0_copyFrom_155 : decode (cr_by Y_X0_copyFrom) 155 = .ok (.getfield 48, 3) := by decide +kernel
theorem dX0_copyFrom_158 : decode (cr_by Y_X0_copyFrom) 158 = .ok (.invokestatic 63, 3) := by decide +kernel
theorem dX0_copyFrom_161 : decode (cr_by Y_X0_copyFrom) 161 = .ok (.aload_n 1, 1) := by decide +kernel
theorem dX0_copyFrom_162 : decode (cr_by Y_X0_copyFrom) 162 = .ok (.getfield 39, 3) := by decide +kernel
theorem dX0_copyFrom_165 : decode (cr_by Y_X0_copyFrom) 165 = .ok (.iconst 0, 1) := by decide +kernel
theorem dX0_copyFrom_166 : decode (cr_by Y_X0_copyFrom) 166 = .ok (.aload_n 0, 1) := by decide +kernel
theorem dX0_copyFrom_167 : decode (cr_by Y_X0_copyFrom) 167 = .ok (.getfield 39, 3) := by decide +kernel
theorem dX0_copyFrom_170 : decode (cr_by Y_X0_copyFrom) 170 = .ok (.iconst 0, 1) := by decide +kernel
theorem dX0_copyFrom_171 : decode (cr_by Y_X0_copyFrom) 171 = .ok (.aload_n 0, 1) := by decide +kernel
theorem dX0_copyFrom_172 : decode (cr_by Y_X0_copyFrom) 172 = .ok (.getfield 48, 3) := by decide +kernel
theorem dX0_copyFrom_175 : decode (cr_by Y_X0_copyFrom) 175 = .ok (.invokestatic 63, 3) := by decide +kernel
theorem dX0_copyFrom_178 : decode (cr_by Y_X0_copyFrom) 178 = .ok (.aload_n 1, 1) := by decide +kernel
theorem dX0_copyFrom_179 : decode (cr_by Y_X0_copyFrom) 179 = .ok (.getfield 42, 3) := by decide +kernel
theorem dX0_copyFrom_182 : decode (cr_by Y_X0_copyFrom) 182 = .ok (.iconst 0, 1) := by decide +kernel
theorem dX0_copyFrom_183 : decode (cr_by Y_X0_copyFrom) 183 = .ok (.aload_n 0, 1) := by decide +kernel
theorem dX0_copyFrom_184 : decode (cr_by Y_X0_copyFrom) 184 = .ok (.getfield 42, 3) := by decide +kernel
theorem dX0_copyFrom_187 : decode (cr_by Y_X0_copyFrom) 187 = .ok (.iconst 0, 1) := by decide +kernel
theorem dX0_copyFrom_188 : decode (cr_by Y_X0_copyFrom) 188 = .ok (.aload_n 0, 1) := by decide +kernel
theorem dX0_copyFrom_189 : decode (cr_by Y_X0_copyFrom) 189 = .ok (.getfield 48, 3) := by decide +kernel
theorem dX0_copyFrom_192 : decode (cr_by Y_X0_copyFrom) 192 = .ok (.invokestatic 63, 3) := by decide +kernel
theorem dX0_copyFrom_195 : decode (cr_by Y_X0_copyFrom) 195 = .ok (.aload_n 1, 1) := by decide +kernel
theorem dX0_copyFrom_196 : decode (cr_by Y_X0_copyFrom) 196 = .ok (.getfield 45, 3) := by decide +kernel
theorem dX0_copyFrom_199 : decode (cr_by Y_X0_copyFrom) 199 = .ok (.iconst 0, 1) := by decide +kernel
theorem dX0_copyFrom_200 : decode (cr_by Y_X0_copyFrom) 200 = .ok (.aload_n 0, 1) := by decide +kernel
theorem dX0_copyFrom_201 : decode (cr_by Y_X0_copyFrom) 201 = .ok (.getfield 45, 3) := by decide +kernel
theorem dX0_copyFrom_204 : decode (cr_by Y_X0_copyFrom) 204 = .ok (.iconst 0, 1) := by decide +kernel
theorem dX0_copyFrom_205 : decode (cr_by Y_X0_copyFrom) 205 = .ok (.aload_n 0, 1) := by decide +kernel
theorem dX0_copyFrom_206 : decode (cr_by Y_X0_copyFrom) 206 = .ok (.getfield 48, 3) := by decide +kernel
theorem dX0_copyFrom_209 : decode (cr_by Y_X0_copyFrom) 209 = .ok (.invokestatic 63, 3) := by decide +kernel
theorem dX0_copyFrom_212 : decode (cr_by Y_X0_copyFrom) 212 = .ok (.return_, 1) := by decide +kernel
end
section
theorem dX1_copyFrom_0 : decode (cr_by Y_X1_copyFrom) 0 = .ok (.aload_n 0, 1) := by decide +kernel
theorem dX1_copyFrom_1 : decode (cr_by Y_X1_copyFrom) 1 = .ok (.getfield 12, 3) := by decide +kernel
theorem dX1_copyFrom_4 : decode (cr_by Y_X1_copyFrom) 4 = .ok (.aload_n 1, 1) := by decide +kernel
theorem dX1_copyFrom_5 : decode (cr_by Y_X1_copyFrom) 5 = .ok (.getfield 12, 3) := by decide +kernel
theorem dX1_copyFrom_8 : decode (cr_by Y_X1_copyFrom) 8 = .ok (.invokevirtual 36, 3) := by decide +kernel
theorem dX1_copyFrom_11 : decode (cr_by Y_X1_copyFrom) 11 = .ok (.aload_n 0, 1) := by decide +kernel
theorem dX1_copyFrom_12 : decode (cr_by Y_X1_copyFrom) 12 = .ok (.getfield 21, 3) := by decide +kernel
theorem dX1_copyFrom_15 : decode (cr_by Y_X1_copyFrom) 15 = .ok (.aload_n 1, 1) := by decide +kernel
theorem dX1_copyFrom_16 : decode (cr_by Y_X1_copyFrom) 16 = .ok (.getfield 21, 3) := by decide +kernel
theorem dX1_copyFrom_19 : decode (cr_by Y_X1_copyFrom) 19 = .ok (.invokevirtual 40, 3) := by decide +kernel
theorem dX1_copyFrom_22 : decode (cr_by Y_X1_copyFrom) 22 = .ok (.aload_n 0, 1) := by decide +kernel
theorem dX1_copyFrom_23 : decode (cr_by Y_X1_copyFrom) 23 = .ok (.aload_n 1, 1) := by decide +kernel
theorem dX1_copyFrom_24 : decode (cr_by Y_X1_copyFrom) 24 = .ok (.getfield 43, 3) := by decide +kernel
theorem dX1_copyFrom_27 : decode (cr_by Y_X1_copyFrom) 27 = .ok (.putfield 43, 3) := by decide +kernel
theorem dX1_copyFrom_30 : decode (cr_by Y_X1_copyFrom) 30 = .ok (.aload_n 0, 1) := by decide +kernel
theorem dX1_copyFrom_31 : decode (cr_by Y_X1_copyFrom) 31 = .ok (.aload_n 1, 1) := by decide +kernel
theorem dX1_copyFrom_32 : decode (cr_by Y_X1_copyFrom) 32 = .ok (.getfield 46, 3) := by decide +kernel
theorem dX1_copyFrom_35 : decode (cr_by Y_X1_copyFrom) 35 = .ok (.putfield 46, 3) := by decide +kernel
theorem dX1_copyFrom_38 : decode (cr_by Y_X1_copyFrom) 38 = .ok (.aload_n 0, 1) := by decide +kernel
theorem dX1_copyFrom_39 : decode (cr_by Y_X1_copyFrom) 39 = .ok (.aload_n 1, 1) := by decide +kernel
theorem dX1_copyFrom_40 : decode (cr_by Y_X1_copyFrom) 40 = .ok (.getfield 32, 3) := by decide +kernel
theorem dX1_copyFrom_43 : decode (cr_by Y_X1_copyFrom) 43 = .ok (.putfield 32, 3) := by decide +kernel
theorem dX1_copyFrom_46 : decode (cr_by Y_X1_copyFrom) 46 = .ok (.return_, 1) := by decide +kernel
theorem dX1_goOn_0 : decode (cr_by Y_X1_goOn) 0 = .ok (.iconst 0, 1) := by decide +kernel
theorem dX1_goOn_1 : decode (cr_by Y_X1_goOn) 1 = .ok (.istore_n 2, 1) := by decide +kernel
theorem dX1_goOn_2 : decode (cr_by Y_X1_goOn) 2 = .ok (.iconst 1, 1) := by decide +kernel
theorem dX1_goOn_3 : decode (cr_by Y_X1_goOn) 3 = .ok (.istore_n 3, 1) := by decide +kernel
theorem dX1_goOn_4 : decode (cr_by Y_X1_goOn) 4 = .ok (.iload_n 3, 1) := by decide +kernel
theorem dX1_goOn_5 : decode (cr_by Y_X1_goOn) 5 = .ok (.iload_n 1, 1) := by decide +kernel
theorem dX1_goOn_6 : decode (cr_by Y_X1_goOn) 6 = .ok (.if_icmp .gt 30, 3) := by decide +kernel
theorem dX1_goOn_9 : decode (cr_by Y_X1_goOn) 9 = .ok (.iload_n 2, 1) := by decide +kernel
theorem dX1_goOn_10 : decode (cr_by Y_X1_goOn) 10 = .ok (.aload_n 0, 1) := by decide +kernel
theorem dX1_goOn_11 : decode (cr_by Y_X1_goOn) 11 = .ok (.invokevirtual 49, 3) := by decide +kernel
theorem dX1_goOn_14 : decode (cr_by Y_X1_goOn) 14 = .ok (.iadd, 1) := by decide +kernel
theorem dX1_goOn_15 : decode (cr_by Y_X1_goOn) 15 = .ok (.istore_n 2, 1) := by decide +kernel
theorem dX1_goOn_16 : decode (cr_by Y_X1_goOn) 16 = .ok (.iload_n 3, 1) := by decide +kernel
theorem dX1_goOn_17 : decode (cr_by Y_X1_goOn) 17 = .ok (.iconst 0, 1) := by decide +kernel
theorem dX1_goOn_18 : decode (cr_by Y_X1_goOn) 18 = .ok (.aload_n 0, 1) := by decide +kernel
theorem dX1_goOn_19 : decode (cr_by Y_X1_goOn) 19 = .ok (.iload_n 1, 1) := by decide +kernel
theorem dX1_goOn_20 : decode (cr_by Y_X1_goOn) 20 = .ok (.iload_n 3, 1) := by decide +kernel
theorem dX1_goOn_21 : decode (cr_by Y_X1_goOn) 21 = .ok (.isub, 1) := by decide +kernel
theorem dX1_goOn_22 : decode (cr_by Y_X1_goOn) 22 = .ok (.invokevirtual 53, 3) := by decide +kernel
theorem dX1_goOn_25 : decode (cr_by Y_X1_goOn) 25 = .ok (.invokestatic 57, 3) := by decide +kernel
theorem dX1_goOn_28 : decode (cr_by Y_X1_goOn) 28 = .ok (.iadd, 1) := by decide +kernel
theorem dX1_goOn_29 : decode (cr_by Y_X1_goOn) 29 = .ok (.istore_n 3, 1) := by decide +kernel
theorem dX1_goOn_30 : decode (cr_by Y_X1_goOn) 30 = .ok (.iinc 3 1, 3) := by decide +kernel
theorem dX1_goOn_33 : decode (cr_by Y_X1_goOn) 33 = .ok (.goto (-29), 3) := by decide +kernel
theorem dX1_goOn_36 : decode (cr_by Y_X1_goOn) 36 = .ok (.iload_n 2, 1) := by decide +kernel
theorem dX1_goOn_37 : decode (cr_by Y_X1_goOn) 37 = .ok (.ireturn, 1) := by decide +kernel
theorem dX1_ticksTillOn_0 : decode (cr_by Y_X1_ticksTillOn) 0 = .ok (.iconst 1, 1) := by decide +kernel
theorem dX1_ticksTillOn_1 : decode (cr_by Y_X1_ticksTillOn) 1 = .ok (.istore_n 2, 1) := by decide +kernel
theorem dX1_ticksTillOn_2 : decode (cr_by Y_X1_ticksTillOn) 2 = .ok (.iload_n 2, 1) := by decide +kernel
theorem dX1_ticksTillOn_3 : decode (cr_by Y_X1_ticksTillOn) 3 = .ok (.sipush 1000, 3) := by decide +kernel
theorem dX1_ticksTillOn_6 : decode (cr_by Y_X1_ticksTillOn) 6 = .ok (.if_icmp .gt 61, 3) := by decide +kernel
theorem dX1_ticksTillOn_9 : decode (cr_by Y_X1_ticksTillOn) 9 = .ok (.aload_n 0, 1) := by decide +kernel
theorem dX1_ticksTillOn_10 : decode (cr_by Y_X1_ticksTillOn) 10 = .ok (.invokevirtual 49, 3) := by decide +kernel
theorem dX1_ticksTillOn_13 : decode (cr_by Y_X1_ticksTillOn) 13 = .ok (.pop, 1) := by decide +kernel
theorem dX1_ticksTillOn_14 : decode (cr_by Y_X1_ticksTillOn) 14 = .ok (.aload_n 0, 1) := by decide +kernel
theorem dX1_ticksTillOn_15 : decode (cr_by Y_X1_ticksTillOn) 15 = .ok (.getfield 21, 3) := by decide +kernel
theorem dX1_ticksTillOn_18 : decode (cr_by Y_X1_ticksTillOn) 18 = .ok (.getfield 63, 3) := by decide +kernel
theorem dX1_ticksTillOn_21 : decode (cr_by Y_X1_ticksTillOn) 21 = .ok (.iload_n 1, 1) := by decide +kernel
theorem dX1_ticksTillOn_22 : decode (cr_by Y_X1_ticksTillOn) 22 = .ok (.iaload, 1) := by decide +kernel
theorem dX1_ticksTillOn_23 : decode (cr_by Y_X1_ticksTillOn) 23 = .ok (.iconst 1, 1) := by decide +kernel
theorem dX1_ticksTillOn_24 : decode (cr_by Y_X1_ticksTillOn) 24 = .ok (.if_icmp .ne 5, 3) := by decide +kernel
theorem dX1_ticksTillOn_27 : decode (cr_by Y_X1_ticksTillOn) 27 = .ok (.iload_n 2, 1) := by decide +kernel
theorem dX1_ticksTillOn_28 : decode (cr_by Y_X1_ticksTillOn) 28 = .ok (.ireturn, 1) := by decide +kernel
theorem dX1_ticksTillOn_29 : decode (cr_by Y_X1_ticksTillOn) 29 = .ok (.aload_n 0, 1) := by decide +kernel
theorem dX1_ticksTillOn_30 : decode (cr_by Y_X1_ticksTillOn) 30 = .ok (.getfield 21, 3) := by decide +kernel
theorem dX1_ticksTillOn_33 : decode (cr_by Y_X1_ticksTillOn) 33 = .ok (.getfield 63, 3) := by decide +kernel
theorem dX1_ticksTillOn_36 : decode (cr_by Y_X1_ticksTillOn) 36 = .ok (.iload_n 1, 1) := by decide +kernel
theorem dX1_ticksTillOn_37 : decode (cr_by Y_X1_ticksTillOn) 37 = .ok (.iaload, 1) := by decide +kernel
theorem dX1_ticksTillOn_38 : decode (cr_by Y_X1_ticksTillOn) 38 = .ok (.iconst 3, 1) := by decide +kernel
theorem dX1_ticksTillOn_39 : decode (cr_by Y_X1_ticksTillOn) 39 = .ok (.if_icmp .ne 6, 3) := by decide +kernel
theorem dX1_ticksTillOn_42 : decode (cr_by Y_X1_ticksTillOn) 42 = .ok (.bipush (-8), 2) := by decide +kernel
theorem dX1_ticksTillOn_44 : decode (cr_by Y_X1_ticksTillOn) 44 = .ok (.ireturn, 1) := by decide +kernel
theorem dX1_ticksTillOn_45 : decode (cr_by Y_X1_ticksTillOn) 45 = .ok (.iload_n 2, 1) := by decide +kernel
theorem dX1_ticksTillOn_46 : decode (cr_by Y_X1_ticksTillOn) 46 = .ok (.iconst 0, 1) := by decide +kernel
theorem dX1_ticksTillOn_47 : decode (cr_by Y_X1_ticksTillOn) 47 = .ok (.aload_n 0, 1) := by decide +kernel
theorem dX1_ticksTillOn_48 : decode (cr_by Y_X1_ticksTillOn) 48 = .ok (.sipush 1000, 3) := by decide +kernel
theorem dX1_ticksTillOn_51 : decode (cr_by Y_X1_ticksTillOn) 51 = .ok (.iload_n 2, 1) := by decide +kernel
theorem dX1_ticksTillOn_52 : decode (cr_by Y_X1_ticksTillOn) 52 = .ok (.isub, 1) := by decide +kernel
theorem dX1_ticksTillOn_53 : decode (cr_by Y_X1_ticksTillOn) 53 = .ok (.invokevirtual 53, 3) := by decide +kernel
theorem dX1_ticksTillOn_56 : decode (cr_by Y_X1_ticksTillOn) 56 = .ok (.invokestatic 57, 3) := by decide +kernel
theorem dX1_ticksTillOn_59 : decode (cr_by Y_X1_ticksTillOn) 59 = .ok (.iadd, 1) := by decide +kernel
theorem dX1_ticksTillOn_60 : decode (cr_by Y_X1_ticksTillOn) 60 = .ok (.istore_n 2, 1) := by decide +kernel
theorem dX1_ticksTillOn_61 : decode (cr_by Y_X1_ticksTillOn) 61 = .ok (.iinc 2 1, 3) := by decide +kernel
theorem dX1_ticksTillOn_64 : decode (cr_by Y_X1_ticksTillOn) 64 = .ok (.goto (-62), 3) := by decide +kernel
theorem dX1_ticksTillOn_67 : decode (cr_by Y_X1_ticksTillOn) 67 = .ok (.bipush (-9), 2) := by decide +kernel
theorem dX1_ticksTillOn_69 : decode (cr_by Y_X1_ticksTillOn) 69 = .ok (.ireturn, 1) := by decide +kernel
theorem dX1_passTick_0 : decode (cr_by Y_X1_passTick) 0 = .ok (.aload_n 0, 1) := by decide +kernel
theorem dX1_passTick_1 : decode (cr_by Y_X1_passTick) 1 = .ok (.getfield 12, 3) := by decide +kernel
theorem dX1_passTick_4 : decode (cr_by Y_X1_passTick) 4 = .ok (.iconst 1, 1) := by decide +kernel
theorem dX1_passTick_5 : decode (cr_by Y_X1_passTick) 5 = .ok (.invokevirtual 66, 3) := by decide +kernel
theorem dX1_passTick_8 : decode (cr_by Y_X1_passTick) 8 = .ok (.aload_n 0, 1) := by decide +kernel
theorem dX1_passTick_9 : decode (cr_by Y_X1_passTick) 9 = .ok (.dup, 1) := by decide +kernel
theorem dX1_passTick_10 : decode (cr_by Y_X1_passTick) 10 = .ok (.getfield 43, 3) := by decide +kernel
theorem dX1_passTick_13 : decode (cr_by Y_X1_passTick) 13 = .ok (.iconst 1, 1) := by decide +kernel
theorem dX1_passTick_14 : decode (cr_by Y_X1_passTick) 14 = .ok (.iadd, 1) := by decide +kernel
theorem dX1_passTick_15 : decode (cr_by Y_X1_passTick) 15 = .ok (.putfield 43, 3) := by decide +kernel
theorem dX1_passTick_18 : decode (cr_by Y_X1_passTick) 18 = .ok (.aload_n 0, 1) := by decide +kernel
theorem dX1_passTick_19 : decode (cr_by Y_X1_passTick) 19 = .ok (.invokevirtual 70, 3) := by decide +kernel
theorem dX1_passTick_22 : decode (cr_by Y_X1_passTick) 22 = .ok (.istore_n 1, 1) := by decide +kernel
theorem dX1_passTick_23 : decode (cr_by Y_X1_passTick) 23 = .ok (.aload_n 0, 1) := by decide +kernel
theorem dX1_passTick_24 : decode (cr_by Y_X1_passTick) 24 = .ok (.getfield 12, 3) := by decide +kernel
theorem dX1_passTick_27 : decode (cr_by Y_X1_passTick) 27 = .ok (.aload_n 0, 1) := by decide +kernel
theorem dX1_passTick_28 : decode (cr_by Y_X1_passTick) 28 = .ok (.getfield 43, 3) := by decide +kernel
theorem dX1_passTick_31 : decode (cr_by Y_X1_passTick) 31 = .ok (.invokevirtual 73, 3) := by decide +kernel
theorem dX1_passTick_34 : decode (cr_by Y_X1_passTick) 34 = .ok (.aload_n 0, 1) := by decide +kernel
theorem dX1_passTick_35 : decode (cr_by Y_X1_passTick) 35 = .ok (.getfield 21, 3) := by decide +kernel
theorem dX1_passTick_38 : decode (cr_by Y_X1_passTick) 38 = .ok (.aload_n 0, 1) := by decide +kernel
theorem dX1_passTick_39 : decode (cr_by Y_X1_passTick) 39 = .ok (.getfield 43, 3) := by decide +kernel
theorem dX1_passTick_42 : decode (cr_by Y_X1_passTick) 42 = .ok (.invokevirtual 76, 3) := by decide +kernel
theorem dX1_passTick_45 : decode (cr_by Y_X1_passTick) 45 = .ok (.aload_n 0, 1) := by decide +kernel
theorem dX1_passTick_46 : decode (cr_by Y_X1_passTick) 46 = .ok (.getfield 21, 3) := by decide +kernel
theorem dX1_passTick_49 : decode (cr_by Y_X1_passTick) 49 = .ok (.aload_n 0, 1) := by decide +kernel
theorem dX1_passTick_50 : decode (cr_by Y_X1_passTick) 50 = .ok (.getfield 43, 3) := by decide +kernel
theorem dX1_passTick_53 : decode (cr_by Y_X1_passTick) 53 = .ok (.invokevirtual 79, 3) := by decide +kernel
theorem dX1_passTick_56 : decode (cr_by Y_X1_passTick) 56 = .ok (.aload_n 0, 1) := by decide +kernel
theorem dX1_passTick_57 : decode (cr_by Y_X1_passTick) 57 = .ok (.invokevirtual 82, 3) := by decide +kernel
theorem dX1_passTick_60 : decode (cr_by Y_X1_passTick) 60 = .ok (.iload_n 1, 1) := by decide +kernel
theorem dX1_passTick_61 : decode (cr_by Y_X1_passTick) 61 = .ok (.ireturn, 1) := by decide +kernel
theorem dX1_skipQuietTicks_0 : decode (cr_by Y_X1_skipQuietTicks) 0 = .ok (.aload_n 0, 1) := by decide +kernel
theorem dX1_skipQuietTicks_1 : decode (cr_by Y_X1_skipQuietTicks) 1 = .ok (.invokevirtual 85, 3) := by decide +kernel
theorem dX1_skipQuietTicks_4 : decode (cr_by Y_X1_skipQuietTicks) 4 = .ok (.aload_n 0, 1) := by decide +kernel
theorem dX1_skipQuietTicks_5 : decode (cr_by Y_X1_skipQuietTicks) 5 = .ok (.getfield 43, 3) := by decide +kernel
theorem dX1_skipQuietTicks_8 : decode (cr_by Y_X1_skipQuietTicks) 8 = .ok (.isub, 1) := by decide +kernel
theorem dX1_skipQuietTicks_9 : decode (cr_by Y_X1_skipQuietTicks) 9 = .ok (.iconst 1, 1) := by decide +kernel
theorem dX1_skipQuietTicks_10 : decode (cr_by Y_X1_skipQuietTicks) 10 = .ok (.isub, 1) := by decide +kernel
theorem dX1_skipQuietTicks_11 : decode (cr_by Y_X1_skipQuietTicks) 11 = .ok (.istore_n 2, 1) := by decide +kernel
theorem dX1_skipQuietTicks_12 : decode (cr_by Y_X1_skipQuietTicks) 12 = .ok (.iconst 0, 1) := by decide +kernel
theorem dX1_skipQuietTicks_13 : decode (cr_by Y_X1_skipQuietTicks) 13 = .ok (.iload_n 2, 1) := by decide +kernel
theorem dX1_skipQuietTicks_14 : decode (cr_by Y_X1_skipQuietTicks) 14 = .ok (.iload_n 1, 1) := by decide +kernel
theorem dX1_skipQuietTicks_15 : decode (cr_by Y_X1_skipQuietTicks) 15 = .ok (.invokestatic 88, 3) := by decide +kernel
theorem dX1_skipQuietTicks_18 : decode (cr_by Y_X1_skipQuietTicks) 18 = .ok (.invokestatic 57, 3) := by decide +kernel
theorem dX1_skipQuietTicks_21 : decode (cr_by Y_X1_skipQuietTicks) 21 = .ok (.istore_n 3, 1) := by decide +kernel
theorem dX1_skipQuietTicks_22 : decode (cr_by Y_X1_skipQuietTicks) 22 = .ok (.aload_n 0, 1) := by decide +kernel
theorem dX1_skipQuietTicks_23 : decode (cr_by Y_X1_skipQuietTicks) 23 = .ok (.getfield 12, 3) := by decide +kernel
theorem dX1_skipQuietTicks_26 : decode (cr_by Y_X1_skipQuietTicks) 26 = .ok (.iload_n 3, 1) := by decide +kernel
theorem dX1_skipQuietTicks_27 : decode (cr_by Y_X1_skipQuietTicks) 27 = .ok (.invokevirtual 66, 3) := by decide +kernel
theorem dX1_skipQuietTicks_30 : decode (cr_by Y_X1_skipQuietTicks) 30 = .ok (.aload_n 0, 1) := by decide +kernel
theorem dX1_skipQuietTicks_31 : decode (cr_by Y_X1_skipQuietTicks) 31 = .ok (.dup, 1) := by decide +kernel
theorem dX1_skipQuietTicks_32 : decode (cr_by Y_X1_skipQuietTicks) 32 = .ok (.getfield 43, 3) := by decide +kernel
theorem dX1_skipQuietTicks_35 : decode (cr_by Y_X1_skipQuietTicks) 35 = .ok (.iload_n 3, 1) := by decide +kernel
theorem dX1_skipQuietTicks_36 : decode (cr_by Y_X1_skipQuietTicks) 36 = .ok (.iadd, 1) := by decide +kernel
theorem dX1_skipQuietTicks_37 : decode (cr_by Y_X1_skipQuietTicks) 37 = .ok (.putfield 43, 3) := by decide +kernel
theorem dX1_skipQuietTicks_40 : decode (cr_by Y_X1_skipQuietTicks) 40 = .ok (.iload_n 3, 1) := by decide +kernel
theorem dX1_skipQuietTicks_41 : decode (cr_by Y_X1_skipQuietTicks) 41 = .ok (.ireturn, 1) := by decide +kernel
theorem dX1_nextChange_0 : decode (cr_by Y_X1_nextChange) 0 = .ok (.aload_n 0, 1) := by decide +kernel
theorem dX1_nextChange_1 : decode (cr_by Y_X1_nextChange) 1 = .ok (.getfield 12, 3) := by decide +kernel
theorem dX1_nextChange_4 : decode (cr_by Y_X1_nextChange) 4 = .ok (.invokevirtual 91, 3) := by decide +kernel
theorem dX1_nextChange_7 : decode (cr_by Y_X1_nextChange) 7 = .ok (.istore_n 1, 1) := by decide +kernel
theorem dX1_nextChange_8 : decode (cr_by Y_X1_nextChange) 8 = .ok (.iconst 0, 1) := by decide +kernel
theorem dX1_nextChange_9 : decode (cr_by Y_X1_nextChange) 9 = .ok (.istore_n 2, 1) := by decide +kernel
theorem dX1_nextChange_10 : decode (cr_by Y_X1_nextChange) 10 = .ok (.iload_n 2, 1) := by decide +kernel
theorem dX1_nextChange_11 : decode (cr_by Y_X1_nextChange) 11 = .ok (.aload_n 0, 1) := by decide +kernel
theorem dX1_nextChange_12 : decode (cr_by Y_X1_nextChange) 12 = .ok (.getfield 21, 3) := by decide +kernel
theorem dX1_nextChange_15 : decode (cr_by Y_X1_nextChange) 15 = .ok (.getfield 94, 3) := by decide +kernel
theorem dX1_nextChange_18 : decode (cr_by Y_X1_nextChange) 18 = .ok (.if_icmp .ge 30, 3) := by decide +kernel
theorem dX1_nextChange_21 : decode (cr_by Y_X1_nextChange) 21 = .ok (.iload_n 1, 1) := by decide +kernel
theorem dX1_nextChange_22 : decode (cr_by Y_X1_nextChange) 22 = .ok (.aload_n 0, 1) := by decide +kernel
theorem dX1_nextChange_23 : decode (cr_by Y_X1_nextChange) 23 = .ok (.getfield 21, 3) := by decide +kernel
theorem dX1_nextChange_26 : decode (cr_by Y_X1_nextChange) 26 = .ok (.iload_n 2, 1) := by decide +kernel
theorem dX1_nextChange_27 : decode (cr_by Y_X1_nextChange) 27 = .ok (.aload_n 0, 1) := by decide +kernel
theorem dX1_nextChange_28 : decode (cr_by Y_X1_nextChange) 28 = .ok (.getfield 43, 3) := by decide +kernel
theorem dX1_nextChange_31 : decode (cr_by Y_X1_nextChange) 31 = .ok (.aload_n 0, 1) := by decide +kernel
theorem dX1_nextChange_32 : decode (cr_by Y_X1_nextChange) 32 = .ok (.getfield 32, 3) := by decide +kernel
theorem dX1_nextChange_35 : decode (cr_by Y_X1_nextChange) 35 = .ok (.invokevirtual 97, 3) := by decide +kernel
theorem dX1_nextChange_38 : decode (cr_by Y_X1_nextChange) 38 = .ok (.invokestatic 88, 3) := by decide +kernel
theorem dX1_nextChange_41 : decode (cr_by Y_X1_nextChange) 41 = .ok (.istore_n 1, 1) := by decide +kernel
theorem dX1_nextChange_42 : decode (cr_by Y_X1_nextChange) 42 = .ok (.iinc 2 1, 3) := by decide +kernel
theorem dX1_nextChange_45 : decode (cr_by Y_X1_nextChange) 45 = .ok (.goto (-35), 3) := by decide +kernel
theorem dX1_nextChange_48 : decode (cr_by Y_X1_nextChange) 48 = .ok (.iload_n 1, 1) := by decide +kernel
theorem dX1_nextChange_49 : decode (cr_by Y_X1_nextChange) 49 = .ok (.ireturn, 1) := by decide +kernel
theorem dX1_endCalls_0 : decode (cr_by Y_X1_endCalls) 0 = .ok (.iconst 0, 1) := by decide +kernel
theorem dX1_endCalls_1 : decode (cr_by Y_X1_endCalls) 1 = .ok (.istore_n 1, 1) := by decide +kernel
theorem dX1_endCalls_2 : decode (cr_by Y_X1_endCalls) 2 = .ok (.iconst 0, 1) := by decide +kernel
theorem dX1_endCalls_3 : decode (cr_by Y_X1_endCalls) 3 = .ok (.istore_n 2, 1) := by decide +kernel
theorem dX1_endCalls_4 : decode (cr_by Y_X1_endCalls) 4 = .ok (.iload_n 2, 1) := by decide +kernel
theorem dX1_endCalls_5 : decode (cr_by Y_X1_endCalls) 5 = .ok (.aload_n 0, 1) := by decide +kernel
theorem dX1_endCalls_6 : decode (cr_by Y_X1_endCalls) 6 = .ok (.getfield 21, 3) := by decide +kernel
theorem dX1_endCalls_9 : decode (cr_by Y_X1_endCalls) 9 = .ok (.getfield 94, 3) := by decide +kernel
theorem dX1_endCalls_12 : decode (cr_by Y_X1_endCalls) 12 = .ok (.if_icmp .ge 64, 3) := by decide +kernel
theorem dX1_endCalls_15 : decode (cr_by Y_X1_endCalls) 15 = .ok (.aload_n 0, 1) := by decide +kernel
theorem dX1_endCalls_16 : decode (cr_by Y_X1_endCalls) 16 = .ok (.getfield 21, 3) := by decide +kernel
theorem dX1_endCalls_19 : decode (cr_by Y_X1_endCalls) 19 = .ok (.getfield 63, 3) := by decide +kernel
theorem dX1_endCalls_22 : decode (cr_by Y_X1_endCalls) 22 = .ok (.iload_n 2, 1) := by decide +kernel
theorem dX1_endCalls_23 : decode (cr_by Y_X1_endCalls) 23 = .ok (.iaload, 1) := by decide +kernel
theorem dX1_endCalls_24 : decode (cr_by Y_X1_endCalls) 24 = .ok (.iconst 1, 1) := by decide +kernel
theorem dX1_endCalls_25 : decode (cr_by Y_X1_endCalls) 25 = .ok (.if_icmp .ne 45, 3) := by decide +kernel
theorem dX1_endCalls_28 : decode (cr_by Y_X1_endCalls) 28 = .ok (.aload_n 0, 1) := by decide +kernel
theorem dX1_endCalls_29 : decode (cr_by Y_X1_endCalls) 29 = .ok (.getfield 21, 3) := by decide +kernel
theorem dX1_endCalls_32 : decode (cr_by Y_X1_endCalls) 32 = .ok (.getfield 100, 3) := by decide +kernel
theorem dX1_endCalls_35 : decode (cr_by Y_X1_endCalls) 35 = .ok (.iload_n 2, 1) := by decide +kernel
theorem dX1_endCalls_36 : decode (cr_by Y_X1_endCalls) 36 = .ok (.iaload, 1) := by decide +kernel
theorem dX1_endCalls_37 : decode (cr_by Y_X1_endCalls) 37 = .ok (.aload_n 0, 1) := by decide +kernel
theorem dX1_endCalls_38 : decode (cr_by Y_X1_endCalls) 38 = .ok (.getfield 43, 3) := by decide +kernel
theorem dX1_endCalls_41 : decode (cr_by Y_X1_endCalls) 41 = .ok (.if_icmp .gt 29, 3) := by decide +kernel
theorem dX1_endCalls_44 : decode (cr_by Y_X1_endCalls) 44 = .ok (.aload_n 0, 1) := by decide +kernel
theorem dX1_endCalls_45 : decode (cr_by Y_X1_endCalls) 45 = .ok (.getfield 21, 3) := by decide +kernel
theorem dX1_endCalls_48 : decode (cr_by Y_X1_endCalls) 48 = .ok (.getfield 63, 3) := by decide +kernel
theorem dX1_endCalls_51 : decode (cr_by Y_X1_endCalls) 51 = .ok (.iload_n 2, 1) := by decide +kernel
theorem dX1_endCalls_52 : decode (cr_by Y_X1_endCalls) 52 = .ok (.iconst 2, 1) := by decide +kernel
theorem dX1_endCalls_53 : decode (cr_by Y_X1_endCalls) 53 = .ok (.iastore, 1) := by decide +kernel
theorem dX1_endCalls_54 : decode (cr_by Y_X1_endCalls) 54 = .ok (.aload_n 0, 1) := by decide +kernel
theorem dX1_endCalls_55 : decode (cr_by Y_X1_endCalls) 55 = .ok (.aload_n 0, 1) := by decide +kernel
theorem dX1_endCalls_56 : decode (cr_by Y_X1_endCalls) 56 = .ok (.getfield 21, 3) := by decide +kernel
theorem dX1_endCalls_59 : decode (cr_by Y_X1_endCalls) 59 = .ok (.getfield 103, 3) := by decide +kernel
theorem dX1_endCalls_62 : decode (cr_by Y_X1_endCalls) 62 = .ok (.iload_n 2, 1) := by decide +kernel
theorem dX1_endCalls_63 : decode (cr_by Y_X1_endCalls) 63 = .ok (.iaload, 1) := by decide +kernel
theorem dX1_endCalls_64 : decode (cr_by Y_X1_endCalls) 64 = .ok (.invokevirtual 106, 3) := by decide +kernel
theorem dX1_endCalls_67 : decode (cr_by Y_X1_endCalls) 67 = .ok (.iinc 1 1, 3) := by decide +kernel
theorem dX1_endCalls_70 : decode (cr_by Y_X1_endCalls) 70 = .ok (.iinc 2 1, 3) := by decide +kernel
theorem dX1_endCalls_73 : decode (cr_by Y_X1_endCalls) 73 = .ok (.goto (-69), 3) := by decide +kernel
theorem dX1_endCalls_76 : decode (cr_by Y_X1_endCalls) 76 = .ok (.iload_n 1, 1) := by decide +kernel
theorem dX1_endCalls_77 : decode (cr_by Y_X1_endCalls) 77 = .ok (.ireturn, 1) := by decide +kernel
theorem dX1_endWith_0 : decode (cr_by Y_X1_endWith) 0 = .ok (.aload_n 0, 1) := by decide +kernel
theorem dX1_endWith_1 : decode (cr_by Y_X1_endWith) 1 = .ok (.getfield 12, 3) := by decide +kernel
theorem dX1_endWith_4 : decode (cr_by Y_X1_endWith) 4 = .ok (.iload_n 1, 1) := by decide +kernel
theorem dX1_endWith_5 : decode (cr_by Y_X1_endWith) 5 = .ok (.invokevirtual 109, 3) := by decide +kernel
theorem dX1_endWith_8 : decode (cr_by Y_X1_endWith) 8 = .ok (.ifCond .eq 28, 3) := by decide +kernel
theorem dX1_endWith_11 : decode (cr_by Y_X1_endWith) 11 = .ok (.aload_n 0, 1) := by decide +kernel
theorem dX1_endWith_12 : decode (cr_by Y_X1_endWith) 12 = .ok (.getfield 12, 3) := by decide +kernel
theorem dX1_endWith_15 : decode (cr_by Y_X1_endWith) 15 = .ok (.getfield 113, 3) := by decide +kernel
theorem dX1_endWith_18 : decode (cr_by Y_X1_endWith) 18 = .ok (.iload_n 1, 1) := by decide +kernel
theorem dX1_endWith_19 : decode (cr_by Y_X1_endWith) 19 = .ok (.dup2, 1) := by decide +kernel
theorem dX1_endWith_20 : decode (cr_by Y_X1_endWith) 20 = .ok (.iaload, 1) := by decide +kernel
theorem dX1_endWith_21 : decode (cr_by Y_X1_endWith) 21 = .ok (.iconst 1, 1) := by decide +kernel
theorem dX1_endWith_22 : decode (cr_by Y_X1_endWith) 22 = .ok (.iadd, 1) := by decide +kernel
theorem dX1_endWith_23 : decode (cr_by Y_X1_endWith) 23 = .ok (.iastore, 1) := by decide +kernel
theorem dX1_endWith_24 : decode (cr_by Y_X1_endWith) 24 = .ok (.aload_n 0, 1) := by decide +kernel
theorem dX1_endWith_25 : decode (cr_by Y_X1_endWith) 25 = .ok (.getfield 12, 3) := by decide +kernel
theorem dX1_endWith_28 : decode (cr_by Y_X1_endWith) 28 = .ok (.iload_n 1, 1) := by decide +kernel
theorem dX1_endWith_29 : decode (cr_by Y_X1_endWith) 29 = .ok (.aload_n 0, 1) := by decide +kernel
theorem dX1_endWith_30 : decode (cr_by Y_X1_endWith) 30 = .ok (.getfield 43, 3) := by decide +kernel
theorem dX1_endWith_33 : decode (cr_by Y_X1_endWith) 33 = .ok (.invokevirtual 116, 3) := by decide +kernel
theorem dX1_endWith_36 : decode (cr_by Y_X1_endWith) 36 = .ok (.return_, 1) := by decide +kernel
theorem dX1_giveAll_0 : decode (cr_by Y_X1_giveAll) 0 = .ok (.iconst 0, 1) := by decide +kernel
theorem dX1_giveAll_1 : decode (cr_by Y_X1_giveAll) 1 = .ok (.istore_n 1, 1) := by decide +kernel
theorem dX1_giveAll_2 : decode (cr_by Y_X1_giveAll) 2 = .ok (.iload_n 1, 1) := by decide +kernel
theorem dX1_giveAll_3 : decode (cr_by Y_X1_giveAll) 3 = .ok (.aload_n 0, 1) := by decide +kernel
theorem dX1_giveAll_4 : decode (cr_by Y_X1_giveAll) 4 = .ok (.getfield 21, 3) := by decide +kernel
theorem dX1_giveAll_7 : decode (cr_by Y_X1_giveAll) 7 = .ok (.getfield 94, 3) := by decide +kernel
theorem dX1_giveAll_10 : decode (cr_by Y_X1_giveAll) 10 = .ok (.if_icmp .ge 54, 3) := by decide +kernel
theorem dX1_giveAll_13 : decode (cr_by Y_X1_giveAll) 13 = .ok (.aload_n 0, 1) := by decide +kernel
theorem dX1_giveAll_14 : decode (cr_by Y_X1_giveAll) 14 = .ok (.invokevirtual 120, 3) := by decide +kernel
theorem dX1_giveAll_17 : decode (cr_by Y_X1_giveAll) 17 = .ok (.istore_n 2, 1) := by decide +kernel
theorem dX1_giveAll_18 : decode (cr_by Y_X1_giveAll) 18 = .ok (.aload_n 0, 1) := by decide +kernel
theorem dX1_giveAll_19 : decode (cr_by Y_X1_giveAll) 19 = .ok (.getfield 21, 3) := by decide +kernel
theorem dX1_giveAll_22 : decode (cr_by Y_X1_giveAll) 22 = .ok (.iload_n 2, 1) := by decide +kernel
theorem dX1_giveAll_23 : decode (cr_by Y_X1_giveAll) 23 = .ok (.invokevirtual 123, 3) := by decide +kernel
theorem dX1_giveAll_26 : decode (cr_by Y_X1_giveAll) 26 = .ok (.ifCond .eq 11, 3) := by decide +kernel
theorem dX1_giveAll_29 : decode (cr_by Y_X1_giveAll) 29 = .ok (.aload_n 0, 1) := by decide +kernel
theorem dX1_giveAll_30 : decode (cr_by Y_X1_giveAll) 30 = .ok (.iload_n 2, 1) := by decide +kernel
theorem dX1_giveAll_31 : decode (cr_by Y_X1_giveAll) 31 = .ok (.invokevirtual 124, 3) := by decide +kernel
theorem dX1_giveAll_34 : decode (cr_by Y_X1_giveAll) 34 = .ok (.goto 5, 3) := by decide +kernel
theorem dX1_giveAll_37 : decode (cr_by Y_X1_giveAll) 37 = .ok (.bipush (-9), 2) := by decide +kernel
theorem dX1_giveAll_39 : decode (cr_by Y_X1_giveAll) 39 = .ok (.istore_n 3, 1) := by decide +kernel
theorem dX1_giveAll_40 : decode (cr_by Y_X1_giveAll) 40 = .ok (.aload_n 0, 1) := by decide +kernel
theorem dX1_giveAll_41 : decode (cr_by Y_X1_giveAll) 41 = .ok (.getfield 12, 3) := by decide +kernel
theorem dX1_giveAll_44 : decode (cr_by Y_X1_giveAll) 44 = .ok (.iload_n 3, 1) := by decide +kernel
theorem dX1_giveAll_45 : decode (cr_by Y_X1_giveAll) 45 = .ok (.invokevirtual 109, 3) := by decide +kernel
theorem dX1_giveAll_48 : decode (cr_by Y_X1_giveAll) 48 = .ok (.ifCond .ne 4, 3) := by decide +kernel
theorem dX1_giveAll_51 : decode (cr_by Y_X1_giveAll) 51 = .ok (.return_, 1) := by decide +kernel
theorem dX1_giveAll_52 : decode (cr_by Y_X1_giveAll) 52 = .ok (.aload_n 0, 1) := by decide +kernel
theorem dX1_giveAll_53 : decode (cr_by Y_X1_giveAll) 53 = .ok (.iload_n 2, 1) := by decide +kernel
theorem dX1_giveAll_54 : decode (cr_by Y_X1_giveAll) 54 = .ok (.iload_n 3, 1) := by decide +kernel
theorem dX1_giveAll_55 : decode (cr_by Y_X1_giveAll) 55 = .ok (.invokevirtual 127, 3) := by decide +kernel
theorem dX1_giveAll_58 : decode (cr_by Y_X1_giveAll) 58 = .ok (.iinc 1 1, 3) := by decide +kernel
theorem dX1_giveAll_61 : decode (cr_by Y_X1_giveAll) 61 = .ok (.goto (-59), 3) := by decide +kernel
theorem dX1_giveAll_64 : decode (cr_by Y_X1_giveAll) 64 = .ok (.return_, 1) := by decide +kernel
theorem dX1_give_0 : decode (cr_by Y_X1_give) 0 = .ok (.aload_n 0, 1) := by decide +kernel
theorem dX1_give_1 : decode (cr_by Y_X1_give) 1 = .ok (.getfield 21, 3) := by decide +kernel
theorem dX1_give_4 : decode (cr_by Y_X1_give) 4 = .ok (.getfield 130, 3) := by decide +kernel
theorem dX1_give_7 : decode (cr_by Y_X1_give) 7 = .ok (.iload_n 1, 1) := by decide +kernel
theorem dX1_give_8 : decode (cr_by Y_X1_give) 8 = .ok (.iaload, 1) := by decide +kernel
theorem dX1_give_9 : decode (cr_by Y_X1_give) 9 = .ok (.iconst 5, 1) := by decide +kernel
theorem dX1_give_10 : decode (cr_by Y_X1_give) 10 = .ok (.aload_n 0, 1) := by decide +kernel
theorem dX1_give_11 : decode (cr_by Y_X1_give) 11 = .ok (.getfield 12, 3) := by decide +kernel
theorem dX1_give_14 : decode (cr_by Y_X1_give) 14 = .ok (.iload_n 2, 1) := by decide +kernel
theorem dX1_give_15 : decode (cr_by Y_X1_give) 15 = .ok (.aload_n 0, 1) := by decide +kernel
theorem dX1_give_16 : decode (cr_by Y_X1_give) 16 = .ok (.getfield 21, 3) := by decide +kernel
theorem dX1_give_19 : decode (cr_by Y_X1_give) 19 = .ok (.getfield 133, 3) := by decide +kernel
theorem dX1_give_22 : decode (cr_by Y_X1_give) 22 = .ok (.iload_n 1, 1) := by decide +kernel
theorem dX1_give_23 : decode (cr_by Y_X1_give) 23 = .ok (.iaload, 1) := by decide +kernel
theorem dX1_give_24 : decode (cr_by Y_X1_give) 24 = .ok (.invokevirtual 136, 3) := by decide +kernel
theorem dX1_give_27 : decode (cr_by Y_X1_give) 27 = .ok (.isub, 1) := by decide +kernel
theorem dX1_give_28 : decode (cr_by Y_X1_give) 28 = .ok (.imul, 1) := by decide +kernel
theorem dX1_give_29 : decode (cr_by Y_X1_give) 29 = .ok (.istore_n 3, 1) := by decide +kernel
theorem dX1_give_30 : decode (cr_by Y_X1_give) 30 = .ok (.aload_n 0, 1) := by decide +kernel
theorem dX1_give_31 : decode (cr_by Y_X1_give) 31 = .ok (.getfield 21, 3) := by decide +kernel
theorem dX1_give_34 : decode (cr_by Y_X1_give) 34 = .ok (.iload_n 1, 1) := by decide +kernel
theorem dX1_give_35 : decode (cr_by Y_X1_give) 35 = .ok (.iload_n 2, 1) := by decide +kernel
theorem dX1_give_36 : decode (cr_by Y_X1_give) 36 = .ok (.aload_n 0, 1) := by decide +kernel
theorem dX1_give_37 : decode (cr_by Y_X1_give) 37 = .ok (.getfield 43, 3) := by decide +kernel
theorem dX1_give_40 : decode (cr_by Y_X1_give) 40 = .ok (.aload_n 0, 1) := by decide +kernel
theorem dX1_give_41 : decode (cr_by Y_X1_give) 41 = .ok (.getfield 43, 3) := by decide +kernel
theorem dX1_give_44 : decode (cr_by Y_X1_give) 44 = .ok (.iload_n 3, 1) := by decide +kernel
theorem dX1_give_45 : decode (cr_by Y_X1_give) 45 = .ok (.iconst 3, 1) := by decide +kernel
theorem dX1_give_46 : decode (cr_by Y_X1_give) 46 = .ok (.iadd, 1) := by decide +kernel
theorem dX1_give_47 : decode (cr_by Y_X1_give) 47 = .ok (.iconst 4, 1) := by decide +kernel
theorem dX1_give_48 : decode (cr_by Y_X1_give) 48 = .ok (.idiv, 1) := by decide +kernel
theorem dX1_give_49 : decode (cr_by Y_X1_give) 49 = .ok (.iadd, 1) := by decide +kernel
theorem dX1_give_50 : decode (cr_by Y_X1_give) 50 = .ok (.invokevirtual 139, 3) := by decide +kernel
theorem dX1_give_53 : decode (cr_by Y_X1_give) 53 = .ok (.aload_n 0, 1) := by decide +kernel
theorem dX1_give_54 : decode (cr_by Y_X1_give) 54 = .ok (.getfield 12, 3) := by decide +kernel
theorem dX1_give_57 : decode (cr_by Y_X1_give) 57 = .ok (.iload_n 2, 1) := by decide +kernel
theorem dX1_give_58 : decode (cr_by Y_X1_give) 58 = .ok (.aload_n 0, 1) := by decide +kernel
theorem dX1_give_59 : decode (cr_by Y_X1_give) 59 = .ok (.getfield 21, 3) := by decide +kernel
theorem dX1_give_62 : decode (cr_by Y_X1_give) 62 = .ok (.getfield 143, 3) := by decide +kernel
theorem dX1_give_65 : decode (cr_by Y_X1_give) 65 = .ok (.iload_n 1, 1) := by decide +kernel
theorem dX1_give_66 : decode (cr_by Y_X1_give) 66 = .ok (.iaload, 1) := by decide +kernel
theorem dX1_give_67 : decode (cr_by Y_X1_give) 67 = .ok (.aload_n 0, 1) := by decide +kernel
theorem dX1_give_68 : decode (cr_by Y_X1_give) 68 = .ok (.getfield 43, 3) := by decide +kernel
theorem dX1_give_71 : decode (cr_by Y_X1_give) 71 = .ok (.invokevirtual 146, 3) := by decide +kernel
theorem dX1_give_74 : decode (cr_by Y_X1_give) 74 = .ok (.return_, 1) := by decide +kernel
theorem dX1_nextToGive_0 : decode (cr_by Y_X1_nextToGive) 0 = .ok (.bipush (-9), 2) := by decide +kernel
theorem dX1_nextToGive_2 : decode (cr_by Y_X1_nextToGive) 2 = .ok (.istore_n 1, 1) := by decide +kernel
theorem dX1_nextToGive_3 : decode (cr_by Y_X1_nextToGive) 3 = .ok (.aload_n 0, 1) := by decide +kernel
theorem dX1_nextToGive_4 : decode (cr_by Y_X1_nextToGive) 4 = .ok (.invokevirtual 150, 3) := by decide +kernel
theorem dX1_nextToGive_7 : decode (cr_by Y_X1_nextToGive) 7 = .ok (.ifCond .ne 5, 3) := by decide +kernel
theorem dX1_nextToGive_10 : decode (cr_by Y_X1_nextToGive) 10 = .ok (.iload_n 1, 1) := by decide +kernel
theorem dX1_nextToGive_11 : decode (cr_by Y_X1_nextToGive) 11 = .ok (.ireturn, 1) := by decide +kernel
theorem dX1_nextToGive_12 : decode (cr_by Y_X1_nextToGive) 12 = .ok (.iconst 0, 1) := by decide +kernel
theorem dX1_nextToGive_13 : decode (cr_by Y_X1_nextToGive) 13 = .ok (.istore_n 2, 1) := by decide +kernel
theorem dX1_nextToGive_14 : decode (cr_by Y_X1_nextToGive) 14 = .ok (.iconst 0, 1) := by decide +kernel
theorem dX1_nextToGive_15 : decode (cr_by Y_X1_nextToGive) 15 = .ok (.istore_n 3, 1) := by decide +kernel
theorem dX1_nextToGive_16 : decode (cr_by Y_X1_nextToGive) 16 = .ok (.iload_n 3, 1) := by decide +kernel
theorem dX1_nextToGive_17 : decode (cr_by Y_X1_nextToGive) 17 = .ok (.aload_n 0, 1) := by decide +kernel
theorem dX1_nextToGive_18 : decode (cr_by Y_X1_nextToGive) 18 = .ok (.getfield 21, 3) := by decide +kernel
theorem dX1_nextToGive_21 : decode (cr_by Y_X1_nextToGive) 21 = .ok (.getfield 94, 3) := by decide +kernel
theorem dX1_nextToGive_24 : decode (cr_by Y_X1_nextToGive) 24 = .ok (.if_icmp .ge 56, 3) := by decide +kernel
theorem dX1_nextToGive_27 : decode (cr_by Y_X1_nextToGive) 27 = .ok (.aload_n 0, 1) := by decide +kernel
theorem dX1_nextToGive_28 : decode (cr_by Y_X1_nextToGive) 28 = .ok (.getfield 21, 3) := by decide +kernel
theorem dX1_nextToGive_31 : decode (cr_by Y_X1_nextToGive) 31 = .ok (.getfield 63, 3) := by decide +kernel
theorem dX1_nextToGive_34 : decode (cr_by Y_X1_nextToGive) 34 = .ok (.iload_n 3, 1) := by decide +kernel
theorem dX1_nextToGive_35 : decode (cr_by Y_X1_nextToGive) 35 = .ok (.iaload, 1) := by decide +kernel
theorem dX1_nextToGive_36 : decode (cr_by Y_X1_nextToGive) 36 = .ok (.ifCond .ne 38, 3) := by decide +kernel
theorem dX1_nextToGive_39 : decode (cr_by Y_X1_nextToGive) 39 = .ok (.aload_n 0, 1) := by decide +kernel
theorem dX1_nextToGive_40 : decode (cr_by Y_X1_nextToGive) 40 = .ok (.iload_n 3, 1) := by decide +kernel
theorem dX1_nextToGive_41 : decode (cr_by Y_X1_nextToGive) 41 = .ok (.invokevirtual 153, 3) := by decide +kernel
theorem dX1_nextToGive_44 : decode (cr_by Y_X1_nextToGive) 44 = .ok (.ifCond .ne 6, 3) := by decide +kernel
theorem dX1_nextToGive_47 : decode (cr_by Y_X1_nextToGive) 47 = .ok (.goto 27, 3) := by decide +kernel
theorem dX1_nextToGive_50 : decode (cr_by Y_X1_nextToGive) 50 = .ok (.aload_n 0, 1) := by decide +kernel
theorem dX1_nextToGive_51 : decode (cr_by Y_X1_nextToGive) 51 = .ok (.iload_n 3, 1) := by decide +kernel
theorem dX1_nextToGive_52 : decode (cr_by Y_X1_nextToGive) 52 = .ok (.invokevirtual 156, 3) := by decide +kernel
theorem dX1_nextToGive_55 : decode (cr_by Y_X1_nextToGive) 55 = .ok (.istore 4, 2) := by decide +kernel
theorem dX1_nextToGive_57 : decode (cr_by Y_X1_nextToGive) 57 = .ok (.iload_n 1, 1) := by decide +kernel
theorem dX1_nextToGive_58 : decode (cr_by Y_X1_nextToGive) 58 = .ok (.bipush (-9), 2) := by decide +kernel
theorem dX1_nextToGive_60 : decode (cr_by Y_X1_nextToGive) 60 = .ok (.if_icmp .eq 9, 3) := by decide +kernel
theorem dX1_nextToGive_63 : decode (cr_by Y_X1_nextToGive) 63 = .ok (.iload 4, 2) := by decide +kernel
theorem dX1_nextToGive_65 : decode (cr_by Y_X1_nextToGive) 65 = .ok (.iload_n 2, 1) := by decide +kernel
theorem dX1_nextToGive_66 : decode (cr_by Y_X1_nextToGive) 66 = .ok (.if_icmp .ge 8, 3) := by decide +kernel
theorem dX1_nextToGive_69 : decode (cr_by Y_X1_nextToGive) 69 = .ok (.iload_n 3, 1) := by decide +kernel
theorem dX1_nextToGive_70 : decode (cr_by Y_X1_nextToGive) 70 = .ok (.istore_n 1, 1) := by decide +kernel
theorem dX1_nextToGive_71 : decode (cr_by Y_X1_nextToGive) 71 = .ok (.iload 4, 2) := by decide +kernel
theorem dX1_nextToGive_73 : decode (cr_by Y_X1_nextToGive) 73 = .ok (.istore_n 2, 1) := by decide +kernel
theorem dX1_nextToGive_74 : decode (cr_by Y_X1_nextToGive) 74 = .ok (.iinc 3 1, 3) := by decide +kernel
theorem dX1_nextToGive_77 : decode (cr_by Y_X1_nextToGive) 77 = .ok (.goto (-61), 3) := by decide +kernel
theorem dX1_nextToGive_80 : decode (cr_by Y_X1_nextToGive) 80 = .ok (.iload_n 1, 1) := by decide +kernel
theorem dX1_nextToGive_81 : decode (cr_by Y_X1_nextToGive) 81 = .ok (.ireturn, 1) := by decide +kernel
theorem dX1_rankOf_0 : decode (cr_by Y_X1_rankOf) 0 = .ok (.aload_n 0, 1) := by decide +kernel
theorem dX1_rankOf_1 : decode (cr_by Y_X1_rankOf) 1 = .ok (.getfield 46, 3) := by decide +kernel
theorem dX1_rankOf_4 : decode (cr_by Y_X1_rankOf) 4 = .ok (.tableswitch 82 1 3 #[28, 47, 62], 28) := by decide +kernel
theorem dX1_rankOf_32 : decode (cr_by Y_X1_rankOf) 32 = .ok (.aload_n 0, 1) := by decide +kernel
theorem dX1_rankOf_33 : decode (cr_by Y_X1_rankOf) 33 = .ok (.getfield 21, 3) := by decide +kernel
theorem dX1_rankOf_36 : decode (cr_by Y_X1_rankOf) 36 = .ok (.getfield 143, 3) := by decide +kernel
theorem dX1_rankOf_39 : decode (cr_by Y_X1_rankOf) 39 = .ok (.iload_n 1, 1) := by decide +kernel
theorem dX1_rankOf_40 : decode (cr_by Y_X1_rankOf) 40 = .ok (.iaload, 1) := by decide +kernel
theorem dX1_rankOf_41 : decode (cr_by Y_X1_rankOf) 41 = .ok (.iconst 2, 1) := by decide +kernel
theorem dX1_rankOf_42 : decode (cr_by Y_X1_rankOf) 42 = .ok (.if_icmp .ne 7, 3) := by decide +kernel
theorem dX1_rankOf_45 : decode (cr_by Y_X1_rankOf) 45 = .ok (.iconst 0, 1) := by decide +kernel
theorem dX1_rankOf_46 : decode (cr_by Y_X1_rankOf) 46 = .ok (.goto 4, 3) := by decide +kernel
theorem dX1_rankOf_49 : decode (cr_by Y_X1_rankOf) 49 = .ok (.iconst 1, 1) := by decide +kernel
theorem dX1_rankOf_50 : decode (cr_by Y_X1_rankOf) 50 = .ok (.ireturn, 1) := by decide +kernel
theorem dX1_rankOf_51 : decode (cr_by Y_X1_rankOf) 51 = .ok (.aload_n 0, 1) := by decide +kernel
theorem dX1_rankOf_52 : decode (cr_by Y_X1_rankOf) 52 = .ok (.getfield 25, 3) := by decide +kernel
theorem dX1_rankOf_55 : decode (cr_by Y_X1_rankOf) 55 = .ok (.aload_n 0, 1) := by decide +kernel
theorem dX1_rankOf_56 : decode (cr_by Y_X1_rankOf) 56 = .ok (.getfield 21, 3) := by decide +kernel
theorem dX1_rankOf_59 : decode (cr_by Y_X1_rankOf) 59 = .ok (.getfield 133, 3) := by decide +kernel
theorem dX1_rankOf_62 : decode (cr_by Y_X1_rankOf) 62 = .ok (.iload_n 1, 1) := by decide +kernel
theorem dX1_rankOf_63 : decode (cr_by Y_X1_rankOf) 63 = .ok (.iaload, 1) := by decide +kernel
theorem dX1_rankOf_64 : decode (cr_by Y_X1_rankOf) 64 = .ok (.iaload, 1) := by decide +kernel
theorem dX1_rankOf_65 : decode (cr_by Y_X1_rankOf) 65 = .ok (.ireturn, 1) := by decide +kernel
theorem dX1_rankOf_66 : decode (cr_by Y_X1_rankOf) 66 = .ok (.aload_n 0, 1) := by decide +kernel
theorem dX1_rankOf_67 : decode (cr_by Y_X1_rankOf) 67 = .ok (.getfield 21, 3) := by decide +kernel
theorem dX1_rankOf_70 : decode (cr_by Y_X1_rankOf) 70 = .ok (.getfield 159, 3) := by decide +kernel
theorem dX1_rankOf_73 : decode (cr_by Y_X1_rankOf) 73 = .ok (.iload_n 1, 1) := by decide +kernel
theorem dX1_rankOf_74 : decode (cr_by Y_X1_rankOf) 74 = .ok (.iaload, 1) := by decide +kernel
theorem dX1_rankOf_75 : decode (cr_by Y_X1_rankOf) 75 = .ok (.aload_n 0, 1) := by decide +kernel
theorem dX1_rankOf_76 : decode (cr_by Y_X1_rankOf) 76 = .ok (.getfield 21, 3) := by decide +kernel
theorem dX1_rankOf_79 : decode (cr_by Y_X1_rankOf) 79 = .ok (.getfield 162, 3) := by decide +kernel
theorem dX1_rankOf_82 : decode (cr_by Y_X1_rankOf) 82 = .ok (.iload_n 1, 1) := by decide +kernel
theorem dX1_rankOf_83 : decode (cr_by Y_X1_rankOf) 83 = .ok (.iaload, 1) := by decide +kernel
theorem dX1_rankOf_84 : decode (cr_by Y_X1_rankOf) 84 = .ok (.iadd, 1) := by decide +kernel
theorem dX1_rankOf_85 : decode (cr_by Y_X1_rankOf) 85 = .ok (.ireturn, 1) := by decide +kernel
theorem dX1_rankOf_86 : decode (cr_by Y_X1_rankOf) 86 = .ok (.iconst 0, 1) := by decide +kernel
theorem dX1_rankOf_87 : decode (cr_by Y_X1_rankOf) 87 = .ok (.ireturn, 1) := by decide +kernel
theorem dX1_countTakers_0 : decode (cr_by Y_X1_countTakers) 0 = .ok (.iconst 0, 1) := by decide +kernel
theorem dX1_countTakers_1 : decode (cr_by Y_X1_countTakers) 1 = .ok (.istore_n 1, 1) := by decide +kernel
theorem dX1_countTakers_2 : decode (cr_by Y_X1_countTakers) 2 = .ok (.iconst 0, 1) := by decide +kernel
theorem dX1_countTakers_3 : decode (cr_by Y_X1_countTakers) 3 = .ok (.istore_n 2, 1) := by decide +kernel
theorem dX1_countTakers_4 : decode (cr_by Y_X1_countTakers) 4 = .ok (.iload_n 2, 1) := by decide +kernel
theorem dX1_countTakers_5 : decode (cr_by Y_X1_countTakers) 5 = .ok (.iconst 4, 1) := by decide +kernel
theorem dX1_countTakers_6 : decode (cr_by Y_X1_countTakers) 6 = .ok (.if_icmp .ge 107, 3) := by decide +kernel
theorem dX1_countTakers_9 : decode (cr_by Y_X1_countTakers) 9 = .ok (.aload_n 0, 1) := by decide +kernel
theorem dX1_countTakers_10 : decode (cr_by Y_X1_countTakers) 10 = .ok (.getfield 25, 3) := by decide +kernel
theorem dX1_countTakers_13 : decode (cr_by Y_X1_countTakers) 13 = .ok (.iload_n 2, 1) := by decide +kernel
theorem dX1_countTakers_14 : decode (cr_by Y_X1_countTakers) 14 = .ok (.iconst 0, 1) := by decide +kernel
theorem dX1_countTakers_15 : decode (cr_by Y_X1_countTakers) 15 = .ok (.iastore, 1) := by decide +kernel
theorem dX1_countTakers_16 : decode (cr_by Y_X1_countTakers) 16 = .ok (.aload_n 0, 1) := by decide +kernel
theorem dX1_countTakers_17 : decode (cr_by Y_X1_countTakers) 17 = .ok (.getfield 29, 3) := by decide +kernel
theorem dX1_countTakers_20 : decode (cr_by Y_X1_countTakers) 20 = .ok (.iload_n 2, 1) := by decide +kernel
theorem dX1_countTakers_21 : decode (cr_by Y_X1_countTakers) 21 = .ok (.iconst 0, 1) := by decide +kernel
theorem dX1_countTakers_22 : decode (cr_by Y_X1_countTakers) 22 = .ok (.iastore, 1) := by decide +kernel
theorem dX1_countTakers_23 : decode (cr_by Y_X1_countTakers) 23 = .ok (.iconst 0, 1) := by decide +kernel
theorem dX1_countTakers_24 : decode (cr_by Y_X1_countTakers) 24 = .ok (.istore_n 3, 1) := by decide +kernel
theorem dX1_countTakers_25 : decode (cr_by Y_X1_countTakers) 25 = .ok (.iload_n 3, 1) := by decide +kernel
theorem dX1_countTakers_26 : decode (cr_by Y_X1_countTakers) 26 = .ok (.aload_n 0, 1) := by decide +kernel
theorem dX1_countTakers_27 : decode (cr_by Y_X1_countTakers) 27 = .ok (.getfield 12, 3) := by decide +kernel
theorem dX1_countTakers_30 : decode (cr_by Y_X1_countTakers) 30 = .ok (.getfield 165, 3) := by decide +kernel
theorem dX1_countTakers_33 : decode (cr_by Y_X1_countTakers) 33 = .ok (.if_icmp .ge 58, 3) := by decide +kernel
theorem dX1_countTakers_36 : decode (cr_by Y_X1_countTakers) 36 = .ok (.aload_n 0, 1) := by decide +kernel
theorem dX1_countTakers_37 : decode (cr_by Y_X1_countTakers) 37 = .ok (.getfield 12, 3) := by decide +kernel
theorem dX1_countTakers_40 : decode (cr_by Y_X1_countTakers) 40 = .ok (.iload_n 3, 1) := by decide +kernel
theorem dX1_countTakers_41 : decode (cr_by Y_X1_countTakers) 41 = .ok (.iload_n 2, 1) := by decide +kernel
theorem dX1_countTakers_42 : decode (cr_by Y_X1_countTakers) 42 = .ok (.iconst 0, 1) := by decide +kernel
theorem dX1_countTakers_43 : decode (cr_by Y_X1_countTakers) 43 = .ok (.invokevirtual 166, 3) := by decide +kernel
theorem dX1_countTakers_46 : decode (cr_by Y_X1_countTakers) 46 = .ok (.ifCond .eq 16, 3) := by decide +kernel
theorem dX1_countTakers_49 : decode (cr_by Y_X1_countTakers) 49 = .ok (.aload_n 0, 1) := by decide +kernel
theorem dX1_countTakers_50 : decode (cr_by Y_X1_countTakers) 50 = .ok (.getfield 25, 3) := by decide +kernel
theorem dX1_countTakers_53 : decode (cr_by Y_X1_countTakers) 53 = .ok (.iload_n 2, 1) := by decide +kernel
theorem dX1_countTakers_54 : decode (cr_by Y_X1_countTakers) 54 = .ok (.dup2, 1) := by decide +kernel
theorem dX1_countTakers_55 : decode (cr_by Y_X1_countTakers) 55 = .ok (.iaload, 1) := by decide +kernel
theorem dX1_countTakers_56 : decode (cr_by Y_X1_countTakers) 56 = .ok (.iconst 1, 1) := by decide +kernel
theorem dX1_countTakers_57 : decode (cr_by Y_X1_countTakers) 57 = .ok (.iadd, 1) := by decide +kernel
theorem dX1_countTakers_58 : decode (cr_by Y_X1_countTakers) 58 = .ok (.iastore, 1) := by decide +kernel
theorem dX1_countTakers_59 : decode (cr_by Y_X1_countTakers) 59 = .ok (.goto 26, 3) := by decide +kernel
theorem dX1_countTakers_62 : decode (cr_by Y_X1_countTakers) 62 = .ok (.aload_n 0, 1) := by decide +kernel
theorem dX1_countTakers_63 : decode (cr_by Y_X1_countTakers) 63 = .ok (.getfield 12, 3) := by decide +kernel
theorem dX1_countTakers_66 : decode (cr_by Y_X1_countTakers) 66 = .ok (.iload_n 3, 1) := by decide +kernel
theorem dX1_countTakers_67 : decode (cr_by Y_X1_countTakers) 67 = .ok (.iload_n 2, 1) := by decide +kernel
theorem dX1_countTakers_68 : decode (cr_by Y_X1_countTakers) 68 = .ok (.iconst 1, 1) := by decide +kernel
theorem dX1_countTakers_69 : decode (cr_by Y_X1_countTakers) 69 = .ok (.invokevirtual 166, 3) := by decide +kernel
theorem dX1_countTakers_72 : decode (cr_by Y_X1_countTakers) 72 = .ok (.ifCond .eq 13, 3) := by decide +kernel
theorem dX1_countTakers_75 : decode (cr_by Y_X1_countTakers) 75 = .ok (.aload_n 0, 1) := by decide +kernel
theorem dX1_countTakers_76 : decode (cr_by Y_X1_countTakers) 76 = .ok (.getfield 29, 3) := by decide +kernel
theorem dX1_countTakers_79 : decode (cr_by Y_X1_countTakers) 79 = .ok (.iload_n 2, 1) := by decide +kernel
theorem dX1_countTakers_80 : decode (cr_by Y_X1_countTakers) 80 = .ok (.dup2, 1) := by decide +kernel
theorem dX1_countTakers_81 : decode (cr_by Y_X1_countTakers) 81 = .ok (.iaload, 1) := by decide +kernel
theorem dX1_countTakers_82 : decode (cr_by Y_X1_countTakers) 82 = .ok (.iconst 1, 1) := by decide +kernel
theorem dX1_countTakers_83 : decode (cr_by Y_X1_countTakers) 83 = .ok (.iadd, 1) := by decide +kernel
theorem dX1_countTakers_84 : decode (cr_by Y_X1_countTakers) 84 = .ok (.iastore, 1) := by decide +kernel
theorem dX1_countTakers_85 : decode (cr_by Y_X1_countTakers) 85 = .ok (.iinc 3 1, 3) := by decide +kernel
theorem dX1_countTakers_88 : decode (cr_by Y_X1_countTakers) 88 = .ok (.goto (-63), 3) := by decide +kernel
theorem dX1_countTakers_91 : decode (cr_by Y_X1_countTakers) 91 = .ok (.iload_n 1, 1) := by decide +kernel
theorem dX1_countTakers_92 : decode (cr_by Y_X1_countTakers) 92 = .ok (.aload_n 0, 1) := by decide +kernel
theorem dX1_countTakers_93 : decode (cr_by Y_X1_countTakers) 93 = .ok (.getfield 25, 3) := by decide +kernel
theorem dX1_countTakers_96 : decode (cr_by Y_X1_countTakers) 96 = .ok (.iload_n 2, 1) := by decide +kernel
theorem dX1_countTakers_97 : decode (cr_by Y_X1_countTakers) 97 = .ok (.iaload, 1) := by decide +kernel
theorem dX1_countTakers_98 : decode (cr_by Y_X1_countTakers) 98 = .ok (.aload_n 0, 1) := by decide +kernel
theorem dX1_countTakers_99 : decode (cr_by Y_X1_countTakers) 99 = .ok (.getfield 29, 3) := by decide +kernel
theorem dX1_countTakers_102 : decode (cr_by Y_X1_countTakers) 102 = .ok (.iload_n 2, 1) := by decide +kernel
theorem dX1_countTakers_103 : decode (cr_by Y_X1_countTakers) 103 = .ok (.iaload, 1) := by decide +kernel
theorem dX1_countTakers_104 : decode (cr_by Y_X1_countTakers) 104 = .ok (.iadd, 1) := by decide +kernel
theorem dX1_countTakers_105 : decode (cr_by Y_X1_countTakers) 105 = .ok (.iadd, 1) := by decide +kernel
theorem dX1_countTakers_106 : decode (cr_by Y_X1_countTakers) 106 = .ok (.istore_n 1, 1) := by decide +kernel
theorem dX1_countTakers_107 : decode (cr_by Y_X1_countTakers) 107 = .ok (.iinc 2 1, 3) := by decide +kernel
theorem dX1_countTakers_110 : decode (cr_by Y_X1_countTakers) 110 = .ok (.goto (-106), 3) := by decide +kernel
theorem dX1_countTakers_113 : decode (cr_by Y_X1_countTakers) 113 = .ok (.iload_n 1, 1) := by decide +kernel
theorem dX1_countTakers_114 : decode (cr_by Y_X1_countTakers) 114 = .ok (.ireturn, 1) := by decide +kernel
theorem dX1_isTakeable_0 : decode (cr_by Y_X1_isTakeable) 0 = .ok (.aload_n 0, 1) := by decide +kernel
theorem dX1_isTakeable_1 : decode (cr_by Y_X1_isTakeable) 1 = .ok (.getfield 21, 3) := by decide +kernel
theorem dX1_isTakeable_4 : decode (cr_by Y_X1_isTakeable) 4 = .ok (.getfield 133, 3) := by decide +kernel
theorem dX1_isTakeable_7 : decode (cr_by Y_X1_isTakeable) 7 = .ok (.iload_n 1, 1) := by decide +kernel
theorem dX1_isTakeable_8 : decode (cr_by Y_X1_isTakeable) 8 = .ok (.iaload, 1) := by decide +kernel
theorem dX1_isTakeable_9 : decode (cr_by Y_X1_isTakeable) 9 = .ok (.istore_n 2, 1) := by decide +kernel
theorem dX1_isTakeable_10 : decode (cr_by Y_X1_isTakeable) 10 = .ok (.aload_n 0, 1) := by decide +kernel
theorem dX1_isTakeable_11 : decode (cr_by Y_X1_isTakeable) 11 = .ok (.iload_n 1, 1) := by decide +kernel
theorem dX1_isTakeable_12 : decode (cr_by Y_X1_isTakeable) 12 = .ok (.invokevirtual 170, 3) := by decide +kernel
theorem dX1_isTakeable_15 : decode (cr_by Y_X1_isTakeable) 15 = .ok (.ifCond .eq 22, 3) := by decide +kernel
theorem dX1_isTakeable_18 : decode (cr_by Y_X1_isTakeable) 18 = .ok (.aload_n 0, 1) := by decide +kernel
theorem dX1_isTakeable_19 : decode (cr_by Y_X1_isTakeable) 19 = .ok (.getfield 12, 3) := by decide +kernel
theorem dX1_isTakeable_22 : decode (cr_by Y_X1_isTakeable) 22 = .ok (.aload_n 0, 1) := by decide +kernel
theorem dX1_isTakeable_23 : decode (cr_by Y_X1_isTakeable) 23 = .ok (.getfield 21, 3) := by decide +kernel
theorem dX1_isTakeable_26 : decode (cr_by Y_X1_isTakeable) 26 = .ok (.getfield 173, 3) := by decide +kernel
theorem dX1_isTakeable_29 : decode (cr_by Y_X1_isTakeable) 29 = .ok (.iload_n 1, 1) := by decide +kernel
theorem dX1_isTakeable_30 : decode (cr_by Y_X1_isTakeable) 30 = .ok (.iaload, 1) := by decide +kernel
theorem dX1_isTakeable_31 : decode (cr_by Y_X1_isTakeable) 31 = .ok (.iload_n 2, 1) := by decide +kernel
theorem dX1_isTakeable_32 : decode (cr_by Y_X1_isTakeable) 32 = .ok (.iconst 0, 1) := by decide +kernel
theorem dX1_isTakeable_33 : decode (cr_by Y_X1_isTakeable) 33 = .ok (.invokevirtual 166, 3) := by decide +kernel
theorem dX1_isTakeable_36 : decode (cr_by Y_X1_isTakeable) 36 = .ok (.ireturn, 1) := by decide +kernel
theorem dX1_isTakeable_37 : decode (cr_by Y_X1_isTakeable) 37 = .ok (.aload_n 0, 1) := by decide +kernel
theorem dX1_isTakeable_38 : decode (cr_by Y_X1_isTakeable) 38 = .ok (.getfield 25, 3) := by decide +kernel
theorem dX1_isTakeable_41 : decode (cr_by Y_X1_isTakeable) 41 = .ok (.iload_n 2, 1) := by decide +kernel
theorem dX1_isTakeable_42 : decode (cr_by Y_X1_isTakeable) 42 = .ok (.iaload, 1) := by decide +kernel
theorem dX1_isTakeable_43 : decode (cr_by Y_X1_isTakeable) 43 = .ok (.ifCond .gt 25, 3) := by decide +kernel
theorem dX1_isTakeable_46 : decode (cr_by Y_X1_isTakeable) 46 = .ok (.aload_n 0, 1) := by decide +kernel
theorem dX1_isTakeable_47 : decode (cr_by Y_X1_isTakeable) 47 = .ok (.getfield 21, 3) := by decide +kernel
theorem dX1_isTakeable_50 : decode (cr_by Y_X1_isTakeable) 50 = .ok (.getfield 143, 3) := by decide +kernel
theorem dX1_isTakeable_53 : decode (cr_by Y_X1_isTakeable) 53 = .ok (.iload_n 1, 1) := by decide +kernel
theorem dX1_isTakeable_54 : decode (cr_by Y_X1_isTakeable) 54 = .ok (.iaload, 1) := by decide +kernel
theorem dX1_isTakeable_55 : decode (cr_by Y_X1_isTakeable) 55 = .ok (.iconst 3, 1) := by decide +kernel
theorem dX1_isTakeable_56 : decode (cr_by Y_X1_isTakeable) 56 = .ok (.if_icmp .ne 16, 3) := by decide +kernel
theorem dX1_isTakeable_59 : decode (cr_by Y_X1_isTakeable) 59 = .ok (.aload_n 0, 1) := by decide +kernel
theorem dX1_isTakeable_60 : decode (cr_by Y_X1_isTakeable) 60 = .ok (.getfield 29, 3) := by decide +kernel
theorem dX1_isTakeable_63 : decode (cr_by Y_X1_isTakeable) 63 = .ok (.iload_n 2, 1) := by decide +kernel
theorem dX1_isTakeable_64 : decode (cr_by Y_X1_isTakeable) 64 = .ok (.iaload, 1) := by decide +kernel
theorem dX1_isTakeable_65 : decode (cr_by Y_X1_isTakeable) 65 = .ok (.ifCond .le 7, 3) := by decide +kernel
theorem dX1_isTakeable_68 : decode (cr_by Y_X1_isTakeable) 68 = .ok (.iconst 1, 1) := by decide +kernel
theorem dX1_isTakeable_69 : decode (cr_by Y_X1_isTakeable) 69 = .ok (.goto 4, 3) := by decide +kernel
theorem dX1_isTakeable_72 : decode (cr_by Y_X1_isTakeable) 72 = .ok (.iconst 0, 1) := by decide +kernel
theorem dX1_isTakeable_73 : decode (cr_by Y_X1_isTakeable) 73 = .ok (.ireturn, 1) := by decide +kernel
theorem dX1_isKeptForOwn_0 : decode (cr_by Y_X1_isKeptForOwn) 0 = .ok (.aload_n 0, 1) := by decide +kernel
theorem dX1_isKeptForOwn_1 : decode (cr_by Y_X1_isKeptForOwn) 1 = .ok (.getfield 21, 3) := by decide +kernel
theorem dX1_isKeptForOwn_4 : decode (cr_by Y_X1_isKeptForOwn) 4 = .ok (.getfield 143, 3) := by decide +kernel
theorem dX1_isKeptForOwn_7 : decode (cr_by Y_X1_isKeptForOwn) 7 = .ok (.iload_n 1, 1) := by decide +kernel
theorem dX1_isKeptForOwn_8 : decode (cr_by Y_X1_isKeptForOwn) 8 = .ok (.iaload, 1) := by decide +kernel
theorem dX1_isKeptForOwn_9 : decode (cr_by Y_X1_isKeptForOwn) 9 = .ok (.iconst 1, 1) := by decide +kernel
theorem dX1_isKeptForOwn_10 : decode (cr_by Y_X1_isKeptForOwn) 10 = .ok (.if_icmp .ne 28, 3) := by decide +kernel
theorem dX1_isKeptForOwn_13 : decode (cr_by Y_X1_isKeptForOwn) 13 = .ok (.aload_n 0, 1) := by decide +kernel
theorem dX1_isKeptForOwn_14 : decode (cr_by Y_X1_isKeptForOwn) 14 = .ok (.getfield 43, 3) := by decide +kernel
theorem dX1_isKeptForOwn_17 : decode (cr_by Y_X1_isKeptForOwn) 17 = .ok (.aload_n 0, 1) := by decide +kernel
theorem dX1_isKeptForOwn_18 : decode (cr_by Y_X1_isKeptForOwn) 18 = .ok (.getfield 21, 3) := by decide +kernel
theorem dX1_isKeptForOwn_21 : decode (cr_by Y_X1_isKeptForOwn) 21 = .ok (.getfield 159, 3) := by decide +kernel
theorem dX1_isKeptForOwn_24 : decode (cr_by Y_X1_isKeptForOwn) 24 = .ok (.iload_n 1, 1) := by decide +kernel
theorem dX1_isKeptForOwn_25 : decode (cr_by Y_X1_isKeptForOwn) 25 = .ok (.iaload, 1) := by decide +kernel
theorem dX1_isKeptForOwn_26 : decode (cr_by Y_X1_isKeptForOwn) 26 = .ok (.isub, 1) := by decide +kernel
theorem dX1_isKeptForOwn_27 : decode (cr_by Y_X1_isKeptForOwn) 27 = .ok (.aload_n 0, 1) := by decide +kernel
theorem dX1_isKeptForOwn_28 : decode (cr_by Y_X1_isKeptForOwn) 28 = .ok (.getfield 32, 3) := by decide +kernel
theorem dX1_isKeptForOwn_31 : decode (cr_by Y_X1_isKeptForOwn) 31 = .ok (.if_icmp .ge 7, 3) := by decide +kernel
theorem dX1_isKeptForOwn_34 : decode (cr_by Y_X1_isKeptForOwn) 34 = .ok (.iconst 1, 1) := by decide +kernel
theorem dX1_isKeptForOwn_35 : decode (cr_by Y_X1_isKeptForOwn) 35 = .ok (.goto 4, 3) := by decide +kernel
theorem dX1_isKeptForOwn_38 : decode (cr_by Y_X1_isKeptForOwn) 38 = .ok (.iconst 0, 1) := by decide +kernel
theorem dX1_isKeptForOwn_39 : decode (cr_by Y_X1_isKeptForOwn) 39 = .ok (.ireturn, 1) := by decide +kernel
theorem dX1_bestHelper_0 : decode (cr_by Y_X1_bestHelper) 0 = .ok (.aload_n 0, 1) := by decide +kernel
theorem dX1_bestHelper_1 : decode (cr_by Y_X1_bestHelper) 1 = .ok (.getfield 21, 3) := by decide +kernel
theorem dX1_bestHelper_4 : decode (cr_by Y_X1_bestHelper) 4 = .ok (.getfield 133, 3) := by decide +kernel
theorem dX1_bestHelper_7 : decode (cr_by Y_X1_bestHelper) 7 = .ok (.iload_n 1, 1) := by decide +kernel
theorem dX1_bestHelper_8 : decode (cr_by Y_X1_bestHelper) 8 = .ok (.iaload, 1) := by decide +kernel
theorem dX1_bestHelper_9 : decode (cr_by Y_X1_bestHelper) 9 = .ok (.istore_n 2, 1) := by decide +kernel
theorem dX1_bestHelper_10 : decode (cr_by Y_X1_bestHelper) 10 = .ok (.aload_n 0, 1) := by decide +kernel
theorem dX1_bestHelper_11 : decode (cr_by Y_X1_bestHelper) 11 = .ok (.getfield 21, 3) := by decide +kernel
theorem dX1_bestHelper_14 : decode (cr_by Y_X1_bestHelper) 14 = .ok (.getfield 143, 3) := by decide +kernel
theorem dX1_bestHelper_17 : decode (cr_by Y_X1_bestHelper) 17 = .ok (.iload_n 1, 1) := by decide +kernel
theorem dX1_bestHelper_18 : decode (cr_by Y_X1_bestHelper) 18 = .ok (.iaload, 1) := by decide +kernel
theorem dX1_bestHelper_19 : decode (cr_by Y_X1_bestHelper) 19 = .ok (.iconst 3, 1) := by decide +kernel
theorem dX1_bestHelper_20 : decode (cr_by Y_X1_bestHelper) 20 = .ok (.if_icmp .ne 7, 3) := by decide +kernel
theorem dX1_bestHelper_23 : decode (cr_by Y_X1_bestHelper) 23 = .ok (.iconst 1, 1) := by decide +kernel
theorem dX1_bestHelper_24 : decode (cr_by Y_X1_bestHelper) 24 = .ok (.goto 4, 3) := by decide +kernel
theorem dX1_bestHelper_27 : decode (cr_by Y_X1_bestHelper) 27 = .ok (.iconst 0, 1) := by decide +kernel
theorem dX1_bestHelper_28 : decode (cr_by Y_X1_bestHelper) 28 = .ok (.istore_n 3, 1) := by decide +kernel
theorem dX1_bestHelper_29 : decode (cr_by Y_X1_bestHelper) 29 = .ok (.aload_n 0, 1) := by decide +kernel
theorem dX1_bestHelper_30 : decode (cr_by Y_X1_bestHelper) 30 = .ok (.getfield 21, 3) := by decide +kernel
theorem dX1_bestHelper_33 : decode (cr_by Y_X1_bestHelper) 33 = .ok (.getfield 173, 3) := by decide +kernel
theorem dX1_bestHelper_36 : decode (cr_by Y_X1_bestHelper) 36 = .ok (.iload_n 1, 1) := by decide +kernel
theorem dX1_bestHelper_37 : decode (cr_by Y_X1_bestHelper) 37 = .ok (.iaload, 1) := by decide +kernel
theorem dX1_bestHelper_38 : decode (cr_by Y_X1_bestHelper) 38 = .ok (.istore 4, 2) := by decide +kernel
theorem dX1_bestHelper_40 : decode (cr_by Y_X1_bestHelper) 40 = .ok (.aload_n 0, 1) := by decide +kernel
theorem dX1_bestHelper_41 : decode (cr_by Y_X1_bestHelper) 41 = .ok (.getfield 12, 3) := by decide +kernel
theorem dX1_bestHelper_44 : decode (cr_by Y_X1_bestHelper) 44 = .ok (.iload 4, 2) := by decide +kernel
theorem dX1_bestHelper_46 : decode (cr_by Y_X1_bestHelper) 46 = .ok (.iload_n 2, 1) := by decide +kernel
theorem dX1_bestHelper_47 : decode (cr_by Y_X1_bestHelper) 47 = .ok (.iload_n 3, 1) := by decide +kernel
theorem dX1_bestHelper_48 : decode (cr_by Y_X1_bestHelper) 48 = .ok (.invokevirtual 166, 3) := by decide +kernel
theorem dX1_bestHelper_51 : decode (cr_by Y_X1_bestHelper) 51 = .ok (.ifCond .eq 6, 3) := by decide +kernel
theorem dX1_bestHelper_54 : decode (cr_by Y_X1_bestHelper) 54 = .ok (.iload 4, 2) := by decide +kernel
theorem dX1_bestHelper_56 : decode (cr_by Y_X1_bestHelper) 56 = .ok (.ireturn, 1) := by decide +kernel
theorem dX1_bestHelper_57 : decode (cr_by Y_X1_bestHelper) 57 = .ok (.aload_n 0, 1) := by decide +kernel
theorem dX1_bestHelper_58 : decode (cr_by Y_X1_bestHelper) 58 = .ok (.iload_n 1, 1) := by decide +kernel
theorem dX1_bestHelper_59 : decode (cr_by Y_X1_bestHelper) 59 = .ok (.invokevirtual 170, 3) := by decide +kernel
theorem dX1_bestHelper_62 : decode (cr_by Y_X1_bestHelper) 62 = .ok (.ifCond .eq 6, 3) := by decide +kernel
theorem dX1_bestHelper_65 : decode (cr_by Y_X1_bestHelper) 65 = .ok (.bipush (-9), 2) := by decide +kernel
theorem dX1_bestHelper_67 : decode (cr_by Y_X1_bestHelper) 67 = .ok (.ireturn, 1) := by decide +kernel
theorem dX1_bestHelper_68 : decode (cr_by Y_X1_bestHelper) 68 = .ok (.bipush (-9), 2) := by decide +kernel
theorem dX1_bestHelper_70 : decode (cr_by Y_X1_bestHelper) 70 = .ok (.istore 5, 2) := by decide +kernel
theorem dX1_bestHelper_72 : decode (cr_by Y_X1_bestHelper) 72 = .ok (.iconst 0, 1) := by decide +kernel
theorem dX1_bestHelper_73 : decode (cr_by Y_X1_bestHelper) 73 = .ok (.istore 6, 2) := by decide +kernel
theorem dX1_bestHelper_75 : decode (cr_by Y_X1_bestHelper) 75 = .ok (.iload 6, 2) := by decide +kernel
theorem dX1_bestHelper_77 : decode (cr_by Y_X1_bestHelper) 77 = .ok (.aload_n 0, 1) := by decide +kernel
theorem dX1_bestHelper_78 : decode (cr_by Y_X1_bestHelper) 78 = .ok (.getfield 12, 3) := by decide +kernel
theorem dX1_bestHelper_81 : decode (cr_by Y_X1_bestHelper) 81 = .ok (.getfield 165, 3) := by decide +kernel
theorem dX1_bestHelper_84 : decode (cr_by Y_X1_bestHelper) 84 = .ok (.if_icmp .ge 49, 3) := by decide +kernel
theorem dX1_bestHelper_87 : decode (cr_by Y_X1_bestHelper) 87 = .ok (.aload_n 0, 1) := by decide +kernel
theorem dX1_bestHelper_88 : decode (cr_by Y_X1_bestHelper) 88 = .ok (.getfield 12, 3) := by decide +kernel
theorem dX1_bestHelper_91 : decode (cr_by Y_X1_bestHelper) 91 = .ok (.iload 6, 2) := by decide +kernel
theorem dX1_bestHelper_93 : decode (cr_by Y_X1_bestHelper) 93 = .ok (.iload_n 2, 1) := by decide +kernel
theorem dX1_bestHelper_94 : decode (cr_by Y_X1_bestHelper) 94 = .ok (.iload_n 3, 1) := by decide +kernel
theorem dX1_bestHelper_95 : decode (cr_by Y_X1_bestHelper) 95 = .ok (.invokevirtual 166, 3) := by decide +kernel
theorem dX1_bestHelper_98 : decode (cr_by Y_X1_bestHelper) 98 = .ok (.ifCond .eq 29, 3) := by decide +kernel
theorem dX1_bestHelper_101 : decode (cr_by Y_X1_bestHelper) 101 = .ok (.iload 5, 2) := by decide +kernel
theorem dX1_bestHelper_103 : decode (cr_by Y_X1_bestHelper) 103 = .ok (.bipush (-9), 2) := by decide +kernel
theorem dX1_bestHelper_105 : decode (cr_by Y_X1_bestHelper) 105 = .ok (.if_icmp .eq 18, 3) := by decide +kernel
theorem dX1_bestHelper_108 : decode (cr_by Y_X1_bestHelper) 108 = .ok (.aload_n 0, 1) := by decide +kernel
theorem dX1_bestHelper_109 : decode (cr_by Y_X1_bestHelper) 109 = .ok (.getfield 12, 3) := by decide +kernel
theorem dX1_bestHelper_112 : decode (cr_by Y_X1_bestHelper) 112 = .ok (.iload 6, 2) := by decide +kernel
theorem dX1_bestHelper_114 : decode (cr_by Y_X1_bestHelper) 114 = .ok (.iload 5, 2) := by decide +kernel
theorem dX1_bestHelper_116 : decode (cr_by Y_X1_bestHelper) 116 = .ok (.iload_n 2, 1) := by decide +kernel
theorem dX1_bestHelper_117 : decode (cr_by Y_X1_bestHelper) 117 = .ok (.invokevirtual 176, 3) := by decide +kernel
theorem dX1_bestHelper_120 : decode (cr_by Y_X1_bestHelper) 120 = .ok (.ifCond .eq 7, 3) := by decide +kernel
theorem dX1_bestHelper_123 : decode (cr_by Y_X1_bestHelper) 123 = .ok (.iload 6, 2) := by decide +kernel
theorem dX1_bestHelper_125 : decode (cr_by Y_X1_bestHelper) 125 = .ok (.istore 5, 2) := by decide +kernel
theorem dX1_bestHelper_127 : decode (cr_by Y_X1_bestHelper) 127 = .ok (.iinc 6 1, 3) := by decide +kernel
theorem dX1_bestHelper_130 : decode (cr_by Y_X1_bestHelper) 130 = .ok (.goto (-55), 3) := by decide +kernel
theorem dX1_bestHelper_133 : decode (cr_by Y_X1_bestHelper) 133 = .ok (.iload 5, 2) := by decide +kernel
theorem dX1_bestHelper_135 : decode (cr_by Y_X1_bestHelper) 135 = .ok (.ireturn, 1) := by decide +kernel
theorem dX1_hindrance_0 : decode (cr_by Y_X1_hindrance) 0 = .ok (.aload_n 0, 1) := by decide +kernel
theorem dX1_hindrance_1 : decode (cr_by Y_X1_hindrance) 1 = .ok (.getfield 21, 3) := by decide +kernel
theorem dX1_hindrance_4 : decode (cr_by Y_X1_hindrance) 4 = .ok (.getfield 133, 3) := by decide +kernel
theorem dX1_hindrance_7 : decode (cr_by Y_X1_hindrance) 7 = .ok (.iload_n 1, 1) := by decide +kernel
theorem dX1_hindrance_8 : decode (cr_by Y_X1_hindrance) 8 = .ok (.iaload, 1) := by decide +kernel
theorem dX1_hindrance_9 : decode (cr_by Y_X1_hindrance) 9 = .ok (.istore_n 2, 1) := by decide +kernel
theorem dX1_hindrance_10 : decode (cr_by Y_X1_hindrance) 10 = .ok (.aload_n 0, 1) := by decide +kernel
theorem dX1_hindrance_11 : decode (cr_by Y_X1_hindrance) 11 = .ok (.getfield 12, 3) := by decide +kernel
theorem dX1_hindrance_14 : decode (cr_by Y_X1_hindrance) 14 = .ok (.iload_n 2, 1) := by decide +kernel
theorem dX1_hindrance_15 : decode (cr_by Y_X1_hindrance) 15 = .ok (.invokevirtual 180, 3) := by decide +kernel
theorem dX1_hindrance_18 : decode (cr_by Y_X1_hindrance) 18 = .ok (.ifCond .ne 5, 3) := by decide +kernel
theorem dX1_hindrance_21 : decode (cr_by Y_X1_hindrance) 21 = .ok (.iconst 1, 1) := by decide +kernel
theorem dX1_hindrance_22 : decode (cr_by Y_X1_hindrance) 22 = .ok (.ireturn, 1) := by decide +kernel
theorem dX1_hindrance_23 : decode (cr_by Y_X1_hindrance) 23 = .ok (.aload_n 0, 1) := by decide +kernel
theorem dX1_hindrance_24 : decode (cr_by Y_X1_hindrance) 24 = .ok (.getfield 12, 3) := by decide +kernel
theorem dX1_hindrance_27 : decode (cr_by Y_X1_hindrance) 27 = .ok (.iload_n 2, 1) := by decide +kernel
theorem dX1_hindrance_28 : decode (cr_by Y_X1_hindrance) 28 = .ok (.aload_n 0, 1) := by decide +kernel
theorem dX1_hindrance_29 : decode (cr_by Y_X1_hindrance) 29 = .ok (.getfield 21, 3) := by decide +kernel
theorem dX1_hindrance_32 : decode (cr_by Y_X1_hindrance) 32 = .ok (.getfield 143, 3) := by decide +kernel
theorem dX1_hindrance_35 : decode (cr_by Y_X1_hindrance) 35 = .ok (.iload_n 1, 1) := by decide +kernel
theorem dX1_hindrance_36 : decode (cr_by Y_X1_hindrance) 36 = .ok (.iaload, 1) := by decide +kernel
theorem dX1_hindrance_37 : decode (cr_by Y_X1_hindrance) 37 = .ok (.iconst 3, 1) := by decide +kernel
theorem dX1_hindrance_38 : decode (cr_by Y_X1_hindrance) 38 = .ok (.if_icmp .ne 7, 3) := by decide +kernel
theorem dX1_hindrance_41 : decode (cr_by Y_X1_hindrance) 41 = .ok (.iconst 1, 1) := by decide +kernel
theorem dX1_hindrance_42 : decode (cr_by Y_X1_hindrance) 42 = .ok (.goto 4, 3) := by decide +kernel
theorem dX1_hindrance_45 : decode (cr_by Y_X1_hindrance) 45 = .ok (.iconst 0, 1) := by decide +kernel
theorem dX1_hindrance_46 : decode (cr_by Y_X1_hindrance) 46 = .ok (.invokevirtual 183, 3) := by decide +kernel
theorem dX1_hindrance_49 : decode (cr_by Y_X1_hindrance) 49 = .ok (.ifCond .ne 5, 3) := by decide +kernel
theorem dX1_hindrance_52 : decode (cr_by Y_X1_hindrance) 52 = .ok (.iconst 2, 1) := by decide +kernel
theorem dX1_hindrance_53 : decode (cr_by Y_X1_hindrance) 53 = .ok (.ireturn, 1) := by decide +kernel
theorem dX1_hindrance_54 : decode (cr_by Y_X1_hindrance) 54 = .ok (.aload_n 0, 1) := by decide +kernel
theorem dX1_hindrance_55 : decode (cr_by Y_X1_hindrance) 55 = .ok (.iload_n 1, 1) := by decide +kernel
theorem dX1_hindrance_56 : decode (cr_by Y_X1_hindrance) 56 = .ok (.invokevirtual 170, 3) := by decide +kernel
theorem dX1_hindrance_59 : decode (cr_by Y_X1_hindrance) 59 = .ok (.ifCond .eq 28, 3) := by decide +kernel
theorem dX1_hindrance_62 : decode (cr_by Y_X1_hindrance) 62 = .ok (.aload_n 0, 1) := by decide +kernel
theorem dX1_hindrance_63 : decode (cr_by Y_X1_hindrance) 63 = .ok (.getfield 12, 3) := by decide +kernel
theorem dX1_hindrance_66 : decode (cr_by Y_X1_hindrance) 66 = .ok (.aload_n 0, 1) := by decide +kernel
theorem dX1_hindrance_67 : decode (cr_by Y_X1_hindrance) 67 = .ok (.getfield 21, 3) := by decide +kernel
theorem dX1_hindrance_70 : decode (cr_by Y_X1_hindrance) 70 = .ok (.getfield 173, 3) := by decide +kernel
theorem dX1_hindrance_73 : decode (cr_by Y_X1_hindrance) 73 = .ok (.iload_n 1, 1) := by decide +kernel
theorem dX1_hindrance_74 : decode (cr_by Y_X1_hindrance) 74 = .ok (.iaload, 1) := by decide +kernel
theorem dX1_hindrance_75 : decode (cr_by Y_X1_hindrance) 75 = .ok (.iload_n 2, 1) := by decide +kernel
theorem dX1_hindrance_76 : decode (cr_by Y_X1_hindrance) 76 = .ok (.iconst 0, 1) := by decide +kernel
theorem dX1_hindrance_77 : decode (cr_by Y_X1_hindrance) 77 = .ok (.invokevirtual 166, 3) := by decide +kernel
theorem dX1_hindrance_80 : decode (cr_by Y_X1_hindrance) 80 = .ok (.ifCond .ne 7, 3) := by decide +kernel
theorem dX1_hindrance_83 : decode (cr_by Y_X1_hindrance) 83 = .ok (.iconst 3, 1) := by decide +kernel
theorem dX1_hindrance_84 : decode (cr_by Y_X1_hindrance) 84 = .ok (.goto 4, 3) := by decide +kernel
theorem dX1_hindrance_87 : decode (cr_by Y_X1_hindrance) 87 = .ok (.iconst 4, 1) := by decide +kernel
theorem dX1_hindrance_88 : decode (cr_by Y_X1_hindrance) 88 = .ok (.ireturn, 1) := by decide +kernel
end
section
theorem dX2_has_0 : decode (cr_by Y_X2_has) 0 = .ok (.iload_n 1, 1) := by decide +kernel
theorem dX2_has_1 : decode (cr_by Y_X2_has) 1 = .ok (.ifCond .lt 15, 3) := by decide +kernel
theorem dX2_has_4 : decode (cr_by Y_X2_has) 4 = .ok (.iload_n 1, 1) := by decide +kernel
theorem dX2_has_5 : decode (cr_by Y_X2_has) 5 = .ok (.aload_n 0, 1) := by decide +kernel
theorem dX2_has_6 : decode (cr_by Y_X2_has) 6 = .ok (.getfield 36, 3) := by decide +kernel
theorem dX2_has_9 : decode (cr_by Y_X2_has) 9 = .ok (.if_icmp .ge 7, 3) := by decide +kernel
theorem dX2_has_12 : decode (cr_by Y_X2_has) 12 = .ok (.iconst 1, 1) := by decide +kernel
theorem dX2_has_13 : decode (cr_by Y_X2_has) 13 = .ok (.goto 4, 3) := by decide +kernel
theorem dX2_has_16 : decode (cr_by Y_X2_has) 16 = .ok (.iconst 0, 1) := by decide +kernel
theorem dX2_has_17 : decode (cr_by Y_X2_has) 17 = .ok (.ireturn, 1) := by decide +kernel
theorem dX2_add_0 : decode (cr_by Y_X2_add) 0 = .ok (.aload_n 0, 1) := by decide +kernel
theorem dX2_add_1 : decode (cr_by Y_X2_add) 1 = .ok (.getfield 36, 3) := by decide +kernel
theorem dX2_add_4 : decode (cr_by Y_X2_add) 4 = .ok (.bipush 10, 2) := by decide +kernel
theorem dX2_add_6 : decode (cr_by Y_X2_add) 6 = .ok (.if_icmp .lt 6, 3) := by decide +kernel
theorem dX2_add_9 : decode (cr_by Y_X2_add) 9 = .ok (.bipush (-9), 2) := by decide +kernel
theorem dX2_add_11 : decode (cr_by Y_X2_add) 11 = .ok (.ireturn, 1) := by decide +kernel
theorem dX2_add_12 : decode (cr_by Y_X2_add) 12 = .ok (.aload_n 0, 1) := by decide +kernel
theorem dX2_add_13 : decode (cr_by Y_X2_add) 13 = .ok (.getfield 9, 3) := by decide +kernel
theorem dX2_add_16 : decode (cr_by Y_X2_add) 16 = .ok (.aload_n 0, 1) := by decide +kernel
theorem dX2_add_17 : decode (cr_by Y_X2_add) 17 = .ok (.getfield 36, 3) := by decide +kernel
theorem dX2_add_20 : decode (cr_by Y_X2_add) 20 = .ok (.iload_n 1, 1) := by decide +kernel
theorem dX2_add_21 : decode (cr_by Y_X2_add) 21 = .ok (.iastore, 1) := by decide +kernel
theorem dX2_add_22 : decode (cr_by Y_X2_add) 22 = .ok (.aload_n 0, 1) := by decide +kernel
theorem dX2_add_23 : decode (cr_by Y_X2_add) 23 = .ok (.getfield 15, 3) := by decide +kernel
theorem dX2_add_26 : decode (cr_by Y_X2_add) 26 = .ok (.aload_n 0, 1) := by decide +kernel
theorem dX2_add_27 : decode (cr_by Y_X2_add) 27 = .ok (.getfield 36, 3) := by decide +kernel
theorem dX2_add_30 : decode (cr_by Y_X2_add) 30 = .ok (.iconst 0, 1) := by decide +kernel
theorem dX2_add_31 : decode (cr_by Y_X2_add) 31 = .ok (.iastore, 1) := by decide +kernel
theorem dX2_add_32 : decode (cr_by Y_X2_add) 32 = .ok (.aload_n 0, 1) := by decide +kernel
theorem dX2_add_33 : decode (cr_by Y_X2_add) 33 = .ok (.getfield 18, 3) := by decide +kernel
theorem dX2_add_36 : decode (cr_by Y_X2_add) 36 = .ok (.aload_n 0, 1) := by decide +kernel
theorem dX2_add_37 : decode (cr_by Y_X2_add) 37 = .ok (.getfield 36, 3) := by decide +kernel
theorem dX2_add_40 : decode (cr_by Y_X2_add) 40 = .ok (.iload_n 2, 1) := by decide +kernel
theorem dX2_add_41 : decode (cr_by Y_X2_add) 41 = .ok (.iastore, 1) := by decide +kernel
theorem dX2_add_42 : decode (cr_by Y_X2_add) 42 = .ok (.aload_n 0, 1) := by decide +kernel
theorem dX2_add_43 : decode (cr_by Y_X2_add) 43 = .ok (.dup, 1) := by decide +kernel
theorem dX2_add_44 : decode (cr_by Y_X2_add) 44 = .ok (.getfield 36, 3) := by decide +kernel
theorem dX2_add_47 : decode (cr_by Y_X2_add) 47 = .ok (.dup_x1, 1) := by decide +kernel
theorem dX2_add_48 : decode (cr_by Y_X2_add) 48 = .ok (.iconst 1, 1) := by decide +kernel
theorem dX2_add_49 : decode (cr_by Y_X2_add) 49 = .ok (.iadd, 1) := by decide +kernel
theorem dX2_add_50 : decode (cr_by Y_X2_add) 50 = .ok (.putfield 36, 3) := by decide +kernel
theorem dX2_add_53 : decode (cr_by Y_X2_add) 53 = .ok (.ireturn, 1) := by decide +kernel
theorem dX2_become_0 : decode (cr_by Y_X2_become) 0 = .ok (.aload_n 0, 1) := by decide +kernel
theorem dX2_become_1 : decode (cr_by Y_X2_become) 1 = .ok (.getfield 15, 3) := by decide +kernel
theorem dX2_become_4 : decode (cr_by Y_X2_become) 4 = .ok (.iload_n 1, 1) := by decide +kernel
theorem dX2_become_5 : decode (cr_by Y_X2_become) 5 = .ok (.iload_n 2, 1) := by decide +kernel
theorem dX2_become_6 : decode (cr_by Y_X2_become) 6 = .ok (.iastore, 1) := by decide +kernel
theorem dX2_become_7 : decode (cr_by Y_X2_become) 7 = .ok (.aload_n 0, 1) := by decide +kernel
theorem dX2_become_8 : decode (cr_by Y_X2_become) 8 = .ok (.getfield 18, 3) := by decide +kernel
theorem dX2_become_11 : decode (cr_by Y_X2_become) 11 = .ok (.iload_n 1, 1) := by decide +kernel
theorem dX2_become_12 : decode (cr_by Y_X2_become) 12 = .ok (.iload_n 3, 1) := by decide +kernel
theorem dX2_become_13 : decode (cr_by Y_X2_become) 13 = .ok (.iastore, 1) := by decide +kernel
theorem dX2_become_14 : decode (cr_by Y_X2_become) 14 = .ok (.return_, 1) := by decide +kernel
theorem dX2_gradeFor_0 : decode (cr_by Y_X2_gradeFor) 0 = .ok (.aload_n 0, 1) := by decide +kernel
theorem dX2_gradeFor_1 : decode (cr_by Y_X2_gradeFor) 1 = .ok (.getfield 9, 3) := by decide +kernel
theorem dX2_gradeFor_4 : decode (cr_by Y_X2_gradeFor) 4 = .ok (.iload_n 1, 1) := by decide +kernel
theorem dX2_gradeFor_5 : decode (cr_by Y_X2_gradeFor) 5 = .ok (.iaload, 1) := by decide +kernel
theorem dX2_gradeFor_6 : decode (cr_by Y_X2_gradeFor) 6 = .ok (.iconst 2, 1) := by decide +kernel
theorem dX2_gradeFor_7 : decode (cr_by Y_X2_gradeFor) 7 = .ok (.iload_n 2, 1) := by decide +kernel
theorem dX2_gradeFor_8 : decode (cr_by Y_X2_gradeFor) 8 = .ok (.imul, 1) := by decide +kernel
theorem dX2_gradeFor_9 : decode (cr_by Y_X2_gradeFor) 9 = .ok (.ishr, 1) := by decide +kernel
theorem dX2_gradeFor_10 : decode (cr_by Y_X2_gradeFor) 10 = .ok (.iconst 3, 1) := by decide +kernel
theorem dX2_gradeFor_11 : decode (cr_by Y_X2_gradeFor) 11 = .ok (.iand, 1) := by decide +kernel
theorem dX2_gradeFor_12 : decode (cr_by Y_X2_gradeFor) 12 = .ok (.ireturn, 1) := by decide +kernel
theorem dX2_setGrade_0 : decode (cr_by Y_X2_setGrade) 0 = .ok (.aload_n 0, 1) := by decide +kernel
theorem dX2_setGrade_1 : decode (cr_by Y_X2_setGrade) 1 = .ok (.getfield 9, 3) := by decide +kernel
theorem dX2_setGrade_4 : decode (cr_by Y_X2_setGrade) 4 = .ok (.iload_n 1, 1) := by decide +kernel
theorem dX2_setGrade_5 : decode (cr_by Y_X2_setGrade) 5 = .ok (.aload_n 0, 1) := by decide +kernel
theorem dX2_setGrade_6 : decode (cr_by Y_X2_setGrade) 6 = .ok (.getfield 9, 3) := by decide +kernel
theorem dX2_setGrade_9 : decode (cr_by Y_X2_setGrade) 9 = .ok (.iload_n 1, 1) := by decide +kernel
theorem dX2_setGrade_10 : decode (cr_by Y_X2_setGrade) 10 = .ok (.iaload, 1) := by decide +kernel
theorem dX2_setGrade_11 : decode (cr_by Y_X2_setGrade) 11 = .ok (.iconst 3, 1) := by decide +kernel
theorem dX2_setGrade_12 : decode (cr_by Y_X2_setGrade) 12 = .ok (.iconst 2, 1) := by decide +kernel
theorem dX2_setGrade_13 : decode (cr_by Y_X2_setGrade) 13 = .ok (.iload_n 2, 1) := by decide +kernel
theorem dX2_setGrade_14 : decode (cr_by Y_X2_setGrade) 14 = .ok (.imul, 1) := by decide +kernel
theorem dX2_setGrade_15 : decode (cr_by Y_X2_setGrade) 15 = .ok (.ishl, 1) := by decide +kernel
theorem dX2_setGrade_16 : decode (cr_by Y_X2_setGrade) 16 = .ok (.iconst (-1), 1) := by decide +kernel
theorem dX2_setGrade_17 : decode (cr_by Y_X2_setGrade) 17 = .ok (.ixor, 1) := by decide +kernel
theorem dX2_setGrade_18 : decode (cr_by Y_X2_setGrade) 18 = .ok (.iand, 1) := by decide +kernel
theorem dX2_setGrade_19 : decode (cr_by Y_X2_setGrade) 19 = .ok (.iload_n 3, 1) := by decide +kernel
theorem dX2_setGrade_20 : decode (cr_by Y_X2_setGrade) 20 = .ok (.iconst 2, 1) := by decide +kernel
theorem dX2_setGrade_21 : decode (cr_by Y_X2_setGrade) 21 = .ok (.iload_n 2, 1) := by decide +kernel
theorem dX2_setGrade_22 : decode (cr_by Y_X2_setGrade) 22 = .ok (.imul, 1) := by decide +kernel
theorem dX2_setGrade_23 : decode (cr_by Y_X2_setGrade) 23 = .ok (.ishl, 1) := by decide +kernel
theorem dX2_setGrade_24 : decode (cr_by Y_X2_setGrade) 24 = .ok (.ior, 1) := by decide +kernel
theorem dX2_setGrade_25 : decode (cr_by Y_X2_setGrade) 25 = .ok (.iastore, 1) := by decide +kernel
theorem dX2_setGrade_26 : decode (cr_by Y_X2_setGrade) 26 = .ok (.return_, 1) := by decide +kernel
theorem dX2_sortsOf_0 : decode (cr_by Y_X2_sortsOf) 0 = .ok (.aload_n 0, 1) := by decide +kernel
theorem dX2_sortsOf_1 : decode (cr_by Y_X2_sortsOf) 1 = .ok (.getfield 9, 3) := by decide +kernel
theorem dX2_sortsOf_4 : decode (cr_by Y_X2_sortsOf) 4 = .ok (.iload_n 1, 1) := by decide +kernel
theorem dX2_sortsOf_5 : decode (cr_by Y_X2_sortsOf) 5 = .ok (.iaload, 1) := by decide +kernel
theorem dX2_sortsOf_6 : decode (cr_by Y_X2_sortsOf) 6 = .ok (.aload_n 0, 1) := by decide +kernel
theorem dX2_sortsOf_7 : decode (cr_by Y_X2_sortsOf) 7 = .ok (.getfield 9, 3) := by decide +kernel
theorem dX2_sortsOf_10 : decode (cr_by Y_X2_sortsOf) 10 = .ok (.iload_n 1, 1) := by decide +kernel
theorem dX2_sortsOf_11 : decode (cr_by Y_X2_sortsOf) 11 = .ok (.iaload, 1) := by decide +kernel
theorem dX2_sortsOf_12 : decode (cr_by Y_X2_sortsOf) 12 = .ok (.iconst 1, 1) := by decide +kernel
theorem dX2_sortsOf_13 : decode (cr_by Y_X2_sortsOf) 13 = .ok (.ishr, 1) := by decide +kernel
theorem dX2_sortsOf_14 : decode (cr_by Y_X2_sortsOf) 14 = .ok (.ior, 1) := by decide +kernel
theorem dX2_sortsOf_15 : decode (cr_by Y_X2_sortsOf) 15 = .ok (.bipush 85, 2) := by decide +kernel
theorem dX2_sortsOf_17 : decode (cr_by Y_X2_sortsOf) 17 = .ok (.iand, 1) := by decide +kernel
theorem dX2_sortsOf_18 : decode (cr_by Y_X2_sortsOf) 18 = .ok (.invokestatic 40, 3) := by decide +kernel
theorem dX2_sortsOf_21 : decode (cr_by Y_X2_sortsOf) 21 = .ok (.ireturn, 1) := by decide +kernel
theorem dX2_canTake_0 : decode (cr_by Y_X2_canTake) 0 = .ok (.iload_n 1, 1) := by decide +kernel
theorem dX2_canTake_1 : decode (cr_by Y_X2_canTake) 1 = .ok (.ifCond .lt 26, 3) := by decide +kernel
theorem dX2_canTake_4 : decode (cr_by Y_X2_canTake) 4 = .ok (.iload_n 1, 1) := by decide +kernel
theorem dX2_canTake_5 : decode (cr_by Y_X2_canTake) 5 = .ok (.aload_n 0, 1) := by decide +kernel
theorem dX2_canTake_6 : decode (cr_by Y_X2_canTake) 6 = .ok (.getfield 36, 3) := by decide +kernel
theorem dX2_canTake_9 : decode (cr_by Y_X2_canTake) 9 = .ok (.if_icmp .ge 18, 3) := by decide +kernel
theorem dX2_canTake_12 : decode (cr_by Y_X2_canTake) 12 = .ok (.aload_n 0, 1) := by decide +kernel
theorem dX2_canTake_13 : decode (cr_by Y_X2_canTake) 13 = .ok (.getfield 9, 3) := by decide +kernel
theorem dX2_canTake_16 : decode (cr_by Y_X2_canTake) 16 = .ok (.iload_n 1, 1) := by decide +kernel
theorem dX2_canTake_17 : decode (cr_by Y_X2_canTake) 17 = .ok (.iaload, 1) := by decide +kernel
theorem dX2_canTake_18 : decode (cr_by Y_X2_canTake) 18 = .ok (.iconst 2, 1) := by decide +kernel
theorem dX2_canTake_19 : decode (cr_by Y_X2_canTake) 19 = .ok (.iload_n 2, 1) := by decide +kernel
theorem dX2_canTake_20 : decode (cr_by Y_X2_canTake) 20 = .ok (.imul, 1) := by decide +kernel
theorem dX2_canTake_21 : decode (cr_by Y_X2_canTake) 21 = .ok (.ishr, 1) := by decide +kernel
theorem dX2_canTake_22 : decode (cr_by Y_X2_canTake) 22 = .ok (.iconst 3, 1) := by decide +kernel
theorem dX2_canTake_23 : decode (cr_by Y_X2_canTake) 23 = .ok (.iand, 1) := by decide +kernel
theorem dX2_canTake_24 : decode (cr_by Y_X2_canTake) 24 = .ok (.ifCond .ne 5, 3) := by decide +kernel
theorem dX2_canTake_27 : decode (cr_by Y_X2_canTake) 27 = .ok (.iconst 0, 1) := by decide +kernel
theorem dX2_canTake_28 : decode (cr_by Y_X2_canTake) 28 = .ok (.ireturn, 1) := by decide +kernel
theorem dX2_canTake_29 : decode (cr_by Y_X2_canTake) 29 = .ok (.aload_n 0, 1) := by decide +kernel
theorem dX2_canTake_30 : decode (cr_by Y_X2_canTake) 30 = .ok (.getfield 15, 3) := by decide +kernel
theorem dX2_canTake_33 : decode (cr_by Y_X2_canTake) 33 = .ok (.iload_n 1, 1) := by decide +kernel
theorem dX2_canTake_34 : decode (cr_by Y_X2_canTake) 34 = .ok (.iaload, 1) := by decide +kernel
theorem dX2_canTake_35 : decode (cr_by Y_X2_canTake) 35 = .ok (.iconst 1, 1) := by decide +kernel
theorem dX2_canTake_36 : decode (cr_by Y_X2_canTake) 36 = .ok (.if_icmp .ne 5, 3) := by decide +kernel
theorem dX2_canTake_39 : decode (cr_by Y_X2_canTake) 39 = .ok (.iconst 1, 1) := by decide +kernel
theorem dX2_canTake_40 : decode (cr_by Y_X2_canTake) 40 = .ok (.ireturn, 1) := by decide +kernel
theorem dX2_canTake_41 : decode (cr_by Y_X2_canTake) 41 = .ok (.iload_n 3, 1) := by decide +kernel
theorem dX2_canTake_42 : decode (cr_by Y_X2_canTake) 42 = .ok (.ifCond .eq 37, 3) := by decide +kernel
theorem dX2_canTake_45 : decode (cr_by Y_X2_canTake) 45 = .ok (.aload_n 0, 1) := by decide +kernel
theorem dX2_canTake_46 : decode (cr_by Y_X2_canTake) 46 = .ok (.getfield 15, 3) := by decide +kernel
theorem dX2_canTake_49 : decode (cr_by Y_X2_canTake) 49 = .ok (.iload_n 1, 1) := by decide +kernel
theorem dX2_canTake_50 : decode (cr_by Y_X2_canTake) 50 = .ok (.iaload, 1) := by decide +kernel
theorem dX2_canTake_51 : decode (cr_by Y_X2_canTake) 51 = .ok (.iconst 2, 1) := by decide +kernel
theorem dX2_canTake_52 : decode (cr_by Y_X2_canTake) 52 = .ok (.if_icmp .ne 27, 3) := by decide +kernel
theorem dX2_canTake_55 : decode (cr_by Y_X2_canTake) 55 = .ok (.aload_n 0, 1) := by decide +kernel
theorem dX2_canTake_56 : decode (cr_by Y_X2_canTake) 56 = .ok (.getfield 24, 3) := by decide +kernel
theorem dX2_canTake_59 : decode (cr_by Y_X2_canTake) 59 = .ok (.iload_n 1, 1) := by decide +kernel
theorem dX2_canTake_60 : decode (cr_by Y_X2_canTake) 60 = .ok (.iaload, 1) := by decide +kernel
theorem dX2_canTake_61 : decode (cr_by Y_X2_canTake) 61 = .ok (.iconst 3, 1) := by decide +kernel
theorem dX2_canTake_62 : decode (cr_by Y_X2_canTake) 62 = .ok (.if_icmp .ne 17, 3) := by decide +kernel
theorem dX2_canTake_65 : decode (cr_by Y_X2_canTake) 65 = .ok (.aload_n 0, 1) := by decide +kernel
theorem dX2_canTake_66 : decode (cr_by Y_X2_canTake) 66 = .ok (.getfield 21, 3) := by decide +kernel
theorem dX2_canTake_69 : decode (cr_by Y_X2_canTake) 69 = .ok (.iload_n 1, 1) := by decide +kernel
theorem dX2_canTake_70 : decode (cr_by Y_X2_canTake) 70 = .ok (.iaload, 1) := by decide +kernel
theorem dX2_canTake_71 : decode (cr_by Y_X2_canTake) 71 = .ok (.iconst 3, 1) := by decide +kernel
theorem dX2_canTake_72 : decode (cr_by Y_X2_canTake) 72 = .ok (.if_icmp .ge 7, 3) := by decide +kernel
theorem dX2_canTake_75 : decode (cr_by Y_X2_canTake) 75 = .ok (.iconst 1, 1) := by decide +kernel
theorem dX2_canTake_76 : decode (cr_by Y_X2_canTake) 76 = .ok (.goto 4, 3) := by decide +kernel
theorem dX2_canTake_79 : decode (cr_by Y_X2_canTake) 79 = .ok (.iconst 0, 1) := by decide +kernel
theorem dX2_canTake_80 : decode (cr_by Y_X2_canTake) 80 = .ok (.ireturn, 1) := by decide +kernel
theorem dX2_someCanTake_0 : decode (cr_by Y_X2_someCanTake) 0 = .ok (.iconst 0, 1) := by decide +kernel
theorem dX2_someCanTake_1 : decode (cr_by Y_X2_someCanTake) 1 = .ok (.istore_n 3, 1) := by decide +kernel
theorem dX2_someCanTake_2 : decode (cr_by Y_X2_someCanTake) 2 = .ok (.iload_n 3, 1) := by decide +kernel
theorem dX2_someCanTake_3 : decode (cr_by Y_X2_someCanTake) 3 = .ok (.aload_n 0, 1) := by decide +kernel
theorem dX2_someCanTake_4 : decode (cr_by Y_X2_someCanTake) 4 = .ok (.getfield 36, 3) := by decide +kernel
theorem dX2_someCanTake_7 : decode (cr_by Y_X2_someCanTake) 7 = .ok (.if_icmp .ge 21, 3) := by decide +kernel
theorem dX2_someCanTake_10 : decode (cr_by Y_X2_someCanTake) 10 = .ok (.aload_n 0, 1) := by decide +kernel
theorem dX2_someCanTake_11 : decode (cr_by Y_X2_someCanTake) 11 = .ok (.iload_n 3, 1) := by decide +kernel
theorem dX2_someCanTake_12 : decode (cr_by Y_X2_someCanTake) 12 = .ok (.iload_n 1, 1) := by decide +kernel
theorem dX2_someCanTake_13 : decode (cr_by Y_X2_someCanTake) 13 = .ok (.iload_n 2, 1) := by decide +kernel
theorem dX2_someCanTake_14 : decode (cr_by Y_X2_someCanTake) 14 = .ok (.invokevirtual 46, 3) := by decide +kernel
theorem dX2_someCanTake_17 : decode (cr_by Y_X2_someCanTake) 17 = .ok (.ifCond .eq 5, 3) := by decide +kernel
theorem dX2_someCanTake_20 : decode (cr_by Y_X2_someCanTake) 20 = .ok (.iconst 1, 1) := by decide +kernel
theorem dX2_someCanTake_21 : decode (cr_by Y_X2_someCanTake) 21 = .ok (.ireturn, 1) := by decide +kernel
theorem dX2_someCanTake_22 : decode (cr_by Y_X2_someCanTake) 22 = .ok (.iinc 3 1, 3) := by decide +kernel
theorem dX2_someCanTake_25 : decode (cr_by Y_X2_someCanTake) 25 = .ok (.goto (-23), 3) := by decide +kernel
theorem dX2_someCanTake_28 : decode (cr_by Y_X2_someCanTake) 28 = .ok (.iconst 0, 1) := by decide +kernel
theorem dX2_someCanTake_29 : decode (cr_by Y_X2_someCanTake) 29 = .ok (.ireturn, 1) := by decide +kernel
theorem dX2_someInHasGrade_0 : decode (cr_by Y_X2_someInHasGrade) 0 = .ok (.iconst 0, 1) := by decide +kernel
theorem dX2_someInHasGrade_1 : decode (cr_by Y_X2_someInHasGrade) 1 = .ok (.istore_n 2, 1) := by decide +kernel
theorem dX2_someInHasGrade_2 : decode (cr_by Y_X2_someInHasGrade) 2 = .ok (.iload_n 2, 1) := by decide +kernel
theorem dX2_someInHasGrade_3 : decode (cr_by Y_X2_someInHasGrade) 3 = .ok (.aload_n 0, 1) := by decide +kernel
theorem dX2_someInHasGrade_4 : decode (cr_by Y_X2_someInHasGrade) 4 = .ok (.getfield 36, 3) := by decide +kernel
theorem dX2_someInHasGrade_7 : decode (cr_by Y_X2_someInHasGrade) 7 = .ok (.if_icmp .ge 29, 3) := by decide +kernel
theorem dX2_someInHasGrade_10 : decode (cr_by Y_X2_someInHasGrade) 10 = .ok (.aload_n 0, 1) := by decide +kernel
theorem dX2_someInHasGrade_11 : decode (cr_by Y_X2_someInHasGrade) 11 = .ok (.getfield 15, 3) := by decide +kernel
theorem dX2_someInHasGrade_14 : decode (cr_by Y_X2_someInHasGrade) 14 = .ok (.iload_n 2, 1) := by decide +kernel
theorem dX2_someInHasGrade_15 : decode (cr_by Y_X2_someInHasGrade) 15 = .ok (.iaload, 1) := by decide +kernel
theorem dX2_someInHasGrade_16 : decode (cr_by Y_X2_someInHasGrade) 16 = .ok (.ifCond .eq 14, 3) := by decide +kernel
theorem dX2_someInHasGrade_19 : decode (cr_by Y_X2_someInHasGrade) 19 = .ok (.aload_n 0, 1) := by decide +kernel
theorem dX2_someInHasGrade_20 : decode (cr_by Y_X2_someInHasGrade) 20 = .ok (.iload_n 2, 1) := by decide +kernel
theorem dX2_someInHasGrade_21 : decode (cr_by Y_X2_someInHasGrade) 21 = .ok (.iload_n 1, 1) := by decide +kernel
theorem dX2_someInHasGrade_22 : decode (cr_by Y_X2_someInHasGrade) 22 = .ok (.invokevirtual 50, 3) := by decide +kernel
theorem dX2_someInHasGrade_25 : decode (cr_by Y_X2_someInHasGrade) 25 = .ok (.ifCond .le 5, 3) := by decide +kernel
theorem dX2_someInHasGrade_28 : decode (cr_by Y_X2_someInHasGrade) 28 = .ok (.iconst 1, 1) := by decide +kernel
theorem dX2_someInHasGrade_29 : decode (cr_by Y_X2_someInHasGrade) 29 = .ok (.ireturn, 1) := by decide +kernel
theorem dX2_someInHasGrade_30 : decode (cr_by Y_X2_someInHasGrade) 30 = .ok (.iinc 2 1, 3) := by decide +kernel
theorem dX2_someInHasGrade_33 : decode (cr_by Y_X2_someInHasGrade) 33 = .ok (.goto (-31), 3) := by decide +kernel
theorem dX2_someInHasGrade_36 : decode (cr_by Y_X2_someInHasGrade) 36 = .ok (.iconst 0, 1) := by decide +kernel
theorem dX2_someInHasGrade_37 : decode (cr_by Y_X2_someInHasGrade) 37 = .ok (.ireturn, 1) := by decide +kernel
theorem dX2_isBetter_0 : decode (cr_by Y_X2_isBetter) 0 = .ok (.aload_n 0, 1) := by decide +kernel
theorem dX2_isBetter_1 : decode (cr_by Y_X2_isBetter) 1 = .ok (.iload_n 1, 1) := by decide +kernel
theorem dX2_isBetter_2 : decode (cr_by Y_X2_isBetter) 2 = .ok (.iload_n 3, 1) := by decide +kernel
theorem dX2_isBetter_3 : decode (cr_by Y_X2_isBetter) 3 = .ok (.invokevirtual 50, 3) := by decide +kernel
theorem dX2_isBetter_6 : decode (cr_by Y_X2_isBetter) 6 = .ok (.aload_n 0, 1) := by decide +kernel
theorem dX2_isBetter_7 : decode (cr_by Y_X2_isBetter) 7 = .ok (.iload_n 2, 1) := by decide +kernel
theorem dX2_isBetter_8 : decode (cr_by Y_X2_isBetter) 8 = .ok (.iload_n 3, 1) := by decide +kernel
theorem dX2_isBetter_9 : decode (cr_by Y_X2_isBetter) 9 = .ok (.invokevirtual 50, 3) := by decide +kernel
theorem dX2_isBetter_12 : decode (cr_by Y_X2_isBetter) 12 = .ok (.isub, 1) := by decide +kernel
theorem dX2_isBetter_13 : decode (cr_by Y_X2_isBetter) 13 = .ok (.istore 4, 2) := by decide +kernel
theorem dX2_isBetter_15 : decode (cr_by Y_X2_isBetter) 15 = .ok (.iload 4, 2) := by decide +kernel
theorem dX2_isBetter_17 : decode (cr_by Y_X2_isBetter) 17 = .ok (.ifCond .eq 14, 3) := by decide +kernel
theorem dX2_isBetter_20 : decode (cr_by Y_X2_isBetter) 20 = .ok (.iload 4, 2) := by decide +kernel
theorem dX2_isBetter_22 : decode (cr_by Y_X2_isBetter) 22 = .ok (.ifCond .le 7, 3) := by decide +kernel
theorem dX2_isBetter_25 : decode (cr_by Y_X2_isBetter) 25 = .ok (.iconst 1, 1) := by decide +kernel
theorem dX2_isBetter_26 : decode (cr_by Y_X2_isBetter) 26 = .ok (.goto 4, 3) := by decide +kernel
theorem dX2_isBetter_29 : decode (cr_by Y_X2_isBetter) 29 = .ok (.iconst 0, 1) := by decide +kernel
theorem dX2_isBetter_30 : decode (cr_by Y_X2_isBetter) 30 = .ok (.ireturn, 1) := by decide +kernel
theorem dX2_isBetter_31 : decode (cr_by Y_X2_isBetter) 31 = .ok (.aload_n 0, 1) := by decide +kernel
theorem dX2_isBetter_32 : decode (cr_by Y_X2_isBetter) 32 = .ok (.iload_n 1, 1) := by decide +kernel
theorem dX2_isBetter_33 : decode (cr_by Y_X2_isBetter) 33 = .ok (.invokevirtual 54, 3) := by decide +kernel
theorem dX2_isBetter_36 : decode (cr_by Y_X2_isBetter) 36 = .ok (.aload_n 0, 1) := by decide +kernel
theorem dX2_isBetter_37 : decode (cr_by Y_X2_isBetter) 37 = .ok (.iload_n 2, 1) := by decide +kernel
theorem dX2_isBetter_38 : decode (cr_by Y_X2_isBetter) 38 = .ok (.invokevirtual 54, 3) := by decide +kernel
theorem dX2_isBetter_41 : decode (cr_by Y_X2_isBetter) 41 = .ok (.isub, 1) := by decide +kernel
theorem dX2_isBetter_42 : decode (cr_by Y_X2_isBetter) 42 = .ok (.istore 5, 2) := by decide +kernel
theorem dX2_isBetter_44 : decode (cr_by Y_X2_isBetter) 44 = .ok (.iload 5, 2) := by decide +kernel
theorem dX2_isBetter_46 : decode (cr_by Y_X2_isBetter) 46 = .ok (.ifCond .eq 14, 3) := by decide +kernel
theorem dX2_isBetter_49 : decode (cr_by Y_X2_isBetter) 49 = .ok (.iload 5, 2) := by decide +kernel
theorem dX2_isBetter_51 : decode (cr_by Y_X2_isBetter) 51 = .ok (.ifCond .ge 7, 3) := by decide +kernel
theorem dX2_isBetter_54 : decode (cr_by Y_X2_isBetter) 54 = .ok (.iconst 1, 1) := by decide +kernel
theorem dX2_isBetter_55 : decode (cr_by Y_X2_isBetter) 55 = .ok (.goto 4, 3) := by decide +kernel
theorem dX2_isBetter_58 : decode (cr_by Y_X2_isBetter) 58 = .ok (.iconst 0, 1) := by decide +kernel
theorem dX2_isBetter_59 : decode (cr_by Y_X2_isBetter) 59 = .ok (.ireturn, 1) := by decide +kernel
theorem dX2_isBetter_60 : decode (cr_by Y_X2_isBetter) 60 = .ok (.aload_n 0, 1) := by decide +kernel
theorem dX2_isBetter_61 : decode (cr_by Y_X2_isBetter) 61 = .ok (.getfield 15, 3) := by decide +kernel
theorem dX2_isBetter_64 : decode (cr_by Y_X2_isBetter) 64 = .ok (.iload_n 1, 1) := by decide +kernel
theorem dX2_isBetter_65 : decode (cr_by Y_X2_isBetter) 65 = .ok (.iaload, 1) := by decide +kernel
theorem dX2_isBetter_66 : decode (cr_by Y_X2_isBetter) 66 = .ok (.aload_n 0, 1) := by decide +kernel
theorem dX2_isBetter_67 : decode (cr_by Y_X2_isBetter) 67 = .ok (.getfield 15, 3) := by decide +kernel
theorem dX2_isBetter_70 : decode (cr_by Y_X2_isBetter) 70 = .ok (.iload_n 2, 1) := by decide +kernel
theorem dX2_isBetter_71 : decode (cr_by Y_X2_isBetter) 71 = .ok (.iaload, 1) := by decide +kernel
theorem dX2_isBetter_72 : decode (cr_by Y_X2_isBetter) 72 = .ok (.if_icmp .eq 19, 3) := by decide +kernel
theorem dX2_isBetter_75 : decode (cr_by Y_X2_isBetter) 75 = .ok (.aload_n 0, 1) := by decide +kernel
theorem dX2_isBetter_76 : decode (cr_by Y_X2_isBetter) 76 = .ok (.getfield 15, 3) := by decide +kernel
theorem dX2_isBetter_79 : decode (cr_by Y_X2_isBetter) 79 = .ok (.iload_n 1, 1) := by decide +kernel
theorem dX2_isBetter_80 : decode (cr_by Y_X2_isBetter) 80 = .ok (.iaload, 1) := by decide +kernel
theorem dX2_isBetter_81 : decode (cr_by Y_X2_isBetter) 81 = .ok (.iconst 1, 1) := by decide +kernel
theorem dX2_isBetter_82 : decode (cr_by Y_X2_isBetter) 82 = .ok (.if_icmp .ne 7, 3) := by decide +kernel
theorem dX2_isBetter_85 : decode (cr_by Y_X2_isBetter) 85 = .ok (.iconst 1, 1) := by decide +kernel
theorem dX2_isBetter_86 : decode (cr_by Y_X2_isBetter) 86 = .ok (.goto 4, 3) := by decide +kernel
theorem dX2_isBetter_89 : decode (cr_by Y_X2_isBetter) 89 = .ok (.iconst 0, 1) := by decide +kernel
theorem dX2_isBetter_90 : decode (cr_by Y_X2_isBetter) 90 = .ok (.ireturn, 1) := by decide +kernel
theorem dX2_isBetter_91 : decode (cr_by Y_X2_isBetter) 91 = .ok (.aload_n 0, 1) := by decide +kernel
theorem dX2_isBetter_92 : decode (cr_by Y_X2_isBetter) 92 = .ok (.getfield 18, 3) := by decide +kernel
theorem dX2_isBetter_95 : decode (cr_by Y_X2_isBetter) 95 = .ok (.iload_n 1, 1) := by decide +kernel
theorem dX2_isBetter_96 : decode (cr_by Y_X2_isBetter) 96 = .ok (.iaload, 1) := by decide +kernel
theorem dX2_isBetter_97 : decode (cr_by Y_X2_isBetter) 97 = .ok (.aload_n 0, 1) := by decide +kernel
theorem dX2_isBetter_98 : decode (cr_by Y_X2_isBetter) 98 = .ok (.getfield 18, 3) := by decide +kernel
theorem dX2_isBetter_101 : decode (cr_by Y_X2_isBetter) 101 = .ok (.iload_n 2, 1) := by decide +kernel
theorem dX2_isBetter_102 : decode (cr_by Y_X2_isBetter) 102 = .ok (.iaload, 1) := by decide +kernel
theorem dX2_isBetter_103 : decode (cr_by Y_X2_isBetter) 103 = .ok (.if_icmp .ge 7, 3) := by decide +kernel
theorem dX2_isBetter_106 : decode (cr_by Y_X2_isBetter) 106 = .ok (.iconst 1, 1) := by decide +kernel
theorem dX2_isBetter_107 : decode (cr_by Y_X2_isBetter) 107 = .ok (.goto 4, 3) := by decide +kernel
theorem dX2_isBetter_110 : decode (cr_by Y_X2_isBetter) 110 = .ok (.iconst 0, 1) := by decide +kernel
theorem dX2_isBetter_111 : decode (cr_by Y_X2_isBetter) 111 = .ok (.ireturn, 1) := by decide +kernel
theorem dX2_take_0 : decode (cr_by Y_X2_take) 0 = .ok (.aload_n 0, 1) := by decide +kernel
theorem dX2_take_1 : decode (cr_by Y_X2_take) 1 = .ok (.getfield 21, 3) := by decide +kernel
theorem dX2_take_4 : decode (cr_by Y_X2_take) 4 = .ok (.iload_n 1, 1) := by decide +kernel
theorem dX2_take_5 : decode (cr_by Y_X2_take) 5 = .ok (.dup2, 1) := by decide +kernel
theorem dX2_take_6 : decode (cr_by Y_X2_take) 6 = .ok (.iaload, 1) := by decide +kernel
theorem dX2_take_7 : decode (cr_by Y_X2_take) 7 = .ok (.iconst 1, 1) := by decide +kernel
theorem dX2_take_8 : decode (cr_by Y_X2_take) 8 = .ok (.iadd, 1) := by decide +kernel
theorem dX2_take_9 : decode (cr_by Y_X2_take) 9 = .ok (.iastore, 1) := by decide +kernel
theorem dX2_take_10 : decode (cr_by Y_X2_take) 10 = .ok (.aload_n 0, 1) := by decide +kernel
theorem dX2_take_11 : decode (cr_by Y_X2_take) 11 = .ok (.getfield 24, 3) := by decide +kernel
theorem dX2_take_14 : decode (cr_by Y_X2_take) 14 = .ok (.iload_n 1, 1) := by decide +kernel
theorem dX2_take_15 : decode (cr_by Y_X2_take) 15 = .ok (.iload_n 2, 1) := by decide +kernel
theorem dX2_take_16 : decode (cr_by Y_X2_take) 16 = .ok (.iastore, 1) := by decide +kernel
theorem dX2_take_17 : decode (cr_by Y_X2_take) 17 = .ok (.aload_n 0, 1) := by decide +kernel
theorem dX2_take_18 : decode (cr_by Y_X2_take) 18 = .ok (.iload_n 1, 1) := by decide +kernel
theorem dX2_take_19 : decode (cr_by Y_X2_take) 19 = .ok (.iconst 2, 1) := by decide +kernel
theorem dX2_take_20 : decode (cr_by Y_X2_take) 20 = .ok (.iload_n 3, 1) := by decide +kernel
theorem dX2_take_21 : decode (cr_by Y_X2_take) 21 = .ok (.invokevirtual 57, 3) := by decide +kernel
theorem dX2_take_24 : decode (cr_by Y_X2_take) 24 = .ok (.return_, 1) := by decide +kernel
theorem dX2_letGo_0 : decode (cr_by Y_X2_letGo) 0 = .ok (.aload_n 0, 1) := by decide +kernel
theorem dX2_letGo_1 : decode (cr_by Y_X2_letGo) 1 = .ok (.iload_n 1, 1) := by decide +kernel
theorem dX2_letGo_2 : decode (cr_by Y_X2_letGo) 2 = .ok (.invokevirtual 61, 3) := by decide +kernel
theorem dX2_letGo_5 : decode (cr_by Y_X2_letGo) 5 = .ok (.ifCond .ne 4, 3) := by decide +kernel
theorem dX2_letGo_8 : decode (cr_by Y_X2_letGo) 8 = .ok (.return_, 1) := by decide +kernel
theorem dX2_letGo_9 : decode (cr_by Y_X2_letGo) 9 = .ok (.aload_n 0, 1) := by decide +kernel
theorem dX2_letGo_10 : decode (cr_by Y_X2_letGo) 10 = .ok (.getfield 21, 3) := by decide +kernel
theorem dX2_letGo_13 : decode (cr_by Y_X2_letGo) 13 = .ok (.iload_n 1, 1) := by decide +kernel
theorem dX2_letGo_14 : decode (cr_by Y_X2_letGo) 14 = .ok (.dup2, 1) := by decide +kernel
theorem dX2_letGo_15 : decode (cr_by Y_X2_letGo) 15 = .ok (.iaload, 1) := by decide +kernel
theorem dX2_letGo_16 : decode (cr_by Y_X2_letGo) 16 = .ok (.iconst 1, 1) := by decide +kernel
theorem dX2_letGo_17 : decode (cr_by Y_X2_letGo) 17 = .ok (.isub, 1) := by decide +kernel
theorem dX2_letGo_18 : decode (cr_by Y_X2_letGo) 18 = .ok (.iastore, 1) := by decide +kernel
theorem dX2_letGo_19 : decode (cr_by Y_X2_letGo) 19 = .ok (.aload_n 0, 1) := by decide +kernel
theorem dX2_letGo_20 : decode (cr_by Y_X2_letGo) 20 = .ok (.iload_n 1, 1) := by decide +kernel
theorem dX2_letGo_21 : decode (cr_by Y_X2_letGo) 21 = .ok (.aload_n 0, 1) := by decide +kernel
theorem dX2_letGo_22 : decode (cr_by Y_X2_letGo) 22 = .ok (.getfield 21, 3) := by decide +kernel
theorem dX2_letGo_25 : decode (cr_by Y_X2_letGo) 25 = .ok (.iload_n 1, 1) := by decide +kernel
theorem dX2_letGo_26 : decode (cr_by Y_X2_letGo) 26 = .ok (.iaload, 1) := by decide +kernel
theorem dX2_letGo_27 : decode (cr_by Y_X2_letGo) 27 = .ok (.ifCond .le 7, 3) := by decide +kernel
theorem dX2_letGo_30 : decode (cr_by Y_X2_letGo) 30 = .ok (.iconst 2, 1) := by decide +kernel
theorem dX2_letGo_31 : decode (cr_by Y_X2_letGo) 31 = .ok (.goto 4, 3) := by decide +kernel
theorem dX2_letGo_34 : decode (cr_by Y_X2_letGo) 34 = .ok (.iconst 1, 1) := by decide +kernel
theorem dX2_letGo_35 : decode (cr_by Y_X2_letGo) 35 = .ok (.iload_n 2, 1) := by decide +kernel
theorem dX2_letGo_36 : decode (cr_by Y_X2_letGo) 36 = .ok (.invokevirtual 57, 3) := by decide +kernel
theorem dX2_letGo_39 : decode (cr_by Y_X2_letGo) 39 = .ok (.return_, 1) := by decide +kernel
theorem dX2_addBusyTicks_0 : decode (cr_by Y_X2_addBusyTicks) 0 = .ok (.iconst 0, 1) := by decide +kernel
theorem dX2_addBusyTicks_1 : decode (cr_by Y_X2_addBusyTicks) 1 = .ok (.istore_n 2, 1) := by decide +kernel
theorem dX2_addBusyTicks_2 : decode (cr_by Y_X2_addBusyTicks) 2 = .ok (.iload_n 2, 1) := by decide +kernel
theorem dX2_addBusyTicks_3 : decode (cr_by Y_X2_addBusyTicks) 3 = .ok (.aload_n 0, 1) := by decide +kernel
theorem dX2_addBusyTicks_4 : decode (cr_by Y_X2_addBusyTicks) 4 = .ok (.getfield 36, 3) := by decide +kernel
theorem dX2_addBusyTicks_7 : decode (cr_by Y_X2_addBusyTicks) 7 = .ok (.if_icmp .ge 29, 3) := by decide +kernel
theorem dX2_addBusyTicks_10 : decode (cr_by Y_X2_addBusyTicks) 10 = .ok (.aload_n 0, 1) := by decide +kernel
theorem dX2_addBusyTicks_11 : decode (cr_by Y_X2_addBusyTicks) 11 = .ok (.getfield 15, 3) := by decide +kernel
theorem dX2_addBusyTicks_14 : decode (cr_by Y_X2_addBusyTicks) 14 = .ok (.iload_n 2, 1) := by decide +kernel
theorem dX2_addBusyTicks_15 : decode (cr_by Y_X2_addBusyTicks) 15 = .ok (.iaload, 1) := by decide +kernel
theorem dX2_addBusyTicks_16 : decode (cr_by Y_X2_addBusyTicks) 16 = .ok (.iconst 2, 1) := by decide +kernel
theorem dX2_addBusyTicks_17 : decode (cr_by Y_X2_addBusyTicks) 17 = .ok (.if_icmp .ne 13, 3) := by decide +kernel
theorem dX2_addBusyTicks_20 : decode (cr_by Y_X2_addBusyTicks) 20 = .ok (.aload_n 0, 1) := by decide +kernel
theorem dX2_addBusyTicks_21 : decode (cr_by Y_X2_addBusyTicks) 21 = .ok (.getfield 30, 3) := by decide +kernel
theorem dX2_addBusyTicks_24 : decode (cr_by Y_X2_addBusyTicks) 24 = .ok (.iload_n 2, 1) := by decide +kernel
theorem dX2_addBusyTicks_25 : decode (cr_by Y_X2_addBusyTicks) 25 = .ok (.dup2, 1) := by decide +kernel
theorem dX2_addBusyTicks_26 : decode (cr_by Y_X2_addBusyTicks) 26 = .ok (.iaload, 1) := by decide +kernel
theorem dX2_addBusyTicks_27 : decode (cr_by Y_X2_addBusyTicks) 27 = .ok (.iload_n 1, 1) := by decide +kernel
theorem dX2_addBusyTicks_28 : decode (cr_by Y_X2_addBusyTicks) 28 = .ok (.iadd, 1) := by decide +kernel
theorem dX2_addBusyTicks_29 : decode (cr_by Y_X2_addBusyTicks) 29 = .ok (.iastore, 1) := by decide +kernel
theorem dX2_addBusyTicks_30 : decode (cr_by Y_X2_addBusyTicks) 30 = .ok (.iinc 2 1, 3) := by decide +kernel
theorem dX2_addBusyTicks_33 : decode (cr_by Y_X2_addBusyTicks) 33 = .ok (.goto (-31), 3) := by decide +kernel
theorem dX2_addBusyTicks_36 : decode (cr_by Y_X2_addBusyTicks) 36 = .ok (.return_, 1) := by decide +kernel
theorem dX2_endBreaks_0 : decode (cr_by Y_X2_endBreaks) 0 = .ok (.iconst 0, 1) := by decide +kernel
theorem dX2_endBreaks_1 : decode (cr_by Y_X2_endBreaks) 1 = .ok (.istore_n 2, 1) := by decide +kernel
theorem dX2_endBreaks_2 : decode (cr_by Y_X2_endBreaks) 2 = .ok (.iload_n 2, 1) := by decide +kernel
theorem dX2_endBreaks_3 : decode (cr_by Y_X2_endBreaks) 3 = .ok (.aload_n 0, 1) := by decide +kernel
theorem dX2_endBreaks_4 : decode (cr_by Y_X2_endBreaks) 4 = .ok (.getfield 36, 3) := by decide +kernel
theorem dX2_endBreaks_7 : decode (cr_by Y_X2_endBreaks) 7 = .ok (.if_icmp .ge 36, 3) := by decide +kernel
theorem dX2_endBreaks_10 : decode (cr_by Y_X2_endBreaks) 10 = .ok (.aload_n 0, 1) := by decide +kernel
theorem dX2_endBreaks_11 : decode (cr_by Y_X2_endBreaks) 11 = .ok (.getfield 15, 3) := by decide +kernel
theorem dX2_endBreaks_14 : decode (cr_by Y_X2_endBreaks) 14 = .ok (.iload_n 2, 1) := by decide +kernel
theorem dX2_endBreaks_15 : decode (cr_by Y_X2_endBreaks) 15 = .ok (.iaload, 1) := by decide +kernel
theorem dX2_endBreaks_16 : decode (cr_by Y_X2_endBreaks) 16 = .ok (.iconst 3, 1) := by decide +kernel
theorem dX2_endBreaks_17 : decode (cr_by Y_X2_endBreaks) 17 = .ok (.if_icmp .ne 20, 3) := by decide +kernel
theorem dX2_endBreaks_20 : decode (cr_by Y_X2_endBreaks) 20 = .ok (.aload_n 0, 1) := by decide +kernel
theorem dX2_endBreaks_21 : decode (cr_by Y_X2_endBreaks) 21 = .ok (.getfield 33, 3) := by decide +kernel
theorem dX2_endBreaks_24 : decode (cr_by Y_X2_endBreaks) 24 = .ok (.iload_n 2, 1) := by decide +kernel
theorem dX2_endBreaks_25 : decode (cr_by Y_X2_endBreaks) 25 = .ok (.iaload, 1) := by decide +kernel
theorem dX2_endBreaks_26 : decode (cr_by Y_X2_endBreaks) 26 = .ok (.iload_n 1, 1) := by decide +kernel
theorem dX2_endBreaks_27 : decode (cr_by Y_X2_endBreaks) 27 = .ok (.if_icmp .gt 10, 3) := by decide +kernel
theorem dX2_endBreaks_30 : decode (cr_by Y_X2_endBreaks) 30 = .ok (.aload_n 0, 1) := by decide +kernel
theorem dX2_endBreaks_31 : decode (cr_by Y_X2_endBreaks) 31 = .ok (.iload_n 2, 1) := by decide +kernel
theorem dX2_endBreaks_32 : decode (cr_by Y_X2_endBreaks) 32 = .ok (.iconst 1, 1) := by decide +kernel
theorem dX2_endBreaks_33 : decode (cr_by Y_X2_endBreaks) 33 = .ok (.iload_n 1, 1) := by decide +kernel
theorem dX2_endBreaks_34 : decode (cr_by Y_X2_endBreaks) 34 = .ok (.invokevirtual 57, 3) := by decide +kernel
theorem dX2_endBreaks_37 : decode (cr_by Y_X2_endBreaks) 37 = .ok (.iinc 2 1, 3) := by decide +kernel
theorem dX2_endBreaks_40 : decode (cr_by Y_X2_endBreaks) 40 = .ok (.goto (-38), 3) := by decide +kernel
theorem dX2_endBreaks_43 : decode (cr_by Y_X2_endBreaks) 43 = .ok (.return_, 1) := by decide +kernel
theorem dX2_nextBreakOver_0 : decode (cr_by Y_X2_nextBreakOver) 0 = .ok (.ldc 65, 2) := by decide +kernel
theorem dX2_nextBreakOver_2 : decode (cr_by Y_X2_nextBreakOver) 2 = .ok (.istore_n 1, 1) := by decide +kernel
theorem dX2_nextBreakOver_3 : decode (cr_by Y_X2_nextBreakOver) 3 = .ok (.iconst 0, 1) := by decide +kernel
theorem dX2_nextBreakOver_4 : decode (cr_by Y_X2_nextBreakOver) 4 = .ok (.istore_n 2, 1) := by decide +kernel
theorem dX2_nextBreakOver_5 : decode (cr_by Y_X2_nextBreakOver) 5 = .ok (.iload_n 2, 1) := by decide +kernel
theorem dX2_nextBreakOver_6 : decode (cr_by Y_X2_nextBreakOver) 6 = .ok (.aload_n 0, 1) := by decide +kernel
theorem dX2_nextBreakOver_7 : decode (cr_by Y_X2_nextBreakOver) 7 = .ok (.getfield 36, 3) := by decide +kernel
theorem dX2_nextBreakOver_10 : decode (cr_by Y_X2_nextBreakOver) 10 = .ok (.if_icmp .ge 30, 3) := by decide +kernel
theorem dX2_nextBreakOver_13 : decode (cr_by Y_X2_nextBreakOver) 13 = .ok (.aload_n 0, 1) := by decide +kernel
theorem dX2_nextBreakOver_14 : decode (cr_by Y_X2_nextBreakOver) 14 = .ok (.getfield 15, 3) := by decide +kernel
theorem dX2_nextBreakOver_17 : decode (cr_by Y_X2_nextBreakOver) 17 = .ok (.iload_n 2, 1) := by decide +kernel
theorem dX2_nextBreakOver_18 : decode (cr_by Y_X2_nextBreakOver) 18 = .ok (.iaload, 1) := by decide +kernel
theorem dX2_nextBreakOver_19 : decode (cr_by Y_X2_nextBreakOver) 19 = .ok (.iconst 3, 1) := by decide +kernel
theorem dX2_nextBreakOver_20 : decode (cr_by Y_X2_nextBreakOver) 20 = .ok (.if_icmp .ne 14, 3) := by decide +kernel
theorem dX2_nextBreakOver_23 : decode (cr_by Y_X2_nextBreakOver) 23 = .ok (.iload_n 1, 1) := by decide +kernel
theorem dX2_nextBreakOver_24 : decode (cr_by Y_X2_nextBreakOver) 24 = .ok (.aload_n 0, 1) := by decide +kernel
theorem dX2_nextBreakOver_25 : decode (cr_by Y_X2_nextBreakOver) 25 = .ok (.getfield 33, 3) := by decide +kernel
theorem dX2_nextBreakOver_28 : decode (cr_by Y_X2_nextBreakOver) 28 = .ok (.iload_n 2, 1) := by decide +kernel
theorem dX2_nextBreakOver_29 : decode (cr_by Y_X2_nextBreakOver) 29 = .ok (.iaload, 1) := by decide +kernel
theorem dX2_nextBreakOver_30 : decode (cr_by Y_X2_nextBreakOver) 30 = .ok (.invokestatic 66, 3) := by decide +kernel
theorem dX2_nextBreakOver_33 : decode (cr_by Y_X2_nextBreakOver) 33 = .ok (.istore_n 1, 1) := by decide +kernel
theorem dX2_nextBreakOver_34 : decode (cr_by Y_X2_nextBreakOver) 34 = .ok (.iinc 2 1, 3) := by decide +kernel
theorem dX2_nextBreakOver_37 : decode (cr_by Y_X2_nextBreakOver) 37 = .ok (.goto (-32), 3) := by decide +kernel
theorem dX2_nextBreakOver_40 : decode (cr_by Y_X2_nextBreakOver) 40 = .ok (.iload_n 1, 1) := by decide +kernel
theorem dX2_nextBreakOver_41 : decode (cr_by Y_X2_nextBreakOver) 41 = .ok (.ireturn, 1) := by decide +kernel
theorem dX2_countFree_0 : decode (cr_by Y_X2_countFree) 0 = .ok (.iconst 0, 1) := by decide +kernel
theorem dX2_countFree_1 : decode (cr_by Y_X2_countFree) 1 = .ok (.istore_n 1, 1) := by decide +kernel
theorem dX2_countFree_2 : decode (cr_by Y_X2_countFree) 2 = .ok (.iconst 0, 1) := by decide +kernel
theorem dX2_countFree_3 : decode (cr_by Y_X2_countFree) 3 = .ok (.istore_n 2, 1) := by decide +kernel
theorem dX2_countFree_4 : decode (cr_by Y_X2_countFree) 4 = .ok (.iload_n 2, 1) := by decide +kernel
theorem dX2_countFree_5 : decode (cr_by Y_X2_countFree) 5 = .ok (.aload_n 0, 1) := by decide +kernel
theorem dX2_countFree_6 : decode (cr_by Y_X2_countFree) 6 = .ok (.getfield 36, 3) := by decide +kernel
theorem dX2_countFree_9 : decode (cr_by Y_X2_countFree) 9 = .ok (.if_icmp .ge 22, 3) := by decide +kernel
theorem dX2_countFree_12 : decode (cr_by Y_X2_countFree) 12 = .ok (.aload_n 0, 1) := by decide +kernel
theorem dX2_countFree_13 : decode (cr_by Y_X2_countFree) 13 = .ok (.getfield 15, 3) := by decide +kernel
theorem dX2_countFree_16 : decode (cr_by Y_X2_countFree) 16 = .ok (.iload_n 2, 1) := by decide +kernel
theorem dX2_countFree_17 : decode (cr_by Y_X2_countFree) 17 = .ok (.iaload, 1) := by decide +kernel
theorem dX2_countFree_18 : decode (cr_by Y_X2_countFree) 18 = .ok (.iconst 1, 1) := by decide +kernel
theorem dX2_countFree_19 : decode (cr_by Y_X2_countFree) 19 = .ok (.if_icmp .ne 6, 3) := by decide +kernel
theorem dX2_countFree_22 : decode (cr_by Y_X2_countFree) 22 = .ok (.iinc 1 1, 3) := by decide +kernel
theorem dX2_countFree_25 : decode (cr_by Y_X2_countFree) 25 = .ok (.iinc 2 1, 3) := by decide +kernel
theorem dX2_countFree_28 : decode (cr_by Y_X2_countFree) 28 = .ok (.goto (-24), 3) := by decide +kernel
theorem dX2_countFree_31 : decode (cr_by Y_X2_countFree) 31 = .ok (.iload_n 1, 1) := by decide +kernel
theorem dX2_countFree_32 : decode (cr_by Y_X2_countFree) 32 = .ok (.ireturn, 1) := by decide +kernel
theorem dX2_copyFrom_0 : decode (cr_by Y_X2_copyFrom) 0 = .ok (.aload_n 0, 1) := by decide +kernel
theorem dX2_copyFrom_1 : decode (cr_by Y_X2_copyFrom) 1 = .ok (.aload_n 1, 1) := by decide +kernel
theorem dX2_copyFrom_2 : decode (cr_by Y_X2_copyFrom) 2 = .ok (.getfield 36, 3) := by decide +kernel
theorem dX2_copyFrom_5 : decode (cr_by Y_X2_copyFrom) 5 = .ok (.putfield 36, 3) := by decide +kernel
theorem dX2_copyFrom_8 : decode (cr_by Y_X2_copyFrom) 8 = .ok (.aload_n 1, 1) := by decide +kernel
theorem dX2_copyFrom_9 : decode (cr_by Y_X2_copyFrom) 9 = .ok (.getfield 9, 3) := by decide +kernel
theorem dX2_copyFrom_12 : decode (cr_by Y_X2_copyFrom) 12 = .ok (.iconst 0, 1) := by decide +kernel
theorem dX2_copyFrom_13 : decode (cr_by Y_X2_copyFrom) 13 = .ok (.aload_n 0, 1) := by decide +kernel
theorem dX2_copyFrom_14 : decode (cr_by Y_X2_copyFrom) 14 = .ok (.getfield 9, 3) := by decide +kernel
theorem dX2_copyFrom_17 : decode (cr_by Y_X2_copyFrom) 17 = .ok (.iconst 0, 1) := by decide +kernel
theorem dX2_copyFrom_18 : decode (cr_by Y_X2_copyFrom) 18 = .ok (.aload_n 0, 1) := by decide +kernel
theorem dX2_copyFrom_19 : decode (cr_by Y_X2_copyFrom) 19 = .ok (.getfield 36, 3) := by decide +kernel
theorem dX2_copyFrom_22 : decode (cr_by Y_X2_copyFrom) 22 = .ok (.invokestatic 71, 3) := by decide +kernel
theorem dX2_copyFrom_25 : decode (cr_by Y_X2_copyFrom) 25 = .ok (.aload_n 1, 1) := by decide +kernel
theorem dX2_copyFrom_26 : decode (cr_by Y_X2_copyFrom) 26 = .ok (.getfield 15, 3) := by decide +kernel
theorem dX2_copyFrom_29 : decode (cr_by Y_X2_copyFrom) 29 = .ok (.iconst 0, 1) := by decide +kernel
theorem dX2_copyFrom_30 : decode (cr_by Y_X2_copyFrom) 30 = .ok (.aload_n 0, 1) := by decide +kernel
theorem dX2_copyFrom_31 : decode (cr_by Y_X2_copyFrom) 31 = .ok (.getfield 15, 3) := by decide +kernel
theorem dX2_copyFrom_34 : decode (cr_by Y_X2_copyFrom) 34 = .ok (.iconst 0, 1) := by decide +kernel
theorem dX2_copyFrom_35 : decode (cr_by Y_X2_copyFrom) 35 = .ok (.aload_n 0, 1) := by decide +kernel
theorem dX2_copyFrom_36 : decode (cr_by Y_X2_copyFrom) 36 = .ok (.getfield 36, 3) := by decide +kernel
theorem dX2_copyFrom_39 : decode (cr_by Y_X2_copyFrom) 39 = .ok (.invokestatic 71, 3) := by decide +kernel
theorem dX2_copyFrom_42 : decode (cr_by Y_X2_copyFrom) 42 = .ok (.aload_n 1, 1) := by decide +kernel
theorem dX2_copyFrom_43 : decode (cr_by Y_X2_copyFrom) 43 = .ok (.getfield 18, 3) := by decide +kernel
theorem dX2_copyFrom_46 : decode (cr_by Y_X2_copyFrom) 46 = .ok (.iconst 0, 1) := by decide +kernel
theorem dX2_copyFrom_47 : decode (cr_by Y_X2_copyFrom) 47 = .ok (.aload_n 0, 1) := by decide +kernel
theorem dX2_copyFrom_48 : decode (cr_by Y_X2_copyFrom) 48 = .ok (.getfield 18, 3) := by decide +kernel
theorem dX2_copyFrom_51 : decode (cr_by Y_X2_copyFrom) 51 = .ok (.iconst 0, 1) := by decide +kernel
theorem dX2_copyFrom_52 : decode (cr_by Y_X2_copyFrom) 52 = .ok (.aload_n 0, 1) := by decide +kernel
theorem dX2_copyFrom_53 : decode (cr_by Y_X2_copyFrom) 53 = .ok (.getfield 36, 3) := by decide +kernel
theorem dX2_copyFrom_56 : decode (cr_by Y_X2_copyFrom) 56 = .ok (.invokestatic 71, 3) := by decide +kernel
theorem dX2_copyFrom_59 : decode (cr_by Y_X2_copyFrom) 59 = .ok (.aload_n 1, 1) := by decide +kernel
theorem dX2_copyFrom_60 : decode (cr_by Y_X2_copyFrom) 60 = .ok (.getfield 21, 3) := by decide +kernel
theorem dX2_copyFrom_63 : decode (cr_by Y_X2_copyFrom) 63 = .ok (.iconst 0, 1) := by decide +kernel
theorem dX2_copyFrom_64 : decode (cr_by Y_X2_copyFrom) 64 = .ok (.aload_n 0, 1) := by decide +kernel
theorem dX2_copyFrom_65 : decode (cr_by Y_X2_copyFrom) 65 = .ok (.getfield 21, 3) := by decide +kernel
theorem dX2_copyFrom_68 : decode (cr_by Y_X2_copyFrom) 68 = .ok (.iconst 0, 1) := by decide +kernel
theorem dX2_copyFrom_69 : decode (cr_by Y_X2_copyFrom) 69 = .ok (.aload_n 0, 1) := by decide +kernel
theorem dX2_copyFrom_70 : decode (cr_by Y_X2_copyFrom) 70 = .ok (.getfield 36, 3) := by decide +kernel
theorem dX2_copyFrom_73 : decode (cr_by Y_X2_copyFrom) 73 = .ok (.invokestatic 71, 3) := by decide +kernel
theorem dX2_copyFrom_76 : decode (cr_by Y_X2_copyFrom) 76 = .ok (.aload_n 1, 1) := by decide +kernel
theorem dX2_copyFrom_77 : decode (cr_by Y_X2_copyFrom) 77 = .ok (.getfield 24, 3) := by decide +kernel
theorem dX2_copyFrom_80 : decode (cr_by Y_X2_copyFrom) 80 = .ok (.iconst 0, 1) := by decide +kernel
theorem dX2_copyFrom_81 : decode (cr_by Y_X2_copyFrom) 81 = .ok (.aload_n 0, 1) := by decide +kernel
theorem dX2_copyFrom_82 : decode (cr_by Y_X2_copyFrom) 82 = .ok (.getfield 24, 3) := by decide +kernel
theorem dX2_copyFrom_85 : decode (cr_by Y_X2_copyFrom) 85 = .ok (.iconst 0, 1) := by decide +kernel
theorem dX2_copyFrom_86 : decode (cr_by Y_X2_copyFrom) 86 = .ok (.aload_n 0, 1) := by decide +kernel
theorem dX2_copyFrom_87 : decode (cr_by Y_X2_copyFrom) 87 = .ok (.getfield 36, 3) := by decide +kernel
theorem dX2_copyFrom_90 : decode (cr_by Y_X2_copyFrom) 90 = .ok (.invokestatic 71, 3) := by decide +kernel
theorem dX2_copyFrom_93 : decode (cr_by Y_X2_copyFrom) 93 = .ok (.aload_n 1, 1) := by decide +kernel
theorem dX2_copyFrom_94 : decode (cr_by Y_X2_copyFrom) 94 = .ok (.getfield 27, 3) := by decide +kernel
theorem dX2_copyFrom_97 : decode (cr_by Y_X2_copyFrom) 97 = .ok (.iconst 0, 1) := by decide +kernel
theorem dX2_copyFrom_98 : decode (cr_by Y_X2_copyFrom) 98 = .ok (.aload_n 0, 1) := by decide +kernel
theorem dX2_copyFrom_99 : decode (cr_by Y_X2_copyFrom) 99 = .ok (.getfield 27, 3) := by decide +kernel
theorem dX2_copyFrom_102 : decode (cr_by Y_X2_copyFrom) 102 = .ok (.iconst 0, 1) := by decide +kernel
theorem dX2_copyFrom_103 : decode (cr_by Y_X2_copyFrom) 103 = .ok (.aload_n 0, 1) := by decide +kernel
theorem dX2_copyFrom_104 : decode (cr_by Y_X2_copyFrom) 104 = .ok (.getfield 36, 3) := by decide +kernel
theorem dX2_copyFrom_107 : decode (cr_by Y_X2_copyFrom) 107 = .ok (.invokestatic 71, 3) := by decide +kernel
theorem dX2_copyFrom_110 : decode (cr_by Y_X2_copyFrom) 110 = .ok (.aload_n 1, 1) := by decide +kernel
theorem dX2_copyFrom_111 : decode (cr_by Y_X2_copyFrom) 111 = .ok (.getfield 30, 3) := by decide +kernel
theorem dX2_copyFrom_114 : decode (cr_by Y_X2_copyFrom) 114 = .ok (.iconst 0, 1) := by decide +kernel
theorem dX2_copyFrom_115 : decode (cr_by Y_X2_copyFrom) 115 = .ok (.aload_n 0, 1) := by decide +kernel
theorem dX2_copyFrom_116 : decode (cr_by Y_X2_copyFrom) 116 = .ok (.getfield 30, 3) := by decide +kernel
theorem dX2_copyFrom_119 : decode (cr_by Y_X2_copyFrom) 119 = .ok (.iconst 0, 1) := by decide +kernel
theorem dX2_copyFrom_120 : decode (cr_by Y_X2_copyFrom) 120 = .ok (.aload_n 0, 1) := by decide +kernel
theorem dX2_copyFrom_121 : decode (cr_by Y_X2_copyFrom) 121 = .ok (.getfield 36, 3) := by decide +kernel
theorem dX2_copyFrom_124 : decode (cr_by Y_X2_copyFrom) 124 = .ok (.invokestatic 71, 3) := by decide +kernel
theorem dX2_copyFrom_127 : decode (cr_by Y_X2_copyFrom) 127 = .ok (.aload_n 1, 1) := by decide +kernel
theorem dX2_copyFrom_128 : decode (cr_by Y_X2_copyFrom) 128 = .ok (.getfield 33, 3) := by decide +kernel
theorem dX2_copyFrom_131 : decode (cr_by Y_X2_copyFrom) 131 = .ok (.iconst 0, 1) := by decide +kernel
theorem dX2_copyFrom_132 : decode (cr_by Y_X2_copyFrom) 132 = .ok (.aload_n 0, 1) := by decide +kernel
theorem dX2_copyFrom_133 : decode (cr_by Y_X2_copyFrom) 133 = .ok (.getfield 33, 3) := by decide +kernel
theorem dX2_copyFrom_136 : decode (cr_by Y_X2_copyFrom) 136 = .ok (.iconst 0, 1) := by decide +kernel
theorem dX2_copyFrom_137 : decode (cr_by Y_X2_copyFrom) 137 = .ok (.aload_n 0, 1) := by decide +kernel
theorem dX2_copyFrom_138 : decode (cr_by Y_X2_copyFrom) 138 = .ok (.getfield 36, 3) := by decide +kernel
theorem dX2_copyFrom_141 : decode (cr_by Y_X2_copyFrom) 141 = .ok (.invokestatic 71, 3) := by decide +kernel
theorem dX2_copyFrom_144 : decode (cr_by Y_X2_copyFrom) 144 = .ok (.return_, 1) := by decide +kernel
end
section
theorem dX3_plan_0 : decode (cr_by Y_X3_plan) 0 = .ok (.bipush 16, 2) := by decide +kernel
theorem dX3_plan_2 : decode (cr_by Y_X3_plan) 2 = .ok (.iload_n 1, 1) := by decide +kernel
theorem dX3_plan_3 : decode (cr_by Y_X3_plan) 3 = .ok (.isub, 1) := by decide +kernel
theorem dX3_plan_4 : decode (cr_by Y_X3_plan) 4 = .ok (.istore_n 2, 1) := by decide +kernel
theorem dX3_plan_5 : decode (cr_by Y_X3_plan) 5 = .ok (.iload_n 1, 1) := by decide +kernel
theorem dX3_plan_6 : decode (cr_by Y_X3_plan) 6 = .ok (.iconst 1, 1) := by decide +kernel
theorem dX3_plan_7 : decode (cr_by Y_X3_plan) 7 = .ok (.if_icmp .lt 7, 3) := by decide +kernel
theorem dX3_plan_10 : decode (cr_by Y_X3_plan) 10 = .ok (.iload_n 2, 1) := by decide +kernel
theorem dX3_plan_11 : decode (cr_by Y_X3_plan) 11 = .ok (.ifCond .ge 5, 3) := by decide +kernel
theorem dX3_plan_14 : decode (cr_by Y_X3_plan) 14 = .ok (.iconst 0, 1) := by decide +kernel
theorem dX3_plan_15 : decode (cr_by Y_X3_plan) 15 = .ok (.ireturn, 1) := by decide +kernel
theorem dX3_plan_16 : decode (cr_by Y_X3_plan) 16 = .ok (.iconst 0, 1) := by decide +kernel
theorem dX3_plan_17 : decode (cr_by Y_X3_plan) 17 = .ok (.istore_n 3, 1) := by decide +kernel
theorem dX3_plan_18 : decode (cr_by Y_X3_plan) 18 = .ok (.iload_n 3, 1) := by decide +kernel
theorem dX3_plan_19 : decode (cr_by Y_X3_plan) 19 = .ok (.bipush 16, 2) := by decide +kernel
theorem dX3_plan_21 : decode (cr_by Y_X3_plan) 21 = .ok (.if_icmp .ge 16, 3) := by decide +kernel
theorem dX3_plan_24 : decode (cr_by Y_X3_plan) 24 = .ok (.aload_n 0, 1) := by decide +kernel
theorem dX3_plan_25 : decode (cr_by Y_X3_plan) 25 = .ok (.getfield 15, 3) := by decide +kernel
theorem dX3_plan_28 : decode (cr_by Y_X3_plan) 28 = .ok (.iload_n 3, 1) := by decide +kernel
theorem dX3_plan_29 : decode (cr_by Y_X3_plan) 29 = .ok (.iconst 0, 1) := by decide +kernel
theorem dX3_plan_30 : decode (cr_by Y_X3_plan) 30 = .ok (.iastore, 1) := by decide +kernel
theorem dX3_plan_31 : decode (cr_by Y_X3_plan) 31 = .ok (.iinc 3 1, 3) := by decide +kernel
theorem dX3_plan_34 : decode (cr_by Y_X3_plan) 34 = .ok (.goto (-16), 3) := by decide +kernel
theorem dX3_plan_37 : decode (cr_by Y_X3_plan) 37 = .ok (.iconst 0, 1) := by decide +kernel
theorem dX3_plan_38 : decode (cr_by Y_X3_plan) 38 = .ok (.istore_n 3, 1) := by decide +kernel
theorem dX3_plan_39 : decode (cr_by Y_X3_plan) 39 = .ok (.iconst 0, 1) := by decide +kernel
theorem dX3_plan_40 : decode (cr_by Y_X3_plan) 40 = .ok (.istore 4, 2) := by decide +kernel
theorem dX3_plan_42 : decode (cr_by Y_X3_plan) 42 = .ok (.iconst 0, 1) := by decide +kernel
theorem dX3_plan_43 : decode (cr_by Y_X3_plan) 43 = .ok (.istore 5, 2) := by decide +kernel
theorem dX3_plan_45 : decode (cr_by Y_X3_plan) 45 = .ok (.iload 5, 2) := by decide +kernel
theorem dX3_plan_47 : decode (cr_by Y_X3_plan) 47 = .ok (.bipush 16, 2) := by decide +kernel
theorem dX3_plan_49 : decode (cr_by Y_X3_plan) 49 = .ok (.if_icmp .ge 74, 3) := by decide +kernel
theorem dX3_plan_52 : decode (cr_by Y_X3_plan) 52 = .ok (.iload_n 3, 1) := by decide +kernel
theorem dX3_plan_53 : decode (cr_by Y_X3_plan) 53 = .ok (.iload 5, 2) := by decide +kernel
theorem dX3_plan_55 : decode (cr_by Y_X3_plan) 55 = .ok (.iload_n 1, 1) := by decide +kernel
theorem dX3_plan_56 : decode (cr_by Y_X3_plan) 56 = .ok (.if_icmp .lt 15, 3) := by decide +kernel
theorem dX3_plan_59 : decode (cr_by Y_X3_plan) 59 = .ok (.aload_n 0, 1) := by decide +kernel
theorem dX3_plan_60 : decode (cr_by Y_X3_plan) 60 = .ok (.getfield 15, 3) := by decide +kernel
theorem dX3_plan_63 : decode (cr_by Y_X3_plan) 63 = .ok (.iload 5, 2) := by decide +kernel
theorem dX3_plan_65 : decode (cr_by Y_X3_plan) 65 = .ok (.iload_n 1, 1) := by decide +kernel
theorem dX3_plan_66 : decode (cr_by Y_X3_plan) 66 = .ok (.isub, 1) := by decide +kernel
theorem dX3_plan_67 : decode (cr_by Y_X3_plan) 67 = .ok (.iaload, 1) := by decide +kernel
theorem dX3_plan_68 : decode (cr_by Y_X3_plan) 68 = .ok (.goto 4, 3) := by decide +kernel
theorem dX3_plan_71 : decode (cr_by Y_X3_plan) 71 = .ok (.iconst 0, 1) := by decide +kernel
theorem dX3_plan_72 : decode (cr_by Y_X3_plan) 72 = .ok (.isub, 1) := by decide +kernel
theorem dX3_plan_73 : decode (cr_by Y_X3_plan) 73 = .ok (.istore_n 3, 1) := by decide +kernel
theorem dX3_plan_74 : decode (cr_by Y_X3_plan) 74 = .ok (.iconst 0, 1) := by decide +kernel
theorem dX3_plan_75 : decode (cr_by Y_X3_plan) 75 = .ok (.aload_n 0, 1) := by decide +kernel
theorem dX3_plan_76 : decode (cr_by Y_X3_plan) 76 = .ok (.getfield 9, 3) := by decide +kernel
theorem dX3_plan_79 : decode (cr_by Y_X3_plan) 79 = .ok (.iload 5, 2) := by decide +kernel
theorem dX3_plan_81 : decode (cr_by Y_X3_plan) 81 = .ok (.iaload, 1) := by decide +kernel
theorem dX3_plan_82 : decode (cr_by Y_X3_plan) 82 = .ok (.iload_n 3, 1) := by decide +kernel
theorem dX3_plan_83 : decode (cr_by Y_X3_plan) 83 = .ok (.isub, 1) := by decide +kernel
theorem dX3_plan_84 : decode (cr_by Y_X3_plan) 84 = .ok (.invokestatic 18, 3) := by decide +kernel
theorem dX3_plan_87 : decode (cr_by Y_X3_plan) 87 = .ok (.istore 6, 2) := by decide +kernel
theorem dX3_plan_89 : decode (cr_by Y_X3_plan) 89 = .ok (.aload_n 0, 1) := by decide +kernel
theorem dX3_plan_90 : decode (cr_by Y_X3_plan) 90 = .ok (.getfield 15, 3) := by decide +kernel
theorem dX3_plan_93 : decode (cr_by Y_X3_plan) 93 = .ok (.iload 5, 2) := by decide +kernel
theorem dX3_plan_95 : decode (cr_by Y_X3_plan) 95 = .ok (.iload_n 2, 1) := by decide +kernel
theorem dX3_plan_96 : decode (cr_by Y_X3_plan) 96 = .ok (.invokestatic 24, 3) := by decide +kernel
theorem dX3_plan_99 : decode (cr_by Y_X3_plan) 99 = .ok (.dup2, 1) := by decide +kernel
theorem dX3_plan_100 : decode (cr_by Y_X3_plan) 100 = .ok (.iaload, 1) := by decide +kernel
theorem dX3_plan_101 : decode (cr_by Y_X3_plan) 101 = .ok (.iload 6, 2) := by decide +kernel
theorem dX3_plan_103 : decode (cr_by Y_X3_plan) 103 = .ok (.iadd, 1) := by decide +kernel
theorem dX3_plan_104 : decode (cr_by Y_X3_plan) 104 = .ok (.iastore, 1) := by decide +kernel
theorem dX3_plan_105 : decode (cr_by Y_X3_plan) 105 = .ok (.iload_n 3, 1) := by decide +kernel
theorem dX3_plan_106 : decode (cr_by Y_X3_plan) 106 = .ok (.iload 6, 2) := by decide +kernel
theorem dX3_plan_108 : decode (cr_by Y_X3_plan) 108 = .ok (.iadd, 1) := by decide +kernel
theorem dX3_plan_109 : decode (cr_by Y_X3_plan) 109 = .ok (.istore_n 3, 1) := by decide +kernel
theorem dX3_plan_110 : decode (cr_by Y_X3_plan) 110 = .ok (.iload 4, 2) := by decide +kernel
theorem dX3_plan_112 : decode (cr_by Y_X3_plan) 112 = .ok (.iload 6, 2) := by decide +kernel
theorem dX3_plan_114 : decode (cr_by Y_X3_plan) 114 = .ok (.iadd, 1) := by decide +kernel
theorem dX3_plan_115 : decode (cr_by Y_X3_plan) 115 = .ok (.istore 4, 2) := by decide +kernel
theorem dX3_plan_117 : decode (cr_by Y_X3_plan) 117 = .ok (.iinc 5 1, 3) := by decide +kernel
theorem dX3_plan_120 : decode (cr_by Y_X3_plan) 120 = .ok (.goto (-75), 3) := by decide +kernel
theorem dX3_plan_123 : decode (cr_by Y_X3_plan) 123 = .ok (.iload 4, 2) := by decide +kernel
theorem dX3_plan_125 : decode (cr_by Y_X3_plan) 125 = .ok (.ireturn, 1) := by decide +kernel
theorem dJ_bit_0 : decode (cr_by Y_J_bit) 0 = .ok (.iload_n 0, 1) := by decide +kernel
theorem dJ_bit_1 : decode (cr_by Y_J_bit) 1 = .ok (.iload_n 0, 1) := by decide +kernel
theorem dJ_bit_2 : decode (cr_by Y_J_bit) 2 = .ok (.iconst 1, 1) := by decide +kernel
theorem dJ_bit_3 : decode (cr_by Y_J_bit) 3 = .ok (.iushr, 1) := by decide +kernel
theorem dJ_bit_4 : decode (cr_by Y_J_bit) 4 = .ok (.ldc_w 265, 3) := by decide +kernel
theorem dJ_bit_7 : decode (cr_by Y_J_bit) 7 = .ok (.iand, 1) := by decide +kernel
theorem dJ_bit_8 : decode (cr_by Y_J_bit) 8 = .ok (.isub, 1) := by decide +kernel
theorem dJ_bit_9 : decode (cr_by Y_J_bit) 9 = .ok (.istore_n 0, 1) := by decide +kernel
theorem dJ_bit_10 : decode (cr_by Y_J_bit) 10 = .ok (.iload_n 0, 1) := by decide +kernel
theorem dJ_bit_11 : decode (cr_by Y_J_bit) 11 = .ok (.ldc_w 266, 3) := by decide +kernel
theorem dJ_bit_14 : decode (cr_by Y_J_bit) 14 = .ok (.iand, 1) := by decide +kernel
theorem dJ_bit_15 : decode (cr_by Y_J_bit) 15 = .ok (.iload_n 0, 1) := by decide +kernel
theorem dJ_bit_16 : decode (cr_by Y_J_bit) 16 = .ok (.iconst 2, 1) := by decide +kernel
theorem dJ_bit_17 : decode (cr_by Y_J_bit) 17 = .ok (.iushr, 1) := by decide +kernel
theorem dJ_bit_18 : decode (cr_by Y_J_bit) 18 = .ok (.ldc_w 266, 3) := by decide +kernel
theorem dJ_bit_21 : decode (cr_by Y_J_bit) 21 = .ok (.iand, 1) := by decide +kernel
theorem dJ_bit_22 : decode (cr_by Y_J_bit) 22 = .ok (.iadd, 1) := by decide +kernel
theorem dJ_bit_23 : decode (cr_by Y_J_bit) 23 = .ok (.istore_n 0, 1) := by decide +kernel
theorem dJ_bit_24 : decode (cr_by Y_J_bit) 24 = .ok (.iload_n 0, 1) := by decide +kernel
theorem dJ_bit_25 : decode (cr_by Y_J_bit) 25 = .ok (.iload_n 0, 1) := by decide +kernel
theorem dJ_bit_26 : decode (cr_by Y_J_bit) 26 = .ok (.iconst 4, 1) := by decide +kernel
theorem dJ_bit_27 : decode (cr_by Y_J_bit) 27 = .ok (.iushr, 1) := by decide +kernel
theorem dJ_bit_28 : decode (cr_by Y_J_bit) 28 = .ok (.iadd, 1) := by decide +kernel
theorem dJ_bit_29 : decode (cr_by Y_J_bit) 29 = .ok (.ldc_w 267, 3) := by decide +kernel
theorem dJ_bit_32 : decode (cr_by Y_J_bit) 32 = .ok (.iand, 1) := by decide +kernel
theorem dJ_bit_33 : decode (cr_by Y_J_bit) 33 = .ok (.istore_n 0, 1) := by decide +kernel
theorem dJ_bit_34 : decode (cr_by Y_J_bit) 34 = .ok (.iload_n 0, 1) := by decide +kernel
theorem dJ_bit_35 : decode (cr_by Y_J_bit) 35 = .ok (.iload_n 0, 1) := by decide +kernel
theorem dJ_bit_36 : decode (cr_by Y_J_bit) 36 = .ok (.bipush 8, 2) := by decide +kernel
theorem dJ_bit_38 : decode (cr_by Y_J_bit) 38 = .ok (.iushr, 1) := by decide +kernel
theorem dJ_bit_39 : decode (cr_by Y_J_bit) 39 = .ok (.iadd, 1) := by decide +kernel
theorem dJ_bit_40 : decode (cr_by Y_J_bit) 40 = .ok (.istore_n 0, 1) := by decide +kernel
theorem dJ_bit_41 : decode (cr_by Y_J_bit) 41 = .ok (.iload_n 0, 1) := by decide +kernel
theorem dJ_bit_42 : decode (cr_by Y_J_bit) 42 = .ok (.iload_n 0, 1) := by decide +kernel
theorem dJ_bit_43 : decode (cr_by Y_J_bit) 43 = .ok (.bipush 16, 2) := by decide +kernel
theorem dJ_bit_45 : decode (cr_by Y_J_bit) 45 = .ok (.iushr, 1) := by decide +kernel
theorem dJ_bit_46 : decode (cr_by Y_J_bit) 46 = .ok (.iadd, 1) := by decide +kernel
theorem dJ_bit_47 : decode (cr_by Y_J_bit) 47 = .ok (.istore_n 0, 1) := by decide +kernel
theorem dJ_bit_48 : decode (cr_by Y_J_bit) 48 = .ok (.iload_n 0, 1) := by decide +kernel
theorem dJ_bit_49 : decode (cr_by Y_J_bit) 49 = .ok (.bipush 63, 2) := by decide +kernel
theorem dJ_bit_51 : decode (cr_by Y_J_bit) 51 = .ok (.iand, 1) := by decide +kernel
theorem dJ_bit_52 : decode (cr_by Y_J_bit) 52 = .ok (.ireturn, 1) := by decide +kernel
end
section
theorem dX4_helper_0 : decode (cr_by Y_X4_helper) 0 = .ok (.iload_n 1, 1) := by decide +kernel
theorem dX4_helper_1 : decode (cr_by Y_X4_helper) 1 = .ok (.ifCond .ge 10, 3) := by decide +kernel
theorem dX4_helper_4 : decode (cr_by Y_X4_helper) 4 = .ok (.aload_n 0, 1) := by decide +kernel
theorem dX4_helper_5 : decode (cr_by Y_X4_helper) 5 = .ok (.bipush (-4), 2) := by decide +kernel
theorem dX4_helper_7 : decode (cr_by Y_X4_helper) 7 = .ok (.invokevirtual 30, 3) := by decide +kernel
theorem dX4_helper_10 : decode (cr_by Y_X4_helper) 10 = .ok (.ireturn, 1) := by decide +kernel
theorem dX4_helper_11 : decode (cr_by Y_X4_helper) 11 = .ok (.iload_n 1, 1) := by decide +kernel
theorem dX4_helper_12 : decode (cr_by Y_X4_helper) 12 = .ok (.sipush 255, 3) := by decide +kernel
theorem dX4_helper_15 : decode (cr_by Y_X4_helper) 15 = .ok (.if_icmp .gt 18, 3) := by decide +kernel
theorem dX4_helper_18 : decode (cr_by Y_X4_helper) 18 = .ok (.aload_n 0, 1) := by decide +kernel
theorem dX4_helper_19 : decode (cr_by Y_X4_helper) 19 = .ok (.getfield 10, 3) := by decide +kernel
theorem dX4_helper_22 : decode (cr_by Y_X4_helper) 22 = .ok (.getfield 34, 3) := by decide +kernel
theorem dX4_helper_25 : decode (cr_by Y_X4_helper) 25 = .ok (.getfield 38, 3) := by decide +kernel
theorem dX4_helper_28 : decode (cr_by Y_X4_helper) 28 = .ok (.bipush 10, 2) := by decide +kernel
theorem dX4_helper_30 : decode (cr_by Y_X4_helper) 30 = .ok (.if_icmp .lt 10, 3) := by decide +kernel
theorem dX4_helper_33 : decode (cr_by Y_X4_helper) 33 = .ok (.aload_n 0, 1) := by decide +kernel
theorem dX4_helper_34 : decode (cr_by Y_X4_helper) 34 = .ok (.bipush (-6), 2) := by decide +kernel
theorem dX4_helper_36 : decode (cr_by Y_X4_helper) 36 = .ok (.invokevirtual 30, 3) := by decide +kernel
theorem dX4_helper_39 : decode (cr_by Y_X4_helper) 39 = .ok (.ireturn, 1) := by decide +kernel
theorem dX4_helper_40 : decode (cr_by Y_X4_helper) 40 = .ok (.aload_n 0, 1) := by decide +kernel
theorem dX4_helper_41 : decode (cr_by Y_X4_helper) 41 = .ok (.getfield 10, 3) := by decide +kernel
theorem dX4_helper_44 : decode (cr_by Y_X4_helper) 44 = .ok (.getfield 34, 3) := by decide +kernel
theorem dX4_helper_47 : decode (cr_by Y_X4_helper) 47 = .ok (.iload_n 1, 1) := by decide +kernel
theorem dX4_helper_48 : decode (cr_by Y_X4_helper) 48 = .ok (.aload_n 0, 1) := by decide +kernel
theorem dX4_helper_49 : decode (cr_by Y_X4_helper) 49 = .ok (.getfield 10, 3) := by decide +kernel
theorem dX4_helper_52 : decode (cr_by Y_X4_helper) 52 = .ok (.getfield 44, 3) := by decide +kernel
theorem dX4_helper_55 : decode (cr_by Y_X4_helper) 55 = .ok (.invokevirtual 47, 3) := by decide +kernel
theorem dX4_helper_58 : decode (cr_by Y_X4_helper) 58 = .ok (.ireturn, 1) := by decide +kernel
theorem dX4_grade_0 : decode (cr_by Y_X4_grade) 0 = .ok (.aload_n 0, 1) := by decide +kernel
theorem dX4_grade_1 : decode (cr_by Y_X4_grade) 1 = .ok (.getfield 10, 3) := by decide +kernel
theorem dX4_grade_4 : decode (cr_by Y_X4_grade) 4 = .ok (.getfield 34, 3) := by decide +kernel
theorem dX4_grade_7 : decode (cr_by Y_X4_grade) 7 = .ok (.iload_n 1, 1) := by decide +kernel
theorem dX4_grade_8 : decode (cr_by Y_X4_grade) 8 = .ok (.invokevirtual 51, 3) := by decide +kernel
theorem dX4_grade_11 : decode (cr_by Y_X4_grade) 11 = .ok (.ifCond .eq 10, 3) := by decide +kernel
theorem dX4_grade_14 : decode (cr_by Y_X4_grade) 14 = .ok (.iload_n 2, 1) := by decide +kernel
theorem dX4_grade_15 : decode (cr_by Y_X4_grade) 15 = .ok (.invokestatic 55, 3) := by decide +kernel
theorem dX4_grade_18 : decode (cr_by Y_X4_grade) 18 = .ok (.ifCond .ne 9, 3) := by decide +kernel
theorem dX4_grade_21 : decode (cr_by Y_X4_grade) 21 = .ok (.aload_n 0, 1) := by decide +kernel
theorem dX4_grade_22 : decode (cr_by Y_X4_grade) 22 = .ok (.iconst (-1), 1) := by decide +kernel
theorem dX4_grade_23 : decode (cr_by Y_X4_grade) 23 = .ok (.invokevirtual 30, 3) := by decide +kernel
theorem dX4_grade_26 : decode (cr_by Y_X4_grade) 26 = .ok (.ireturn, 1) := by decide +kernel
theorem dX4_grade_27 : decode (cr_by Y_X4_grade) 27 = .ok (.iload_n 3, 1) := by decide +kernel
theorem dX4_grade_28 : decode (cr_by Y_X4_grade) 28 = .ok (.iconst 0, 1) := by decide +kernel
theorem dX4_grade_29 : decode (cr_by Y_X4_grade) 29 = .ok (.iconst 3, 1) := by decide +kernel
theorem dX4_grade_30 : decode (cr_by Y_X4_grade) 30 = .ok (.invokestatic 58, 3) := by decide +kernel
theorem dX4_grade_33 : decode (cr_by Y_X4_grade) 33 = .ok (.istore 4, 2) := by decide +kernel
theorem dX4_grade_35 : decode (cr_by Y_X4_grade) 35 = .ok (.iload 4, 2) := by decide +kernel
theorem dX4_grade_37 : decode (cr_by Y_X4_grade) 37 = .ok (.ifCond .eq 10, 3) := by decide +kernel
theorem dX4_grade_40 : decode (cr_by Y_X4_grade) 40 = .ok (.aload_n 0, 1) := by decide +kernel
theorem dX4_grade_41 : decode (cr_by Y_X4_grade) 41 = .ok (.iload 4, 2) := by decide +kernel
theorem dX4_grade_43 : decode (cr_by Y_X4_grade) 43 = .ok (.invokevirtual 30, 3) := by decide +kernel
theorem dX4_grade_46 : decode (cr_by Y_X4_grade) 46 = .ok (.ireturn, 1) := by decide +kernel
theorem dX4_grade_47 : decode (cr_by Y_X4_grade) 47 = .ok (.aload_n 0, 1) := by decide +kernel
theorem dX4_grade_48 : decode (cr_by Y_X4_grade) 48 = .ok (.getfield 10, 3) := by decide +kernel
theorem dX4_grade_51 : decode (cr_by Y_X4_grade) 51 = .ok (.getfield 34, 3) := by decide +kernel
theorem dX4_grade_54 : decode (cr_by Y_X4_grade) 54 = .ok (.iload_n 1, 1) := by decide +kernel
theorem dX4_grade_55 : decode (cr_by Y_X4_grade) 55 = .ok (.iload_n 2, 1) := by decide +kernel
theorem dX4_grade_56 : decode (cr_by Y_X4_grade) 56 = .ok (.invokevirtual 62, 3) := by decide +kernel
theorem dX4_grade_59 : decode (cr_by Y_X4_grade) 59 = .ok (.istore 5, 2) := by decide +kernel
theorem dX4_grade_61 : decode (cr_by Y_X4_grade) 61 = .ok (.aload_n 0, 1) := by decide +kernel
theorem dX4_grade_62 : decode (cr_by Y_X4_grade) 62 = .ok (.getfield 10, 3) := by decide +kernel
theorem dX4_grade_65 : decode (cr_by Y_X4_grade) 65 = .ok (.getfield 34, 3) := by decide +kernel
theorem dX4_grade_68 : decode (cr_by Y_X4_grade) 68 = .ok (.iload_n 1, 1) := by decide +kernel
theorem dX4_grade_69 : decode (cr_by Y_X4_grade) 69 = .ok (.iload_n 2, 1) := by decide +kernel
theorem dX4_grade_70 : decode (cr_by Y_X4_grade) 70 = .ok (.iload_n 3, 1) := by decide +kernel
theorem dX4_grade_71 : decode (cr_by Y_X4_grade) 71 = .ok (.invokevirtual 65, 3) := by decide +kernel
theorem dX4_grade_74 : decode (cr_by Y_X4_grade) 74 = .ok (.iload 5, 2) := by decide +kernel
theorem dX4_grade_76 : decode (cr_by Y_X4_grade) 76 = .ok (.ireturn, 1) := by decide +kernel
theorem dX4_duty_0 : decode (cr_by Y_X4_duty) 0 = .ok (.aload_n 0, 1) := by decide +kernel
theorem dX4_duty_1 : decode (cr_by Y_X4_duty) 1 = .ok (.getfield 10, 3) := by decide +kernel
theorem dX4_duty_4 : decode (cr_by Y_X4_duty) 4 = .ok (.getfield 34, 3) := by decide +kernel
theorem dX4_duty_7 : decode (cr_by Y_X4_duty) 7 = .ok (.iload_n 1, 1) := by decide +kernel
theorem dX4_duty_8 : decode (cr_by Y_X4_duty) 8 = .ok (.invokevirtual 51, 3) := by decide +kernel
theorem dX4_duty_11 : decode (cr_by Y_X4_duty) 11 = .ok (.ifCond .ne 9, 3) := by decide +kernel
theorem dX4_duty_14 : decode (cr_by Y_X4_duty) 14 = .ok (.aload_n 0, 1) := by decide +kernel
theorem dX4_duty_15 : decode (cr_by Y_X4_duty) 15 = .ok (.iconst (-1), 1) := by decide +kernel
theorem dX4_duty_16 : decode (cr_by Y_X4_duty) 16 = .ok (.invokevirtual 30, 3) := by decide +kernel
theorem dX4_duty_19 : decode (cr_by Y_X4_duty) 19 = .ok (.ireturn, 1) := by decide +kernel
theorem dX4_duty_20 : decode (cr_by Y_X4_duty) 20 = .ok (.aload_n 0, 1) := by decide +kernel
theorem dX4_duty_21 : decode (cr_by Y_X4_duty) 21 = .ok (.getfield 10, 3) := by decide +kernel
theorem dX4_duty_24 : decode (cr_by Y_X4_duty) 24 = .ok (.getfield 34, 3) := by decide +kernel
theorem dX4_duty_27 : decode (cr_by Y_X4_duty) 27 = .ok (.getfield 69, 3) := by decide +kernel
theorem dX4_duty_30 : decode (cr_by Y_X4_duty) 30 = .ok (.iload_n 1, 1) := by decide +kernel
theorem dX4_duty_31 : decode (cr_by Y_X4_duty) 31 = .ok (.iaload, 1) := by decide +kernel
theorem dX4_duty_32 : decode (cr_by Y_X4_duty) 32 = .ok (.ifCond .eq 10, 3) := by decide +kernel
theorem dX4_duty_35 : decode (cr_by Y_X4_duty) 35 = .ok (.aload_n 0, 1) := by decide +kernel
theorem dX4_duty_36 : decode (cr_by Y_X4_duty) 36 = .ok (.bipush (-2), 2) := by decide +kernel
theorem dX4_duty_38 : decode (cr_by Y_X4_duty) 38 = .ok (.invokevirtual 30, 3) := by decide +kernel
theorem dX4_duty_41 : decode (cr_by Y_X4_duty) 41 = .ok (.ireturn, 1) := by decide +kernel
theorem dX4_duty_42 : decode (cr_by Y_X4_duty) 42 = .ok (.aload_n 0, 1) := by decide +kernel
theorem dX4_duty_43 : decode (cr_by Y_X4_duty) 43 = .ok (.getfield 10, 3) := by decide +kernel
theorem dX4_duty_46 : decode (cr_by Y_X4_duty) 46 = .ok (.getfield 34, 3) := by decide +kernel
theorem dX4_duty_49 : decode (cr_by Y_X4_duty) 49 = .ok (.iload_n 1, 1) := by decide +kernel
theorem dX4_duty_50 : decode (cr_by Y_X4_duty) 50 = .ok (.iconst 1, 1) := by decide +kernel
theorem dX4_duty_51 : decode (cr_by Y_X4_duty) 51 = .ok (.aload_n 0, 1) := by decide +kernel
theorem dX4_duty_52 : decode (cr_by Y_X4_duty) 52 = .ok (.getfield 10, 3) := by decide +kernel
theorem dX4_duty_55 : decode (cr_by Y_X4_duty) 55 = .ok (.getfield 44, 3) := by decide +kernel
theorem dX4_duty_58 : decode (cr_by Y_X4_duty) 58 = .ok (.invokevirtual 72, 3) := by decide +kernel
theorem dX4_duty_61 : decode (cr_by Y_X4_duty) 61 = .ok (.iconst 1, 1) := by decide +kernel
theorem dX4_duty_62 : decode (cr_by Y_X4_duty) 62 = .ok (.ireturn, 1) := by decide +kernel
theorem dX4_out_0 : decode (cr_by Y_X4_out) 0 = .ok (.aload_n 0, 1) := by decide +kernel
theorem dX4_out_1 : decode (cr_by Y_X4_out) 1 = .ok (.getfield 10, 3) := by decide +kernel
theorem dX4_out_4 : decode (cr_by Y_X4_out) 4 = .ok (.getfield 34, 3) := by decide +kernel
theorem dX4_out_7 : decode (cr_by Y_X4_out) 7 = .ok (.iload_n 1, 1) := by decide +kernel
theorem dX4_out_8 : decode (cr_by Y_X4_out) 8 = .ok (.invokevirtual 51, 3) := by decide +kernel
theorem dX4_out_11 : decode (cr_by Y_X4_out) 11 = .ok (.ifCond .ne 9, 3) := by decide +kernel
theorem dX4_out_14 : decode (cr_by Y_X4_out) 14 = .ok (.aload_n 0, 1) := by decide +kernel
theorem dX4_out_15 : decode (cr_by Y_X4_out) 15 = .ok (.iconst (-1), 1) := by decide +kernel
theorem dX4_out_16 : decode (cr_by Y_X4_out) 16 = .ok (.invokevirtual 30, 3) := by decide +kernel
theorem dX4_out_19 : decode (cr_by Y_X4_out) 19 = .ok (.ireturn, 1) := by decide +kernel
theorem dX4_out_20 : decode (cr_by Y_X4_out) 20 = .ok (.aload_n 0, 1) := by decide +kernel
theorem dX4_out_21 : decode (cr_by Y_X4_out) 21 = .ok (.getfield 10, 3) := by decide +kernel
theorem dX4_out_24 : decode (cr_by Y_X4_out) 24 = .ok (.getfield 34, 3) := by decide +kernel
theorem dX4_out_27 : decode (cr_by Y_X4_out) 27 = .ok (.getfield 69, 3) := by decide +kernel
theorem dX4_out_30 : decode (cr_by Y_X4_out) 30 = .ok (.iload_n 1, 1) := by decide +kernel
theorem dX4_out_31 : decode (cr_by Y_X4_out) 31 = .ok (.iaload, 1) := by decide +kernel
theorem dX4_out_32 : decode (cr_by Y_X4_out) 32 = .ok (.istore_n 2, 1) := by decide +kernel
theorem dX4_out_33 : decode (cr_by Y_X4_out) 33 = .ok (.iload_n 2, 1) := by decide +kernel
theorem dX4_out_34 : decode (cr_by Y_X4_out) 34 = .ok (.iconst 1, 1) := by decide +kernel
theorem dX4_out_35 : decode (cr_by Y_X4_out) 35 = .ok (.if_icmp .eq 15, 3) := by decide +kernel
theorem dX4_out_38 : decode (cr_by Y_X4_out) 38 = .ok (.iload_n 2, 1) := by decide +kernel
theorem dX4_out_39 : decode (cr_by Y_X4_out) 39 = .ok (.iconst 3, 1) := by decide +kernel
theorem dX4_out_40 : decode (cr_by Y_X4_out) 40 = .ok (.if_icmp .eq 10, 3) := by decide +kernel
theorem dX4_out_43 : decode (cr_by Y_X4_out) 43 = .ok (.aload_n 0, 1) := by decide +kernel
theorem dX4_out_44 : decode (cr_by Y_X4_out) 44 = .ok (.bipush (-2), 2) := by decide +kernel
theorem dX4_out_46 : decode (cr_by Y_X4_out) 46 = .ok (.invokevirtual 30, 3) := by decide +kernel
theorem dX4_out_49 : decode (cr_by Y_X4_out) 49 = .ok (.ireturn, 1) := by decide +kernel
theorem dX4_out_50 : decode (cr_by Y_X4_out) 50 = .ok (.aload_n 0, 1) := by decide +kernel
theorem dX4_out_51 : decode (cr_by Y_X4_out) 51 = .ok (.getfield 10, 3) := by decide +kernel
theorem dX4_out_54 : decode (cr_by Y_X4_out) 54 = .ok (.getfield 34, 3) := by decide +kernel
theorem dX4_out_57 : decode (cr_by Y_X4_out) 57 = .ok (.iload_n 1, 1) := by decide +kernel
theorem dX4_out_58 : decode (cr_by Y_X4_out) 58 = .ok (.iconst 0, 1) := by decide +kernel
theorem dX4_out_59 : decode (cr_by Y_X4_out) 59 = .ok (.aload_n 0, 1) := by decide +kernel
theorem dX4_out_60 : decode (cr_by Y_X4_out) 60 = .ok (.getfield 10, 3) := by decide +kernel
theorem dX4_out_63 : decode (cr_by Y_X4_out) 63 = .ok (.getfield 44, 3) := by decide +kernel
theorem dX4_out_66 : decode (cr_by Y_X4_out) 66 = .ok (.invokevirtual 72, 3) := by decide +kernel
theorem dX4_out_69 : decode (cr_by Y_X4_out) 69 = .ok (.iconst 1, 1) := by decide +kernel
theorem dX4_out_70 : decode (cr_by Y_X4_out) 70 = .ok (.ireturn, 1) := by decide +kernel
theorem dX4_pause_0 : decode (cr_by Y_X4_pause) 0 = .ok (.aload_n 0, 1) := by decide +kernel
theorem dX4_pause_1 : decode (cr_by Y_X4_pause) 1 = .ok (.getfield 10, 3) := by decide +kernel
theorem dX4_pause_4 : decode (cr_by Y_X4_pause) 4 = .ok (.getfield 34, 3) := by decide +kernel
theorem dX4_pause_7 : decode (cr_by Y_X4_pause) 7 = .ok (.iload_n 1, 1) := by decide +kernel
theorem dX4_pause_8 : decode (cr_by Y_X4_pause) 8 = .ok (.invokevirtual 51, 3) := by decide +kernel
theorem dX4_pause_11 : decode (cr_by Y_X4_pause) 11 = .ok (.ifCond .ne 9, 3) := by decide +kernel
theorem dX4_pause_14 : decode (cr_by Y_X4_pause) 14 = .ok (.aload_n 0, 1) := by decide +kernel
theorem dX4_pause_15 : decode (cr_by Y_X4_pause) 15 = .ok (.iconst (-1), 1) := by decide +kernel
theorem dX4_pause_16 : decode (cr_by Y_X4_pause) 16 = .ok (.invokevirtual 30, 3) := by decide +kernel
theorem dX4_pause_19 : decode (cr_by Y_X4_pause) 19 = .ok (.ireturn, 1) := by decide +kernel
theorem dX4_pause_20 : decode (cr_by Y_X4_pause) 20 = .ok (.aload_n 0, 1) := by decide +kernel
theorem dX4_pause_21 : decode (cr_by Y_X4_pause) 21 = .ok (.getfield 10, 3) := by decide +kernel
theorem dX4_pause_24 : decode (cr_by Y_X4_pause) 24 = .ok (.getfield 34, 3) := by decide +kernel
theorem dX4_pause_27 : decode (cr_by Y_X4_pause) 27 = .ok (.getfield 69, 3) := by decide +kernel
theorem dX4_pause_30 : decode (cr_by Y_X4_pause) 30 = .ok (.iload_n 1, 1) := by decide +kernel
theorem dX4_pause_31 : decode (cr_by Y_X4_pause) 31 = .ok (.iaload, 1) := by decide +kernel
theorem dX4_pause_32 : decode (cr_by Y_X4_pause) 32 = .ok (.iconst 1, 1) := by decide +kernel
theorem dX4_pause_33 : decode (cr_by Y_X4_pause) 33 = .ok (.if_icmp .eq 10, 3) := by decide +kernel
theorem dX4_pause_36 : decode (cr_by Y_X4_pause) 36 = .ok (.aload_n 0, 1) := by decide +kernel
theorem dX4_pause_37 : decode (cr_by Y_X4_pause) 37 = .ok (.bipush (-2), 2) := by decide +kernel
theorem dX4_pause_39 : decode (cr_by Y_X4_pause) 39 = .ok (.invokevirtual 30, 3) := by decide +kernel
theorem dX4_pause_42 : decode (cr_by Y_X4_pause) 42 = .ok (.ireturn, 1) := by decide +kernel
theorem dX4_pause_43 : decode (cr_by Y_X4_pause) 43 = .ok (.iload_n 2, 1) := by decide +kernel
theorem dX4_pause_44 : decode (cr_by Y_X4_pause) 44 = .ok (.iconst 1, 1) := by decide +kernel
theorem dX4_pause_45 : decode (cr_by Y_X4_pause) 45 = .ok (.sipush 5000, 3) := by decide +kernel
theorem dX4_pause_48 : decode (cr_by Y_X4_pause) 48 = .ok (.invokestatic 58, 3) := by decide +kernel
theorem dX4_pause_51 : decode (cr_by Y_X4_pause) 51 = .ok (.istore_n 3, 1) := by decide +kernel
theorem dX4_pause_52 : decode (cr_by Y_X4_pause) 52 = .ok (.iload_n 3, 1) := by decide +kernel
theorem dX4_pause_53 : decode (cr_by Y_X4_pause) 53 = .ok (.ifCond .eq 9, 3) := by decide +kernel
theorem dX4_pause_56 : decode (cr_by Y_X4_pause) 56 = .ok (.aload_n 0, 1) := by decide +kernel
theorem dX4_pause_57 : decode (cr_by Y_X4_pause) 57 = .ok (.iload_n 3, 1) := by decide +kernel
theorem dX4_pause_58 : decode (cr_by Y_X4_pause) 58 = .ok (.invokevirtual 30, 3) := by decide +kernel
theorem dX4_pause_61 : decode (cr_by Y_X4_pause) 61 = .ok (.ireturn, 1) := by decide +kernel
theorem dX4_pause_62 : decode (cr_by Y_X4_pause) 62 = .ok (.aload_n 0, 1) := by decide +kernel
theorem dX4_pause_63 : decode (cr_by Y_X4_pause) 63 = .ok (.getfield 10, 3) := by decide +kernel
theorem dX4_pause_66 : decode (cr_by Y_X4_pause) 66 = .ok (.getfield 34, 3) := by decide +kernel
theorem dX4_pause_69 : decode (cr_by Y_X4_pause) 69 = .ok (.iload_n 1, 1) := by decide +kernel
theorem dX4_pause_70 : decode (cr_by Y_X4_pause) 70 = .ok (.iconst 3, 1) := by decide +kernel
theorem dX4_pause_71 : decode (cr_by Y_X4_pause) 71 = .ok (.aload_n 0, 1) := by decide +kernel
theorem dX4_pause_72 : decode (cr_by Y_X4_pause) 72 = .ok (.getfield 10, 3) := by decide +kernel
theorem dX4_pause_75 : decode (cr_by Y_X4_pause) 75 = .ok (.getfield 44, 3) := by decide +kernel
theorem dX4_pause_78 : decode (cr_by Y_X4_pause) 78 = .ok (.invokevirtual 72, 3) := by decide +kernel
theorem dX4_pause_81 : decode (cr_by Y_X4_pause) 81 = .ok (.aload_n 0, 1) := by decide +kernel
theorem dX4_pause_82 : decode (cr_by Y_X4_pause) 82 = .ok (.getfield 10, 3) := by decide +kernel
theorem dX4_pause_85 : decode (cr_by Y_X4_pause) 85 = .ok (.getfield 34, 3) := by decide +kernel
theorem dX4_pause_88 : decode (cr_by Y_X4_pause) 88 = .ok (.getfield 75, 3) := by decide +kernel
theorem dX4_pause_91 : decode (cr_by Y_X4_pause) 91 = .ok (.iload_n 1, 1) := by decide +kernel
theorem dX4_pause_92 : decode (cr_by Y_X4_pause) 92 = .ok (.aload_n 0, 1) := by decide +kernel
theorem dX4_pause_93 : decode (cr_by Y_X4_pause) 93 = .ok (.getfield 10, 3) := by decide +kernel
theorem dX4_pause_96 : decode (cr_by Y_X4_pause) 96 = .ok (.getfield 44, 3) := by decide +kernel
theorem dX4_pause_99 : decode (cr_by Y_X4_pause) 99 = .ok (.iload_n 2, 1) := by decide +kernel
theorem dX4_pause_100 : decode (cr_by Y_X4_pause) 100 = .ok (.iadd, 1) := by decide +kernel
theorem dX4_pause_101 : decode (cr_by Y_X4_pause) 101 = .ok (.iastore, 1) := by decide +kernel
theorem dX4_pause_102 : decode (cr_by Y_X4_pause) 102 = .ok (.aload_n 0, 1) := by decide +kernel
theorem dX4_pause_103 : decode (cr_by Y_X4_pause) 103 = .ok (.getfield 10, 3) := by decide +kernel
theorem dX4_pause_106 : decode (cr_by Y_X4_pause) 106 = .ok (.getfield 44, 3) := by decide +kernel
theorem dX4_pause_109 : decode (cr_by Y_X4_pause) 109 = .ok (.iload_n 2, 1) := by decide +kernel
theorem dX4_pause_110 : decode (cr_by Y_X4_pause) 110 = .ok (.iadd, 1) := by decide +kernel
theorem dX4_pause_111 : decode (cr_by Y_X4_pause) 111 = .ok (.ireturn, 1) := by decide +kernel
theorem dX4_call_0 : decode (cr_by Y_X4_call) 0 = .ok (.iload_n 1, 1) := by decide +kernel
theorem dX4_call_1 : decode (cr_by Y_X4_call) 1 = .ok (.iconst 1, 1) := by decide +kernel
theorem dX4_call_2 : decode (cr_by Y_X4_call) 2 = .ok (.if_icmp .ne 22, 3) := by decide +kernel
theorem dX4_call_5 : decode (cr_by Y_X4_call) 5 = .ok (.aload_n 0, 1) := by decide +kernel
theorem dX4_call_6 : decode (cr_by Y_X4_call) 6 = .ok (.getfield 10, 3) := by decide +kernel
theorem dX4_call_9 : decode (cr_by Y_X4_call) 9 = .ok (.getfield 34, 3) := by decide +kernel
theorem dX4_call_12 : decode (cr_by Y_X4_call) 12 = .ok (.iload 5, 2) := by decide +kernel
theorem dX4_call_14 : decode (cr_by Y_X4_call) 14 = .ok (.invokevirtual 51, 3) := by decide +kernel
theorem dX4_call_17 : decode (cr_by Y_X4_call) 17 = .ok (.ifCond .ne 7, 3) := by decide +kernel
theorem dX4_call_20 : decode (cr_by Y_X4_call) 20 = .ok (.iconst 1, 1) := by decide +kernel
theorem dX4_call_21 : decode (cr_by Y_X4_call) 21 = .ok (.goto 4, 3) := by decide +kernel
theorem dX4_call_24 : decode (cr_by Y_X4_call) 24 = .ok (.iconst 0, 1) := by decide +kernel
theorem dX4_call_25 : decode (cr_by Y_X4_call) 25 = .ok (.istore 6, 2) := by decide +kernel
theorem dX4_call_27 : decode (cr_by Y_X4_call) 27 = .ok (.iload_n 1, 1) := by decide +kernel
theorem dX4_call_28 : decode (cr_by Y_X4_call) 28 = .ok (.ifCond .lt 20, 3) := by decide +kernel
theorem dX4_call_31 : decode (cr_by Y_X4_call) 31 = .ok (.iload_n 1, 1) := by decide +kernel
theorem dX4_call_32 : decode (cr_by Y_X4_call) 32 = .ok (.iconst 4, 1) := by decide +kernel
theorem dX4_call_33 : decode (cr_by Y_X4_call) 33 = .ok (.if_icmp .ge 15, 3) := by decide +kernel
theorem dX4_call_36 : decode (cr_by Y_X4_call) 36 = .ok (.iload_n 2, 1) := by decide +kernel
theorem dX4_call_37 : decode (cr_by Y_X4_call) 37 = .ok (.invokestatic 55, 3) := by decide +kernel
theorem dX4_call_40 : decode (cr_by Y_X4_call) 40 = .ok (.ifCond .eq 8, 3) := by decide +kernel
theorem dX4_call_43 : decode (cr_by Y_X4_call) 43 = .ok (.iload 6, 2) := by decide +kernel
theorem dX4_call_45 : decode (cr_by Y_X4_call) 45 = .ok (.ifCond .eq 9, 3) := by decide +kernel
theorem dX4_call_48 : decode (cr_by Y_X4_call) 48 = .ok (.aload_n 0, 1) := by decide +kernel
theorem dX4_call_49 : decode (cr_by Y_X4_call) 49 = .ok (.iconst (-1), 1) := by decide +kernel
theorem dX4_call_50 : decode (cr_by Y_X4_call) 50 = .ok (.invokevirtual 30, 3) := by decide +kernel
theorem dX4_call_53 : decode (cr_by Y_X4_call) 53 = .ok (.ireturn, 1) := by decide +kernel
theorem dX4_call_54 : decode (cr_by Y_X4_call) 54 = .ok (.iload_n 3, 1) := by decide +kernel
theorem dX4_call_55 : decode (cr_by Y_X4_call) 55 = .ok (.iconst 1, 1) := by decide +kernel
theorem dX4_call_56 : decode (cr_by Y_X4_call) 56 = .ok (.if_icmp .lt 8, 3) := by decide +kernel
theorem dX4_call_59 : decode (cr_by Y_X4_call) 59 = .ok (.iload 4, 2) := by decide +kernel
theorem dX4_call_61 : decode (cr_by Y_X4_call) 61 = .ok (.ifCond .ge 10, 3) := by decide +kernel
theorem dX4_call_64 : decode (cr_by Y_X4_call) 64 = .ok (.aload_n 0, 1) := by decide +kernel
theorem dX4_call_65 : decode (cr_by Y_X4_call) 65 = .ok (.bipush (-4), 2) := by decide +kernel
theorem dX4_call_67 : decode (cr_by Y_X4_call) 67 = .ok (.invokevirtual 30, 3) := by decide +kernel
theorem dX4_call_70 : decode (cr_by Y_X4_call) 70 = .ok (.ireturn, 1) := by decide +kernel
theorem dX4_call_71 : decode (cr_by Y_X4_call) 71 = .ok (.iload_n 3, 1) := by decide +kernel
theorem dX4_call_72 : decode (cr_by Y_X4_call) 72 = .ok (.sipush 1000, 3) := by decide +kernel
theorem dX4_call_75 : decode (cr_by Y_X4_call) 75 = .ok (.if_icmp .gt 27, 3) := by decide +kernel
theorem dX4_call_78 : decode (cr_by Y_X4_call) 78 = .ok (.iload 4, 2) := by decide +kernel
theorem dX4_call_80 : decode (cr_by Y_X4_call) 80 = .ok (.sipush 5000, 3) := by decide +kernel
theorem dX4_call_83 : decode (cr_by Y_X4_call) 83 = .ok (.if_icmp .gt 19, 3) := by decide +kernel
theorem dX4_call_86 : decode (cr_by Y_X4_call) 86 = .ok (.aload_n 0, 1) := by decide +kernel
theorem dX4_call_87 : decode (cr_by Y_X4_call) 87 = .ok (.getfield 10, 3) := by decide +kernel
theorem dX4_call_90 : decode (cr_by Y_X4_call) 90 = .ok (.getfield 78, 3) := by decide +kernel
theorem dX4_call_93 : decode (cr_by Y_X4_call) 93 = .ok (.getfield 82, 3) := by decide +kernel
theorem dX4_call_96 : decode (cr_by Y_X4_call) 96 = .ok (.sipush 200, 3) := by decide +kernel
theorem dX4_call_99 : decode (cr_by Y_X4_call) 99 = .ok (.if_icmp .lt 10, 3) := by decide +kernel
theorem dX4_call_102 : decode (cr_by Y_X4_call) 102 = .ok (.aload_n 0, 1) := by decide +kernel
theorem dX4_call_103 : decode (cr_by Y_X4_call) 103 = .ok (.bipush (-6), 2) := by decide +kernel
theorem dX4_call_105 : decode (cr_by Y_X4_call) 105 = .ok (.invokevirtual 30, 3) := by decide +kernel
theorem dX4_call_108 : decode (cr_by Y_X4_call) 108 = .ok (.ireturn, 1) := by decide +kernel
theorem dX4_call_109 : decode (cr_by Y_X4_call) 109 = .ok (.aload_n 0, 1) := by decide +kernel
theorem dX4_call_110 : decode (cr_by Y_X4_call) 110 = .ok (.getfield 10, 3) := by decide +kernel
theorem dX4_call_113 : decode (cr_by Y_X4_call) 113 = .ok (.getfield 78, 3) := by decide +kernel
theorem dX4_call_116 : decode (cr_by Y_X4_call) 116 = .ok (.iload_n 1, 1) := by decide +kernel
theorem dX4_call_117 : decode (cr_by Y_X4_call) 117 = .ok (.iload_n 1, 1) := by decide +kernel
theorem dX4_call_118 : decode (cr_by Y_X4_call) 118 = .ok (.iconst 1, 1) := by decide +kernel
theorem dX4_call_119 : decode (cr_by Y_X4_call) 119 = .ok (.if_icmp .ne 8, 3) := by decide +kernel
theorem dX4_call_122 : decode (cr_by Y_X4_call) 122 = .ok (.iload 5, 2) := by decide +kernel
theorem dX4_call_124 : decode (cr_by Y_X4_call) 124 = .ok (.goto 5, 3) := by decide +kernel
theorem dX4_call_127 : decode (cr_by Y_X4_call) 127 = .ok (.bipush (-9), 2) := by decide +kernel
theorem dX4_call_129 : decode (cr_by Y_X4_call) 129 = .ok (.invokevirtual 85, 3) := by decide +kernel
theorem dX4_call_132 : decode (cr_by Y_X4_call) 132 = .ok (.istore 7, 2) := by decide +kernel
theorem dX4_call_134 : decode (cr_by Y_X4_call) 134 = .ok (.aload_n 0, 1) := by decide +kernel
theorem dX4_call_135 : decode (cr_by Y_X4_call) 135 = .ok (.getfield 10, 3) := by decide +kernel
theorem dX4_call_138 : decode (cr_by Y_X4_call) 138 = .ok (.getfield 78, 3) := by decide +kernel
theorem dX4_call_141 : decode (cr_by Y_X4_call) 141 = .ok (.iload 7, 2) := by decide +kernel
theorem dX4_call_143 : decode (cr_by Y_X4_call) 143 = .ok (.iload_n 2, 1) := by decide +kernel
theorem dX4_call_144 : decode (cr_by Y_X4_call) 144 = .ok (.iload_n 3, 1) := by decide +kernel
theorem dX4_call_145 : decode (cr_by Y_X4_call) 145 = .ok (.iload 4, 2) := by decide +kernel
theorem dX4_call_147 : decode (cr_by Y_X4_call) 147 = .ok (.invokevirtual 86, 3) := by decide +kernel
theorem dX4_call_150 : decode (cr_by Y_X4_call) 150 = .ok (.aload_n 0, 1) := by decide +kernel
theorem dX4_call_151 : decode (cr_by Y_X4_call) 151 = .ok (.getfield 10, 3) := by decide +kernel
theorem dX4_call_154 : decode (cr_by Y_X4_call) 154 = .ok (.getfield 78, 3) := by decide +kernel
theorem dX4_call_157 : decode (cr_by Y_X4_call) 157 = .ok (.iload 7, 2) := by decide +kernel
theorem dX4_call_159 : decode (cr_by Y_X4_call) 159 = .ok (.aload_n 0, 1) := by decide +kernel
theorem dX4_call_160 : decode (cr_by Y_X4_call) 160 = .ok (.getfield 10, 3) := by decide +kernel
theorem dX4_call_163 : decode (cr_by Y_X4_call) 163 = .ok (.getfield 44, 3) := by decide +kernel
theorem dX4_call_166 : decode (cr_by Y_X4_call) 166 = .ok (.invokevirtual 90, 3) := by decide +kernel
theorem dX4_call_169 : decode (cr_by Y_X4_call) 169 = .ok (.iload 7, 2) := by decide +kernel
theorem dX4_call_171 : decode (cr_by Y_X4_call) 171 = .ok (.ireturn, 1) := by decide +kernel
theorem dX4_rule_0 : decode (cr_by Y_X4_rule) 0 = .ok (.iload_n 1, 1) := by decide +kernel
theorem dX4_rule_1 : decode (cr_by Y_X4_rule) 1 = .ok (.ifCond .lt 8, 3) := by decide +kernel
theorem dX4_rule_4 : decode (cr_by Y_X4_rule) 4 = .ok (.iload_n 1, 1) := by decide +kernel
theorem dX4_rule_5 : decode (cr_by Y_X4_rule) 5 = .ok (.iconst 4, 1) := by decide +kernel
theorem dX4_rule_6 : decode (cr_by Y_X4_rule) 6 = .ok (.if_icmp .lt 9, 3) := by decide +kernel
theorem dX4_rule_9 : decode (cr_by Y_X4_rule) 9 = .ok (.aload_n 0, 1) := by decide +kernel
theorem dX4_rule_10 : decode (cr_by Y_X4_rule) 10 = .ok (.iconst (-1), 1) := by decide +kernel
theorem dX4_rule_11 : decode (cr_by Y_X4_rule) 11 = .ok (.invokevirtual 30, 3) := by decide +kernel
theorem dX4_rule_14 : decode (cr_by Y_X4_rule) 14 = .ok (.ireturn, 1) := by decide +kernel
theorem dX4_rule_15 : decode (cr_by Y_X4_rule) 15 = .ok (.aload_n 0, 1) := by decide +kernel
theorem dX4_rule_16 : decode (cr_by Y_X4_rule) 16 = .ok (.getfield 10, 3) := by decide +kernel
theorem dX4_rule_19 : decode (cr_by Y_X4_rule) 19 = .ok (.getfield 94, 3) := by decide +kernel
theorem dX4_rule_22 : decode (cr_by Y_X4_rule) 22 = .ok (.istore_n 2, 1) := by decide +kernel
theorem dX4_rule_23 : decode (cr_by Y_X4_rule) 23 = .ok (.aload_n 0, 1) := by decide +kernel
theorem dX4_rule_24 : decode (cr_by Y_X4_rule) 24 = .ok (.getfield 10, 3) := by decide +kernel
theorem dX4_rule_27 : decode (cr_by Y_X4_rule) 27 = .ok (.iload_n 1, 1) := by decide +kernel
theorem dX4_rule_28 : decode (cr_by Y_X4_rule) 28 = .ok (.putfield 94, 3) := by decide +kernel
theorem dX4_rule_31 : decode (cr_by Y_X4_rule) 31 = .ok (.iload_n 2, 1) := by decide +kernel
theorem dX4_rule_32 : decode (cr_by Y_X4_rule) 32 = .ok (.ireturn, 1) := by decide +kernel
theorem dX4_prefer_0 : decode (cr_by Y_X4_prefer) 0 = .ok (.iload_n 1, 1) := by decide +kernel
theorem dX4_prefer_1 : decode (cr_by Y_X4_prefer) 1 = .ok (.iconst 0, 1) := by decide +kernel
theorem dX4_prefer_2 : decode (cr_by Y_X4_prefer) 2 = .ok (.sipush 1000, 3) := by decide +kernel
theorem dX4_prefer_5 : decode (cr_by Y_X4_prefer) 5 = .ok (.invokestatic 58, 3) := by decide +kernel
theorem dX4_prefer_8 : decode (cr_by Y_X4_prefer) 8 = .ok (.istore_n 2, 1) := by decide +kernel
theorem dX4_prefer_9 : decode (cr_by Y_X4_prefer) 9 = .ok (.iload_n 2, 1) := by decide +kernel
theorem dX4_prefer_10 : decode (cr_by Y_X4_prefer) 10 = .ok (.ifCond .eq 9, 3) := by decide +kernel
theorem dX4_prefer_13 : decode (cr_by Y_X4_prefer) 13 = .ok (.aload_n 0, 1) := by decide +kernel
theorem dX4_prefer_14 : decode (cr_by Y_X4_prefer) 14 = .ok (.iload_n 2, 1) := by decide +kernel
theorem dX4_prefer_15 : decode (cr_by Y_X4_prefer) 15 = .ok (.invokevirtual 30, 3) := by decide +kernel
theorem dX4_prefer_18 : decode (cr_by Y_X4_prefer) 18 = .ok (.ireturn, 1) := by decide +kernel
theorem dX4_prefer_19 : decode (cr_by Y_X4_prefer) 19 = .ok (.aload_n 0, 1) := by decide +kernel
theorem dX4_prefer_20 : decode (cr_by Y_X4_prefer) 20 = .ok (.getfield 10, 3) := by decide +kernel
theorem dX4_prefer_23 : decode (cr_by Y_X4_prefer) 23 = .ok (.getfield 97, 3) := by decide +kernel
theorem dX4_prefer_26 : decode (cr_by Y_X4_prefer) 26 = .ok (.istore_n 3, 1) := by decide +kernel
theorem dX4_prefer_27 : decode (cr_by Y_X4_prefer) 27 = .ok (.aload_n 0, 1) := by decide +kernel
theorem dX4_prefer_28 : decode (cr_by Y_X4_prefer) 28 = .ok (.getfield 10, 3) := by decide +kernel
theorem dX4_prefer_31 : decode (cr_by Y_X4_prefer) 31 = .ok (.iload_n 1, 1) := by decide +kernel
theorem dX4_prefer_32 : decode (cr_by Y_X4_prefer) 32 = .ok (.putfield 97, 3) := by decide +kernel
theorem dX4_prefer_35 : decode (cr_by Y_X4_prefer) 35 = .ok (.iload_n 3, 1) := by decide +kernel
theorem dX4_prefer_36 : decode (cr_by Y_X4_prefer) 36 = .ok (.ireturn, 1) := by decide +kernel
theorem dX4_ring_0 : decode (cr_by Y_X4_ring) 0 = .ok (.aload_n 0, 1) := by decide +kernel
theorem dX4_ring_1 : decode (cr_by Y_X4_ring) 1 = .ok (.iload_n 1, 1) := by decide +kernel
theorem dX4_ring_2 : decode (cr_by Y_X4_ring) 2 = .ok (.invokevirtual 100, 3) := by decide +kernel
theorem dX4_ring_5 : decode (cr_by Y_X4_ring) 5 = .ok (.istore_n 3, 1) := by decide +kernel
theorem dX4_ring_6 : decode (cr_by Y_X4_ring) 6 = .ok (.iload_n 3, 1) := by decide +kernel
theorem dX4_ring_7 : decode (cr_by Y_X4_ring) 7 = .ok (.ifCond .ne 12, 3) := by decide +kernel
theorem dX4_ring_10 : decode (cr_by Y_X4_ring) 10 = .ok (.iload_n 2, 1) := by decide +kernel
theorem dX4_ring_11 : decode (cr_by Y_X4_ring) 11 = .ok (.iconst 1, 1) := by decide +kernel
theorem dX4_ring_12 : decode (cr_by Y_X4_ring) 12 = .ok (.sipush 5000, 3) := by decide +kernel
theorem dX4_ring_15 : decode (cr_by Y_X4_ring) 15 = .ok (.invokestatic 58, 3) := by decide +kernel
theorem dX4_ring_18 : decode (cr_by Y_X4_ring) 18 = .ok (.istore_n 3, 1) := by decide +kernel
theorem dX4_ring_19 : decode (cr_by Y_X4_ring) 19 = .ok (.iload_n 3, 1) := by decide +kernel
theorem dX4_ring_20 : decode (cr_by Y_X4_ring) 20 = .ok (.ifCond .eq 9, 3) := by decide +kernel
theorem dX4_ring_23 : decode (cr_by Y_X4_ring) 23 = .ok (.aload_n 0, 1) := by decide +kernel
theorem dX4_ring_24 : decode (cr_by Y_X4_ring) 24 = .ok (.iload_n 3, 1) := by decide +kernel
theorem dX4_ring_25 : decode (cr_by Y_X4_ring) 25 = .ok (.invokevirtual 30, 3) := by decide +kernel
theorem dX4_ring_28 : decode (cr_by Y_X4_ring) 28 = .ok (.ireturn, 1) := by decide +kernel
theorem dX4_ring_29 : decode (cr_by Y_X4_ring) 29 = .ok (.aload_n 0, 1) := by decide +kernel
theorem dX4_ring_30 : decode (cr_by Y_X4_ring) 30 = .ok (.getfield 10, 3) := by decide +kernel
theorem dX4_ring_33 : decode (cr_by Y_X4_ring) 33 = .ok (.getfield 78, 3) := by decide +kernel
theorem dX4_ring_36 : decode (cr_by Y_X4_ring) 36 = .ok (.iload_n 1, 1) := by decide +kernel
theorem dX4_ring_37 : decode (cr_by Y_X4_ring) 37 = .ok (.aload_n 0, 1) := by decide +kernel
theorem dX4_ring_38 : decode (cr_by Y_X4_ring) 38 = .ok (.getfield 10, 3) := by decide +kernel
theorem dX4_ring_41 : decode (cr_by Y_X4_ring) 41 = .ok (.getfield 44, 3) := by decide +kernel
theorem dX4_ring_44 : decode (cr_by Y_X4_ring) 44 = .ok (.iload_n 2, 1) := by decide +kernel
theorem dX4_ring_45 : decode (cr_by Y_X4_ring) 45 = .ok (.iadd, 1) := by decide +kernel
theorem dX4_ring_46 : decode (cr_by Y_X4_ring) 46 = .ok (.invokevirtual 103, 3) := by decide +kernel
theorem dX4_ring_49 : decode (cr_by Y_X4_ring) 49 = .ok (.aload_n 0, 1) := by decide +kernel
theorem dX4_ring_50 : decode (cr_by Y_X4_ring) 50 = .ok (.getfield 10, 3) := by decide +kernel
theorem dX4_ring_53 : decode (cr_by Y_X4_ring) 53 = .ok (.getfield 44, 3) := by decide +kernel
theorem dX4_ring_56 : decode (cr_by Y_X4_ring) 56 = .ok (.iload_n 2, 1) := by decide +kernel
theorem dX4_ring_57 : decode (cr_by Y_X4_ring) 57 = .ok (.iadd, 1) := by decide +kernel
theorem dX4_ring_58 : decode (cr_by Y_X4_ring) 58 = .ok (.ireturn, 1) := by decide +kernel
theorem dX4_pass_0 : decode (cr_by Y_X4_pass) 0 = .ok (.aload_n 0, 1) := by decide +kernel
theorem dX4_pass_1 : decode (cr_by Y_X4_pass) 1 = .ok (.getfield 10, 3) := by decide +kernel
theorem dX4_pass_4 : decode (cr_by Y_X4_pass) 4 = .ok (.getfield 78, 3) := by decide +kernel
theorem dX4_pass_7 : decode (cr_by Y_X4_pass) 7 = .ok (.iload_n 1, 1) := by decide +kernel
theorem dX4_pass_8 : decode (cr_by Y_X4_pass) 8 = .ok (.invokevirtual 106, 3) := by decide +kernel
theorem dX4_pass_11 : decode (cr_by Y_X4_pass) 11 = .ok (.ifCond .eq 10, 3) := by decide +kernel
theorem dX4_pass_14 : decode (cr_by Y_X4_pass) 14 = .ok (.iload_n 2, 1) := by decide +kernel
theorem dX4_pass_15 : decode (cr_by Y_X4_pass) 15 = .ok (.invokestatic 55, 3) := by decide +kernel
theorem dX4_pass_18 : decode (cr_by Y_X4_pass) 18 = .ok (.ifCond .ne 9, 3) := by decide +kernel
theorem dX4_pass_21 : decode (cr_by Y_X4_pass) 21 = .ok (.aload_n 0, 1) := by decide +kernel
theorem dX4_pass_22 : decode (cr_by Y_X4_pass) 22 = .ok (.iconst (-1), 1) := by decide +kernel
theorem dX4_pass_23 : decode (cr_by Y_X4_pass) 23 = .ok (.invokevirtual 30, 3) := by decide +kernel
theorem dX4_pass_26 : decode (cr_by Y_X4_pass) 26 = .ok (.ireturn, 1) := by decide +kernel
theorem dX4_pass_27 : decode (cr_by Y_X4_pass) 27 = .ok (.aload_n 0, 1) := by decide +kernel
theorem dX4_pass_28 : decode (cr_by Y_X4_pass) 28 = .ok (.getfield 10, 3) := by decide +kernel
theorem dX4_pass_31 : decode (cr_by Y_X4_pass) 31 = .ok (.getfield 78, 3) := by decide +kernel
theorem dX4_pass_34 : decode (cr_by Y_X4_pass) 34 = .ok (.getfield 107, 3) := by decide +kernel
theorem dX4_pass_37 : decode (cr_by Y_X4_pass) 37 = .ok (.iload_n 1, 1) := by decide +kernel
theorem dX4_pass_38 : decode (cr_by Y_X4_pass) 38 = .ok (.iaload, 1) := by decide +kernel
theorem dX4_pass_39 : decode (cr_by Y_X4_pass) 39 = .ok (.iconst 1, 1) := by decide +kernel
theorem dX4_pass_40 : decode (cr_by Y_X4_pass) 40 = .ok (.if_icmp .eq 10, 3) := by decide +kernel
theorem dX4_pass_43 : decode (cr_by Y_X4_pass) 43 = .ok (.aload_n 0, 1) := by decide +kernel
theorem dX4_pass_44 : decode (cr_by Y_X4_pass) 44 = .ok (.bipush (-2), 2) := by decide +kernel
theorem dX4_pass_46 : decode (cr_by Y_X4_pass) 46 = .ok (.invokevirtual 30, 3) := by decide +kernel
theorem dX4_pass_49 : decode (cr_by Y_X4_pass) 49 = .ok (.ireturn, 1) := by decide +kernel
theorem dX4_pass_50 : decode (cr_by Y_X4_pass) 50 = .ok (.iload_n 3, 1) := by decide +kernel
theorem dX4_pass_51 : decode (cr_by Y_X4_pass) 51 = .ok (.iconst 1, 1) := by decide +kernel
theorem dX4_pass_52 : decode (cr_by Y_X4_pass) 52 = .ok (.sipush 1000, 3) := by decide +kernel
theorem dX4_pass_55 : decode (cr_by Y_X4_pass) 55 = .ok (.invokestatic 58, 3) := by decide +kernel
theorem dX4_pass_58 : decode (cr_by Y_X4_pass) 58 = .ok (.istore 4, 2) := by decide +kernel
theorem dX4_pass_60 : decode (cr_by Y_X4_pass) 60 = .ok (.iload 4, 2) := by decide +kernel
theorem dX4_pass_62 : decode (cr_by Y_X4_pass) 62 = .ok (.ifCond .eq 10, 3) := by decide +kernel
theorem dX4_pass_65 : decode (cr_by Y_X4_pass) 65 = .ok (.aload_n 0, 1) := by decide +kernel
theorem dX4_pass_66 : decode (cr_by Y_X4_pass) 66 = .ok (.iload 4, 2) := by decide +kernel
theorem dX4_pass_68 : decode (cr_by Y_X4_pass) 68 = .ok (.invokevirtual 30, 3) := by decide +kernel
theorem dX4_pass_71 : decode (cr_by Y_X4_pass) 71 = .ok (.ireturn, 1) := by decide +kernel
theorem dX4_pass_72 : decode (cr_by Y_X4_pass) 72 = .ok (.aload_n 0, 1) := by decide +kernel
theorem dX4_pass_73 : decode (cr_by Y_X4_pass) 73 = .ok (.getfield 10, 3) := by decide +kernel
theorem dX4_pass_76 : decode (cr_by Y_X4_pass) 76 = .ok (.getfield 78, 3) := by decide +kernel
theorem dX4_pass_79 : decode (cr_by Y_X4_pass) 79 = .ok (.getfield 108, 3) := by decide +kernel
theorem dX4_pass_82 : decode (cr_by Y_X4_pass) 82 = .ok (.iload_n 1, 1) := by decide +kernel
theorem dX4_pass_83 : decode (cr_by Y_X4_pass) 83 = .ok (.iaload, 1) := by decide +kernel
theorem dX4_pass_84 : decode (cr_by Y_X4_pass) 84 = .ok (.istore 5, 2) := by decide +kernel
theorem dX4_pass_86 : decode (cr_by Y_X4_pass) 86 = .ok (.aload_n 0, 1) := by decide +kernel
theorem dX4_pass_87 : decode (cr_by Y_X4_pass) 87 = .ok (.getfield 10, 3) := by decide +kernel
theorem dX4_pass_90 : decode (cr_by Y_X4_pass) 90 = .ok (.getfield 78, 3) := by decide +kernel
theorem dX4_pass_93 : decode (cr_by Y_X4_pass) 93 = .ok (.iload_n 1, 1) := by decide +kernel
theorem dX4_pass_94 : decode (cr_by Y_X4_pass) 94 = .ok (.iload_n 2, 1) := by decide +kernel
theorem dX4_pass_95 : decode (cr_by Y_X4_pass) 95 = .ok (.iload_n 3, 1) := by decide +kernel
theorem dX4_pass_96 : decode (cr_by Y_X4_pass) 96 = .ok (.aload_n 0, 1) := by decide +kernel
theorem dX4_pass_97 : decode (cr_by Y_X4_pass) 97 = .ok (.getfield 10, 3) := by decide +kernel
theorem dX4_pass_100 : decode (cr_by Y_X4_pass) 100 = .ok (.getfield 78, 3) := by decide +kernel
theorem dX4_pass_103 : decode (cr_by Y_X4_pass) 103 = .ok (.getfield 111, 3) := by decide +kernel
theorem dX4_pass_106 : decode (cr_by Y_X4_pass) 106 = .ok (.iload_n 1, 1) := by decide +kernel
theorem dX4_pass_107 : decode (cr_by Y_X4_pass) 107 = .ok (.iaload, 1) := by decide +kernel
theorem dX4_pass_108 : decode (cr_by Y_X4_pass) 108 = .ok (.invokevirtual 86, 3) := by decide +kernel
theorem dX4_pass_111 : decode (cr_by Y_X4_pass) 111 = .ok (.aload_n 0, 1) := by decide +kernel
theorem dX4_pass_112 : decode (cr_by Y_X4_pass) 112 = .ok (.getfield 10, 3) := by decide +kernel
theorem dX4_pass_115 : decode (cr_by Y_X4_pass) 115 = .ok (.getfield 78, 3) := by decide +kernel
theorem dX4_pass_118 : decode (cr_by Y_X4_pass) 118 = .ok (.iload_n 1, 1) := by decide +kernel
theorem dX4_pass_119 : decode (cr_by Y_X4_pass) 119 = .ok (.aload_n 0, 1) := by decide +kernel
theorem dX4_pass_120 : decode (cr_by Y_X4_pass) 120 = .ok (.getfield 10, 3) := by decide +kernel
theorem dX4_pass_123 : decode (cr_by Y_X4_pass) 123 = .ok (.getfield 44, 3) := by decide +kernel
theorem dX4_pass_126 : decode (cr_by Y_X4_pass) 126 = .ok (.invokevirtual 114, 3) := by decide +kernel
theorem dX4_pass_129 : decode (cr_by Y_X4_pass) 129 = .ok (.aload_n 0, 1) := by decide +kernel
theorem dX4_pass_130 : decode (cr_by Y_X4_pass) 130 = .ok (.getfield 10, 3) := by decide +kernel
theorem dX4_pass_133 : decode (cr_by Y_X4_pass) 133 = .ok (.getfield 34, 3) := by decide +kernel
theorem dX4_pass_136 : decode (cr_by Y_X4_pass) 136 = .ok (.iload 5, 2) := by decide +kernel
theorem dX4_pass_138 : decode (cr_by Y_X4_pass) 138 = .ok (.aload_n 0, 1) := by decide +kernel
theorem dX4_pass_139 : decode (cr_by Y_X4_pass) 139 = .ok (.getfield 10, 3) := by decide +kernel
theorem dX4_pass_142 : decode (cr_by Y_X4_pass) 142 = .ok (.getfield 44, 3) := by decide +kernel
theorem dX4_pass_145 : decode (cr_by Y_X4_pass) 145 = .ok (.invokevirtual 117, 3) := by decide +kernel
theorem dX4_pass_148 : decode (cr_by Y_X4_pass) 148 = .ok (.iload 5, 2) := by decide +kernel
theorem dX4_pass_150 : decode (cr_by Y_X4_pass) 150 = .ok (.ireturn, 1) := by decide +kernel
theorem dX4_leave_0 : decode (cr_by Y_X4_leave) 0 = .ok (.aload_n 0, 1) := by decide +kernel
theorem dX4_leave_1 : decode (cr_by Y_X4_leave) 1 = .ok (.getfield 10, 3) := by decide +kernel
theorem dX4_leave_4 : decode (cr_by Y_X4_leave) 4 = .ok (.getfield 78, 3) := by decide +kernel
theorem dX4_leave_7 : decode (cr_by Y_X4_leave) 7 = .ok (.iload_n 1, 1) := by decide +kernel
theorem dX4_leave_8 : decode (cr_by Y_X4_leave) 8 = .ok (.invokevirtual 106, 3) := by decide +kernel
theorem dX4_leave_11 : decode (cr_by Y_X4_leave) 11 = .ok (.ifCond .ne 9, 3) := by decide +kernel
theorem dX4_leave_14 : decode (cr_by Y_X4_leave) 14 = .ok (.aload_n 0, 1) := by decide +kernel
theorem dX4_leave_15 : decode (cr_by Y_X4_leave) 15 = .ok (.iconst (-1), 1) := by decide +kernel
theorem dX4_leave_16 : decode (cr_by Y_X4_leave) 16 = .ok (.invokevirtual 30, 3) := by decide +kernel
theorem dX4_leave_19 : decode (cr_by Y_X4_leave) 19 = .ok (.ireturn, 1) := by decide +kernel
theorem dX4_leave_20 : decode (cr_by Y_X4_leave) 20 = .ok (.aload_n 0, 1) := by decide +kernel
theorem dX4_leave_21 : decode (cr_by Y_X4_leave) 21 = .ok (.getfield 10, 3) := by decide +kernel
theorem dX4_leave_24 : decode (cr_by Y_X4_leave) 24 = .ok (.getfield 78, 3) := by decide +kernel
theorem dX4_leave_27 : decode (cr_by Y_X4_leave) 27 = .ok (.getfield 107, 3) := by decide +kernel
theorem dX4_leave_30 : decode (cr_by Y_X4_leave) 30 = .ok (.iload_n 1, 1) := by decide +kernel
theorem dX4_leave_31 : decode (cr_by Y_X4_leave) 31 = .ok (.iaload, 1) := by decide +kernel
theorem dX4_leave_32 : decode (cr_by Y_X4_leave) 32 = .ok (.istore_n 2, 1) := by decide +kernel
theorem dX4_leave_33 : decode (cr_by Y_X4_leave) 33 = .ok (.iload_n 2, 1) := by decide +kernel
theorem dX4_leave_34 : decode (cr_by Y_X4_leave) 34 = .ok (.ifCond .eq 15, 3) := by decide +kernel
theorem dX4_leave_37 : decode (cr_by Y_X4_leave) 37 = .ok (.iload_n 2, 1) := by decide +kernel
theorem dX4_leave_38 : decode (cr_by Y_X4_leave) 38 = .ok (.iconst 4, 1) := by decide +kernel
theorem dX4_leave_39 : decode (cr_by Y_X4_leave) 39 = .ok (.if_icmp .eq 10, 3) := by decide +kernel
theorem dX4_leave_42 : decode (cr_by Y_X4_leave) 42 = .ok (.aload_n 0, 1) := by decide +kernel
theorem dX4_leave_43 : decode (cr_by Y_X4_leave) 43 = .ok (.bipush (-2), 2) := by decide +kernel
theorem dX4_leave_45 : decode (cr_by Y_X4_leave) 45 = .ok (.invokevirtual 30, 3) := by decide +kernel
theorem dX4_leave_48 : decode (cr_by Y_X4_leave) 48 = .ok (.ireturn, 1) := by decide +kernel
theorem dX4_leave_49 : decode (cr_by Y_X4_leave) 49 = .ok (.aload_n 0, 1) := by decide +kernel
theorem dX4_leave_50 : decode (cr_by Y_X4_leave) 50 = .ok (.getfield 10, 3) := by decide +kernel
theorem dX4_leave_53 : decode (cr_by Y_X4_leave) 53 = .ok (.getfield 78, 3) := by decide +kernel
theorem dX4_leave_56 : decode (cr_by Y_X4_leave) 56 = .ok (.getfield 107, 3) := by decide +kernel
theorem dX4_leave_59 : decode (cr_by Y_X4_leave) 59 = .ok (.iload_n 1, 1) := by decide +kernel
theorem dX4_leave_60 : decode (cr_by Y_X4_leave) 60 = .ok (.iconst 3, 1) := by decide +kernel
theorem dX4_leave_61 : decode (cr_by Y_X4_leave) 61 = .ok (.iastore, 1) := by decide +kernel
theorem dX4_leave_62 : decode (cr_by Y_X4_leave) 62 = .ok (.iconst 1, 1) := by decide +kernel
theorem dX4_leave_63 : decode (cr_by Y_X4_leave) 63 = .ok (.ireturn, 1) := by decide +kernel
theorem dX4_urge_0 : decode (cr_by Y_X4_urge) 0 = .ok (.aload_n 0, 1) := by decide +kernel
theorem dX4_urge_1 : decode (cr_by Y_X4_urge) 1 = .ok (.iload_n 1, 1) := by decide +kernel
theorem dX4_urge_2 : decode (cr_by Y_X4_urge) 2 = .ok (.invokevirtual 100, 3) := by decide +kernel
theorem dX4_urge_5 : decode (cr_by Y_X4_urge) 5 = .ok (.istore_n 2, 1) := by decide +kernel
theorem dX4_urge_6 : decode (cr_by Y_X4_urge) 6 = .ok (.iload_n 2, 1) := by decide +kernel
theorem dX4_urge_7 : decode (cr_by Y_X4_urge) 7 = .ok (.ifCond .eq 9, 3) := by decide +kernel
theorem dX4_urge_10 : decode (cr_by Y_X4_urge) 10 = .ok (.aload_n 0, 1) := by decide +kernel
theorem dX4_urge_11 : decode (cr_by Y_X4_urge) 11 = .ok (.iload_n 2, 1) := by decide +kernel
theorem dX4_urge_12 : decode (cr_by Y_X4_urge) 12 = .ok (.invokevirtual 30, 3) := by decide +kernel
theorem dX4_urge_15 : decode (cr_by Y_X4_urge) 15 = .ok (.ireturn, 1) := by decide +kernel
theorem dX4_urge_16 : decode (cr_by Y_X4_urge) 16 = .ok (.aload_n 0, 1) := by decide +kernel
theorem dX4_urge_17 : decode (cr_by Y_X4_urge) 17 = .ok (.getfield 10, 3) := by decide +kernel
theorem dX4_urge_20 : decode (cr_by Y_X4_urge) 20 = .ok (.getfield 78, 3) := by decide +kernel
theorem dX4_urge_23 : decode (cr_by Y_X4_urge) 23 = .ok (.getfield 120, 3) := by decide +kernel
theorem dX4_urge_26 : decode (cr_by Y_X4_urge) 26 = .ok (.iload_n 1, 1) := by decide +kernel
theorem dX4_urge_27 : decode (cr_by Y_X4_urge) 27 = .ok (.iaload, 1) := by decide +kernel
theorem dX4_urge_28 : decode (cr_by Y_X4_urge) 28 = .ok (.istore_n 3, 1) := by decide +kernel
theorem dX4_urge_29 : decode (cr_by Y_X4_urge) 29 = .ok (.iload_n 3, 1) := by decide +kernel
theorem dX4_urge_30 : decode (cr_by Y_X4_urge) 30 = .ok (.iconst 2, 1) := by decide +kernel
theorem dX4_urge_31 : decode (cr_by Y_X4_urge) 31 = .ok (.if_icmp .eq 8, 3) := by decide +kernel
theorem dX4_urge_34 : decode (cr_by Y_X4_urge) 34 = .ok (.iload_n 3, 1) := by decide +kernel
theorem dX4_urge_35 : decode (cr_by Y_X4_urge) 35 = .ok (.iconst 3, 1) := by decide +kernel
theorem dX4_urge_36 : decode (cr_by Y_X4_urge) 36 = .ok (.if_icmp .ne 10, 3) := by decide +kernel
theorem dX4_urge_39 : decode (cr_by Y_X4_urge) 39 = .ok (.aload_n 0, 1) := by decide +kernel
theorem dX4_urge_40 : decode (cr_by Y_X4_urge) 40 = .ok (.bipush (-2), 2) := by decide +kernel
theorem dX4_urge_42 : decode (cr_by Y_X4_urge) 42 = .ok (.invokevirtual 30, 3) := by decide +kernel
theorem dX4_urge_45 : decode (cr_by Y_X4_urge) 45 = .ok (.ireturn, 1) := by decide +kernel
theorem dX4_urge_46 : decode (cr_by Y_X4_urge) 46 = .ok (.aload_n 0, 1) := by decide +kernel
theorem dX4_urge_47 : decode (cr_by Y_X4_urge) 47 = .ok (.getfield 10, 3) := by decide +kernel
theorem dX4_urge_50 : decode (cr_by Y_X4_urge) 50 = .ok (.getfield 78, 3) := by decide +kernel
theorem dX4_urge_53 : decode (cr_by Y_X4_urge) 53 = .ok (.getfield 120, 3) := by decide +kernel
theorem dX4_urge_56 : decode (cr_by Y_X4_urge) 56 = .ok (.iload_n 1, 1) := by decide +kernel
theorem dX4_urge_57 : decode (cr_by Y_X4_urge) 57 = .ok (.iconst 2, 1) := by decide +kernel
theorem dX4_urge_58 : decode (cr_by Y_X4_urge) 58 = .ok (.iastore, 1) := by decide +kernel
theorem dX4_urge_59 : decode (cr_by Y_X4_urge) 59 = .ok (.aload_n 0, 1) := by decide +kernel
theorem dX4_urge_60 : decode (cr_by Y_X4_urge) 60 = .ok (.getfield 10, 3) := by decide +kernel
theorem dX4_urge_63 : decode (cr_by Y_X4_urge) 63 = .ok (.getfield 78, 3) := by decide +kernel
theorem dX4_urge_66 : decode (cr_by Y_X4_urge) 66 = .ok (.getfield 123, 3) := by decide +kernel
theorem dX4_urge_69 : decode (cr_by Y_X4_urge) 69 = .ok (.iload_n 1, 1) := by decide +kernel
theorem dX4_urge_70 : decode (cr_by Y_X4_urge) 70 = .ok (.bipush (-9), 2) := by decide +kernel
theorem dX4_urge_72 : decode (cr_by Y_X4_urge) 72 = .ok (.iastore, 1) := by decide +kernel
theorem dX4_urge_73 : decode (cr_by Y_X4_urge) 73 = .ok (.iconst 1, 1) := by decide +kernel
theorem dX4_urge_74 : decode (cr_by Y_X4_urge) 74 = .ok (.ireturn, 1) := by decide +kernel
theorem dX4_ticks_0 : decode (cr_by Y_X4_ticks) 0 = .ok (.iload_n 1, 1) := by decide +kernel
theorem dX4_ticks_1 : decode (cr_by Y_X4_ticks) 1 = .ok (.iconst 1, 1) := by decide +kernel
theorem dX4_ticks_2 : decode (cr_by Y_X4_ticks) 2 = .ok (.sipush 20000, 3) := by decide +kernel
theorem dX4_ticks_5 : decode (cr_by Y_X4_ticks) 5 = .ok (.aload_n 0, 1) := by decide +kernel
theorem dX4_ticks_6 : decode (cr_by Y_X4_ticks) 6 = .ok (.getfield 10, 3) := by decide +kernel
theorem dX4_ticks_9 : decode (cr_by Y_X4_ticks) 9 = .ok (.getfield 44, 3) := by decide +kernel
theorem dX4_ticks_12 : decode (cr_by Y_X4_ticks) 12 = .ok (.isub, 1) := by decide +kernel
theorem dX4_ticks_13 : decode (cr_by Y_X4_ticks) 13 = .ok (.invokestatic 58, 3) := by decide +kernel
theorem dX4_ticks_16 : decode (cr_by Y_X4_ticks) 16 = .ok (.istore_n 2, 1) := by decide +kernel
theorem dX4_ticks_17 : decode (cr_by Y_X4_ticks) 17 = .ok (.iload_n 2, 1) := by decide +kernel
theorem dX4_ticks_18 : decode (cr_by Y_X4_ticks) 18 = .ok (.ifCond .eq 9, 3) := by decide +kernel
theorem dX4_ticks_21 : decode (cr_by Y_X4_ticks) 21 = .ok (.aload_n 0, 1) := by decide +kernel
theorem dX4_ticks_22 : decode (cr_by Y_X4_ticks) 22 = .ok (.iload_n 2, 1) := by decide +kernel
theorem dX4_ticks_23 : decode (cr_by Y_X4_ticks) 23 = .ok (.invokevirtual 30, 3) := by decide +kernel
theorem dX4_ticks_26 : decode (cr_by Y_X4_ticks) 26 = .ok (.ireturn, 1) := by decide +kernel
theorem dX4_ticks_27 : decode (cr_by Y_X4_ticks) 27 = .ok (.aload_n 0, 1) := by decide +kernel
theorem dX4_ticks_28 : decode (cr_by Y_X4_ticks) 28 = .ok (.getfield 10, 3) := by decide +kernel
theorem dX4_ticks_31 : decode (cr_by Y_X4_ticks) 31 = .ok (.iload_n 1, 1) := by decide +kernel
theorem dX4_ticks_32 : decode (cr_by Y_X4_ticks) 32 = .ok (.invokevirtual 126, 3) := by decide +kernel
theorem dX4_ticks_35 : decode (cr_by Y_X4_ticks) 35 = .ok (.ireturn, 1) := by decide +kernel
theorem dX4_wait_0 : decode (cr_by Y_X4_wait) 0 = .ok (.aload_n 0, 1) := by decide +kernel
theorem dX4_wait_1 : decode (cr_by Y_X4_wait) 1 = .ok (.iload_n 1, 1) := by decide +kernel
theorem dX4_wait_2 : decode (cr_by Y_X4_wait) 2 = .ok (.invokevirtual 100, 3) := by decide +kernel
theorem dX4_wait_5 : decode (cr_by Y_X4_wait) 5 = .ok (.istore_n 2, 1) := by decide +kernel
theorem dX4_wait_6 : decode (cr_by Y_X4_wait) 6 = .ok (.iload_n 2, 1) := by decide +kernel
theorem dX4_wait_7 : decode (cr_by Y_X4_wait) 7 = .ok (.ifCond .eq 9, 3) := by decide +kernel
theorem dX4_wait_10 : decode (cr_by Y_X4_wait) 10 = .ok (.aload_n 0, 1) := by decide +kernel
theorem dX4_wait_11 : decode (cr_by Y_X4_wait) 11 = .ok (.iload_n 2, 1) := by decide +kernel
theorem dX4_wait_12 : decode (cr_by Y_X4_wait) 12 = .ok (.invokevirtual 30, 3) := by decide +kernel
theorem dX4_wait_15 : decode (cr_by Y_X4_wait) 15 = .ok (.ireturn, 1) := by decide +kernel
theorem dX4_wait_16 : decode (cr_by Y_X4_wait) 16 = .ok (.aload_n 0, 1) := by decide +kernel
theorem dX4_wait_17 : decode (cr_by Y_X4_wait) 17 = .ok (.getfield 16, 3) := by decide +kernel
theorem dX4_wait_20 : decode (cr_by Y_X4_wait) 20 = .ok (.aload_n 0, 1) := by decide +kernel
theorem dX4_wait_21 : decode (cr_by Y_X4_wait) 21 = .ok (.getfield 10, 3) := by decide +kernel
theorem dX4_wait_24 : decode (cr_by Y_X4_wait) 24 = .ok (.invokevirtual 129, 3) := by decide +kernel
theorem dX4_wait_27 : decode (cr_by Y_X4_wait) 27 = .ok (.aload_n 0, 1) := by decide +kernel
theorem dX4_wait_28 : decode (cr_by Y_X4_wait) 28 = .ok (.getfield 16, 3) := by decide +kernel
theorem dX4_wait_31 : decode (cr_by Y_X4_wait) 31 = .ok (.iload_n 1, 1) := by decide +kernel
theorem dX4_wait_32 : decode (cr_by Y_X4_wait) 32 = .ok (.invokevirtual 133, 3) := by decide +kernel
theorem dX4_wait_35 : decode (cr_by Y_X4_wait) 35 = .ok (.ireturn, 1) := by decide +kernel
theorem dX4_who_0 : decode (cr_by Y_X4_who) 0 = .ok (.aload_n 0, 1) := by decide +kernel
theorem dX4_who_1 : decode (cr_by Y_X4_who) 1 = .ok (.iload_n 1, 1) := by decide +kernel
theorem dX4_who_2 : decode (cr_by Y_X4_who) 2 = .ok (.invokevirtual 100, 3) := by decide +kernel
theorem dX4_who_5 : decode (cr_by Y_X4_who) 5 = .ok (.istore_n 2, 1) := by decide +kernel
theorem dX4_who_6 : decode (cr_by Y_X4_who) 6 = .ok (.iload_n 2, 1) := by decide +kernel
theorem dX4_who_7 : decode (cr_by Y_X4_who) 7 = .ok (.ifCond .eq 9, 3) := by decide +kernel
theorem dX4_who_10 : decode (cr_by Y_X4_who) 10 = .ok (.aload_n 0, 1) := by decide +kernel
theorem dX4_who_11 : decode (cr_by Y_X4_who) 11 = .ok (.iload_n 2, 1) := by decide +kernel
theorem dX4_who_12 : decode (cr_by Y_X4_who) 12 = .ok (.invokevirtual 30, 3) := by decide +kernel
theorem dX4_who_15 : decode (cr_by Y_X4_who) 15 = .ok (.ireturn, 1) := by decide +kernel
theorem dX4_who_16 : decode (cr_by Y_X4_who) 16 = .ok (.aload_n 0, 1) := by decide +kernel
theorem dX4_who_17 : decode (cr_by Y_X4_who) 17 = .ok (.iload_n 1, 1) := by decide +kernel
theorem dX4_who_18 : decode (cr_by Y_X4_who) 18 = .ok (.invokevirtual 136, 3) := by decide +kernel
theorem dX4_who_21 : decode (cr_by Y_X4_who) 21 = .ok (.ireturn, 1) := by decide +kernel
theorem dX4_why_0 : decode (cr_by Y_X4_why) 0 = .ok (.aload_n 0, 1) := by decide +kernel
theorem dX4_why_1 : decode (cr_by Y_X4_why) 1 = .ok (.iload_n 1, 1) := by decide +kernel
theorem dX4_why_2 : decode (cr_by Y_X4_why) 2 = .ok (.invokevirtual 100, 3) := by decide +kernel
theorem dX4_why_5 : decode (cr_by Y_X4_why) 5 = .ok (.istore_n 2, 1) := by decide +kernel
theorem dX4_why_6 : decode (cr_by Y_X4_why) 6 = .ok (.iload_n 2, 1) := by decide +kernel
theorem dX4_why_7 : decode (cr_by Y_X4_why) 7 = .ok (.ifCond .eq 9, 3) := by decide +kernel
theorem dX4_why_10 : decode (cr_by Y_X4_why) 10 = .ok (.aload_n 0, 1) := by decide +kernel
theorem dX4_why_11 : decode (cr_by Y_X4_why) 11 = .ok (.iload_n 2, 1) := by decide +kernel
theorem dX4_why_12 : decode (cr_by Y_X4_why) 12 = .ok (.invokevirtual 30, 3) := by decide +kernel
theorem dX4_why_15 : decode (cr_by Y_X4_why) 15 = .ok (.ireturn, 1) := by decide +kernel
theorem dX4_why_16 : decode (cr_by Y_X4_why) 16 = .ok (.aload_n 0, 1) := by decide +kernel
theorem dX4_why_17 : decode (cr_by Y_X4_why) 17 = .ok (.iload_n 1, 1) := by decide +kernel
theorem dX4_why_18 : decode (cr_by Y_X4_why) 18 = .ok (.invokevirtual 136, 3) := by decide +kernel
theorem dX4_why_21 : decode (cr_by Y_X4_why) 21 = .ok (.ifCond .lt 7, 3) := by decide +kernel
theorem dX4_why_24 : decode (cr_by Y_X4_why) 24 = .ok (.iconst 0, 1) := by decide +kernel
theorem dX4_why_25 : decode (cr_by Y_X4_why) 25 = .ok (.goto 11, 3) := by decide +kernel
theorem dX4_why_28 : decode (cr_by Y_X4_why) 28 = .ok (.aload_n 0, 1) := by decide +kernel
theorem dX4_why_29 : decode (cr_by Y_X4_why) 29 = .ok (.getfield 10, 3) := by decide +kernel
theorem dX4_why_32 : decode (cr_by Y_X4_why) 32 = .ok (.iload_n 1, 1) := by decide +kernel
theorem dX4_why_33 : decode (cr_by Y_X4_why) 33 = .ok (.invokevirtual 139, 3) := by decide +kernel
theorem dX4_why_36 : decode (cr_by Y_X4_why) 36 = .ok (.ireturn, 1) := by decide +kernel
theorem dX4_within_0 : decode (cr_by Y_X4_within) 0 = .ok (.iload_n 1, 1) := by decide +kernel
theorem dX4_within_1 : decode (cr_by Y_X4_within) 1 = .ok (.ifCond .ge 10, 3) := by decide +kernel
theorem dX4_within_4 : decode (cr_by Y_X4_within) 4 = .ok (.aload_n 0, 1) := by decide +kernel
theorem dX4_within_5 : decode (cr_by Y_X4_within) 5 = .ok (.bipush (-4), 2) := by decide +kernel
theorem dX4_within_7 : decode (cr_by Y_X4_within) 7 = .ok (.invokevirtual 30, 3) := by decide +kernel
theorem dX4_within_10 : decode (cr_by Y_X4_within) 10 = .ok (.ireturn, 1) := by decide +kernel
theorem dX4_within_11 : decode (cr_by Y_X4_within) 11 = .ok (.aload_n 0, 1) := by decide +kernel
theorem dX4_within_12 : decode (cr_by Y_X4_within) 12 = .ok (.getfield 10, 3) := by decide +kernel
theorem dX4_within_15 : decode (cr_by Y_X4_within) 15 = .ok (.getfield 78, 3) := by decide +kernel
theorem dX4_within_18 : decode (cr_by Y_X4_within) 18 = .ok (.iload_n 1, 1) := by decide +kernel
theorem dX4_within_19 : decode (cr_by Y_X4_within) 19 = .ok (.invokevirtual 142, 3) := by decide +kernel
theorem dX4_within_22 : decode (cr_by Y_X4_within) 22 = .ok (.ireturn, 1) := by decide +kernel
theorem dX4_loss_0 : decode (cr_by Y_X4_loss) 0 = .ok (.iload_n 1, 1) := by decide +kernel
theorem dX4_loss_1 : decode (cr_by Y_X4_loss) 1 = .ok (.ifCond .lt 7, 3) := by decide +kernel
theorem dX4_loss_4 : decode (cr_by Y_X4_loss) 4 = .ok (.iload_n 2, 1) := by decide +kernel
theorem dX4_loss_5 : decode (cr_by Y_X4_loss) 5 = .ok (.ifCond .ge 10, 3) := by decide +kernel
theorem dX4_loss_8 : decode (cr_by Y_X4_loss) 8 = .ok (.aload_n 0, 1) := by decide +kernel
theorem dX4_loss_9 : decode (cr_by Y_X4_loss) 9 = .ok (.bipush (-4), 2) := by decide +kernel
theorem dX4_loss_11 : decode (cr_by Y_X4_loss) 11 = .ok (.invokevirtual 30, 3) := by decide +kernel
theorem dX4_loss_14 : decode (cr_by Y_X4_loss) 14 = .ok (.ireturn, 1) := by decide +kernel
theorem dX4_loss_15 : decode (cr_by Y_X4_loss) 15 = .ok (.iload_n 1, 1) := by decide +kernel
theorem dX4_loss_16 : decode (cr_by Y_X4_loss) 16 = .ok (.sipush 10000, 3) := by decide +kernel
theorem dX4_loss_19 : decode (cr_by Y_X4_loss) 19 = .ok (.if_icmp .gt 10, 3) := by decide +kernel
theorem dX4_loss_22 : decode (cr_by Y_X4_loss) 22 = .ok (.iload_n 2, 1) := by decide +kernel
theorem dX4_loss_23 : decode (cr_by Y_X4_loss) 23 = .ok (.sipush 200, 3) := by decide +kernel
theorem dX4_loss_26 : decode (cr_by Y_X4_loss) 26 = .ok (.if_icmp .le 10, 3) := by decide +kernel
theorem dX4_loss_29 : decode (cr_by Y_X4_loss) 29 = .ok (.aload_n 0, 1) := by decide +kernel
theorem dX4_loss_30 : decode (cr_by Y_X4_loss) 30 = .ok (.bipush (-6), 2) := by decide +kernel
theorem dX4_loss_32 : decode (cr_by Y_X4_loss) 32 = .ok (.invokevirtual 30, 3) := by decide +kernel
theorem dX4_loss_35 : decode (cr_by Y_X4_loss) 35 = .ok (.ireturn, 1) := by decide +kernel
theorem dX4_loss_36 : decode (cr_by Y_X4_loss) 36 = .ok (.ldc2_w 145, 3) := by decide +kernel
theorem dX4_loss_39 : decode (cr_by Y_X4_loss) 39 = .ok (.lstore_n 3, 1) := by decide +kernel
theorem dX4_loss_40 : decode (cr_by Y_X4_loss) 40 = .ok (.iconst 1, 1) := by decide +kernel
theorem dX4_loss_41 : decode (cr_by Y_X4_loss) 41 = .ok (.istore 5, 2) := by decide +kernel
theorem dX4_loss_43 : decode (cr_by Y_X4_loss) 43 = .ok (.iload 5, 2) := by decide +kernel
theorem dX4_loss_45 : decode (cr_by Y_X4_loss) 45 = .ok (.iload_n 2, 1) := by decide +kernel
theorem dX4_loss_46 : decode (cr_by Y_X4_loss) 46 = .ok (.if_icmp .gt 17, 3) := by decide +kernel
theorem dX4_loss_49 : decode (cr_by Y_X4_loss) 49 = .ok (.lload_n 3, 1) := by decide +kernel
theorem dX4_loss_50 : decode (cr_by Y_X4_loss) 50 = .ok (.iload_n 1, 1) := by decide +kernel
theorem dX4_loss_51 : decode (cr_by Y_X4_loss) 51 = .ok (.iload 5, 2) := by decide +kernel
theorem dX4_loss_53 : decode (cr_by Y_X4_loss) 53 = .ok (.invokestatic 147, 3) := by decide +kernel
theorem dX4_loss_56 : decode (cr_by Y_X4_loss) 56 = .ok (.lstore_n 3, 1) := by decide +kernel
theorem dX4_loss_57 : decode (cr_by Y_X4_loss) 57 = .ok (.iinc 5 1, 3) := by decide +kernel
theorem dX4_loss_60 : decode (cr_by Y_X4_loss) 60 = .ok (.goto (-17), 3) := by decide +kernel
theorem dX4_loss_63 : decode (cr_by Y_X4_loss) 63 = .ok (.lload_n 3, 1) := by decide +kernel
theorem dX4_loss_64 : decode (cr_by Y_X4_loss) 64 = .ok (.l2i, 1) := by decide +kernel
theorem dX4_loss_65 : decode (cr_by Y_X4_loss) 65 = .ok (.ireturn, 1) := by decide +kernel
theorem dX4_wanted_0 : decode (cr_by Y_X4_wanted) 0 = .ok (.iload_n 1, 1) := by decide +kernel
theorem dX4_wanted_1 : decode (cr_by Y_X4_wanted) 1 = .ok (.ifCond .lt 7, 3) := by decide +kernel
theorem dX4_wanted_4 : decode (cr_by Y_X4_wanted) 4 = .ok (.iload_n 2, 1) := by decide +kernel
theorem dX4_wanted_5 : decode (cr_by Y_X4_wanted) 5 = .ok (.ifCond .ge 10, 3) := by decide +kernel
theorem dX4_wanted_8 : decode (cr_by Y_X4_wanted) 8 = .ok (.aload_n 0, 1) := by decide +kernel
theorem dX4_wanted_9 : decode (cr_by Y_X4_wanted) 9 = .ok (.bipush (-4), 2) := by decide +kernel
theorem dX4_wanted_11 : decode (cr_by Y_X4_wanted) 11 = .ok (.invokevirtual 30, 3) := by decide +kernel
theorem dX4_wanted_14 : decode (cr_by Y_X4_wanted) 14 = .ok (.ireturn, 1) := by decide +kernel
theorem dX4_wanted_15 : decode (cr_by Y_X4_wanted) 15 = .ok (.iload_n 1, 1) := by decide +kernel
theorem dX4_wanted_16 : decode (cr_by Y_X4_wanted) 16 = .ok (.sipush 10000, 3) := by decide +kernel
theorem dX4_wanted_19 : decode (cr_by Y_X4_wanted) 19 = .ok (.if_icmp .gt 9, 3) := by decide +kernel
theorem dX4_wanted_22 : decode (cr_by Y_X4_wanted) 22 = .ok (.iload_n 2, 1) := by decide +kernel
theorem dX4_wanted_23 : decode (cr_by Y_X4_wanted) 23 = .ok (.ldc 151, 2) := by decide +kernel
theorem dX4_wanted_25 : decode (cr_by Y_X4_wanted) 25 = .ok (.if_icmp .le 10, 3) := by decide +kernel
theorem dX4_wanted_28 : decode (cr_by Y_X4_wanted) 28 = .ok (.aload_n 0, 1) := by decide +kernel
theorem dX4_wanted_29 : decode (cr_by Y_X4_wanted) 29 = .ok (.bipush (-6), 2) := by decide +kernel
theorem dX4_wanted_31 : decode (cr_by Y_X4_wanted) 31 = .ok (.invokevirtual 30, 3) := by decide +kernel
theorem dX4_wanted_34 : decode (cr_by Y_X4_wanted) 34 = .ok (.ireturn, 1) := by decide +kernel
theorem dX4_wanted_35 : decode (cr_by Y_X4_wanted) 35 = .ok (.ldc2_w 145, 3) := by decide +kernel
theorem dX4_wanted_38 : decode (cr_by Y_X4_wanted) 38 = .ok (.lstore_n 3, 1) := by decide +kernel
theorem dX4_wanted_39 : decode (cr_by Y_X4_wanted) 39 = .ok (.iconst 0, 1) := by decide +kernel
theorem dX4_wanted_40 : decode (cr_by Y_X4_wanted) 40 = .ok (.istore 5, 2) := by decide +kernel
theorem dX4_wanted_42 : decode (cr_by Y_X4_wanted) 42 = .ok (.iload 5, 2) := by decide +kernel
theorem dX4_wanted_44 : decode (cr_by Y_X4_wanted) 44 = .ok (.sipush 200, 3) := by decide +kernel
theorem dX4_wanted_47 : decode (cr_by Y_X4_wanted) 47 = .ok (.if_icmp .gt 29, 3) := by decide +kernel
theorem dX4_wanted_50 : decode (cr_by Y_X4_wanted) 50 = .ok (.lload_n 3, 1) := by decide +kernel
theorem dX4_wanted_51 : decode (cr_by Y_X4_wanted) 51 = .ok (.iload_n 2, 1) := by decide +kernel
theorem dX4_wanted_52 : decode (cr_by Y_X4_wanted) 52 = .ok (.i2l, 1) := by decide +kernel
theorem dX4_wanted_53 : decode (cr_by Y_X4_wanted) 53 = .ok (.lcmp, 1) := by decide +kernel
theorem dX4_wanted_54 : decode (cr_by Y_X4_wanted) 54 = .ok (.ifCond .gt 6, 3) := by decide +kernel
theorem dX4_wanted_57 : decode (cr_by Y_X4_wanted) 57 = .ok (.iload 5, 2) := by decide +kernel
theorem dX4_wanted_59 : decode (cr_by Y_X4_wanted) 59 = .ok (.ireturn, 1) := by decide +kernel
theorem dX4_wanted_60 : decode (cr_by Y_X4_wanted) 60 = .ok (.lload_n 3, 1) := by decide +kernel
theorem dX4_wanted_61 : decode (cr_by Y_X4_wanted) 61 = .ok (.iload_n 1, 1) := by decide +kernel
theorem dX4_wanted_62 : decode (cr_by Y_X4_wanted) 62 = .ok (.iload 5, 2) := by decide +kernel
theorem dX4_wanted_64 : decode (cr_by Y_X4_wanted) 64 = .ok (.iconst 1, 1) := by decide +kernel
theorem dX4_wanted_65 : decode (cr_by Y_X4_wanted) 65 = .ok (.iadd, 1) := by decide +kernel
theorem dX4_wanted_66 : decode (cr_by Y_X4_wanted) 66 = .ok (.invokestatic 147, 3) := by decide +kernel
theorem dX4_wanted_69 : decode (cr_by Y_X4_wanted) 69 = .ok (.lstore_n 3, 1) := by decide +kernel
theorem dX4_wanted_70 : decode (cr_by Y_X4_wanted) 70 = .ok (.iinc 5 1, 3) := by decide +kernel
theorem dX4_wanted_73 : decode (cr_by Y_X4_wanted) 73 = .ok (.goto (-31), 3) := by decide +kernel
theorem dX4_wanted_76 : decode (cr_by Y_X4_wanted) 76 = .ok (.bipush (-9), 2) := by decide +kernel
theorem dX4_wanted_78 : decode (cr_by Y_X4_wanted) 78 = .ok (.ireturn, 1) := by decide +kernel
theorem dX4_want_0 : decode (cr_by Y_X4_want) 0 = .ok (.iload_n 1, 1) := by decide +kernel
theorem dX4_want_1 : decode (cr_by Y_X4_want) 1 = .ok (.invokestatic 152, 3) := by decide +kernel
theorem dX4_want_4 : decode (cr_by Y_X4_want) 4 = .ok (.ifCond .ne 9, 3) := by decide +kernel
theorem dX4_want_7 : decode (cr_by Y_X4_want) 7 = .ok (.aload_n 0, 1) := by decide +kernel
theorem dX4_want_8 : decode (cr_by Y_X4_want) 8 = .ok (.iconst (-1), 1) := by decide +kernel
theorem dX4_want_9 : decode (cr_by Y_X4_want) 9 = .ok (.invokevirtual 30, 3) := by decide +kernel
theorem dX4_want_12 : decode (cr_by Y_X4_want) 12 = .ok (.ireturn, 1) := by decide +kernel
theorem dX4_want_13 : decode (cr_by Y_X4_want) 13 = .ok (.iload_n 2, 1) := by decide +kernel
theorem dX4_want_14 : decode (cr_by Y_X4_want) 14 = .ok (.iconst 0, 1) := by decide +kernel
theorem dX4_want_15 : decode (cr_by Y_X4_want) 15 = .ok (.bipush 50, 2) := by decide +kernel
theorem dX4_want_17 : decode (cr_by Y_X4_want) 17 = .ok (.invokestatic 58, 3) := by decide +kernel
theorem dX4_want_20 : decode (cr_by Y_X4_want) 20 = .ok (.istore_n 3, 1) := by decide +kernel
theorem dX4_want_21 : decode (cr_by Y_X4_want) 21 = .ok (.iload_n 3, 1) := by decide +kernel
theorem dX4_want_22 : decode (cr_by Y_X4_want) 22 = .ok (.ifCond .eq 9, 3) := by decide +kernel
theorem dX4_want_25 : decode (cr_by Y_X4_want) 25 = .ok (.aload_n 0, 1) := by decide +kernel
theorem dX4_want_26 : decode (cr_by Y_X4_want) 26 = .ok (.iload_n 3, 1) := by decide +kernel
theorem dX4_want_27 : decode (cr_by Y_X4_want) 27 = .ok (.invokevirtual 30, 3) := by decide +kernel
theorem dX4_want_30 : decode (cr_by Y_X4_want) 30 = .ok (.ireturn, 1) := by decide +kernel
theorem dX4_want_31 : decode (cr_by Y_X4_want) 31 = .ok (.aload_n 0, 1) := by decide +kernel
theorem dX4_want_32 : decode (cr_by Y_X4_want) 32 = .ok (.getfield 22, 3) := by decide +kernel
theorem dX4_want_35 : decode (cr_by Y_X4_want) 35 = .ok (.getfield 155, 3) := by decide +kernel
theorem dX4_want_38 : decode (cr_by Y_X4_want) 38 = .ok (.iload_n 1, 1) := by decide +kernel
theorem dX4_want_39 : decode (cr_by Y_X4_want) 39 = .ok (.iaload, 1) := by decide +kernel
theorem dX4_want_40 : decode (cr_by Y_X4_want) 40 = .ok (.istore 4, 2) := by decide +kernel
theorem dX4_want_42 : decode (cr_by Y_X4_want) 42 = .ok (.aload_n 0, 1) := by decide +kernel
theorem dX4_want_43 : decode (cr_by Y_X4_want) 43 = .ok (.getfield 22, 3) := by decide +kernel
theorem dX4_want_46 : decode (cr_by Y_X4_want) 46 = .ok (.getfield 155, 3) := by decide +kernel
theorem dX4_want_49 : decode (cr_by Y_X4_want) 49 = .ok (.iload_n 1, 1) := by decide +kernel
theorem dX4_want_50 : decode (cr_by Y_X4_want) 50 = .ok (.iload_n 2, 1) := by decide +kernel
theorem dX4_want_51 : decode (cr_by Y_X4_want) 51 = .ok (.iastore, 1) := by decide +kernel
theorem dX4_want_52 : decode (cr_by Y_X4_want) 52 = .ok (.iload 4, 2) := by decide +kernel
theorem dX4_want_54 : decode (cr_by Y_X4_want) 54 = .ok (.ireturn, 1) := by decide +kernel
theorem dX4_cover_0 : decode (cr_by Y_X4_cover) 0 = .ok (.iload_n 1, 1) := by decide +kernel
theorem dX4_cover_1 : decode (cr_by Y_X4_cover) 1 = .ok (.iconst 1, 1) := by decide +kernel
theorem dX4_cover_2 : decode (cr_by Y_X4_cover) 2 = .ok (.bipush 16, 2) := by decide +kernel
theorem dX4_cover_4 : decode (cr_by Y_X4_cover) 4 = .ok (.invokestatic 58, 3) := by decide +kernel
theorem dX4_cover_7 : decode (cr_by Y_X4_cover) 7 = .ok (.istore_n 2, 1) := by decide +kernel
theorem dX4_cover_8 : decode (cr_by Y_X4_cover) 8 = .ok (.iload_n 2, 1) := by decide +kernel
theorem dX4_cover_9 : decode (cr_by Y_X4_cover) 9 = .ok (.ifCond .eq 9, 3) := by decide +kernel
theorem dX4_cover_12 : decode (cr_by Y_X4_cover) 12 = .ok (.aload_n 0, 1) := by decide +kernel
theorem dX4_cover_13 : decode (cr_by Y_X4_cover) 13 = .ok (.iload_n 2, 1) := by decide +kernel
theorem dX4_cover_14 : decode (cr_by Y_X4_cover) 14 = .ok (.invokevirtual 30, 3) := by decide +kernel
theorem dX4_cover_17 : decode (cr_by Y_X4_cover) 17 = .ok (.ireturn, 1) := by decide +kernel
theorem dX4_cover_18 : decode (cr_by Y_X4_cover) 18 = .ok (.aload_n 0, 1) := by decide +kernel
theorem dX4_cover_19 : decode (cr_by Y_X4_cover) 19 = .ok (.getfield 22, 3) := by decide +kernel
theorem dX4_cover_22 : decode (cr_by Y_X4_cover) 22 = .ok (.iload_n 1, 1) := by decide +kernel
theorem dX4_cover_23 : decode (cr_by Y_X4_cover) 23 = .ok (.invokevirtual 158, 3) := by decide +kernel
theorem dX4_cover_26 : decode (cr_by Y_X4_cover) 26 = .ok (.ireturn, 1) := by decide +kernel
theorem dX4_begins_0 : decode (cr_by Y_X4_begins) 0 = .ok (.iload_n 1, 1) := by decide +kernel
theorem dX4_begins_1 : decode (cr_by Y_X4_begins) 1 = .ok (.invokestatic 152, 3) := by decide +kernel
theorem dX4_begins_4 : decode (cr_by Y_X4_begins) 4 = .ok (.ifCond .eq 15, 3) := by decide +kernel
theorem dX4_begins_7 : decode (cr_by Y_X4_begins) 7 = .ok (.aload_n 0, 1) := by decide +kernel
theorem dX4_begins_8 : decode (cr_by Y_X4_begins) 8 = .ok (.getfield 22, 3) := by decide +kernel
theorem dX4_begins_11 : decode (cr_by Y_X4_begins) 11 = .ok (.getfield 161, 3) := by decide +kernel
theorem dX4_begins_14 : decode (cr_by Y_X4_begins) 14 = .ok (.iload_n 1, 1) := by decide +kernel
theorem dX4_begins_15 : decode (cr_by Y_X4_begins) 15 = .ok (.iaload, 1) := by decide +kernel
theorem dX4_begins_16 : decode (cr_by Y_X4_begins) 16 = .ok (.goto 8, 3) := by decide +kernel
theorem dX4_begins_19 : decode (cr_by Y_X4_begins) 19 = .ok (.aload_n 0, 1) := by decide +kernel
theorem dX4_begins_20 : decode (cr_by Y_X4_begins) 20 = .ok (.iconst (-1), 1) := by decide +kernel
theorem dX4_begins_21 : decode (cr_by Y_X4_begins) 21 = .ok (.invokevirtual 30, 3) := by decide +kernel
theorem dX4_begins_24 : decode (cr_by Y_X4_begins) 24 = .ok (.ireturn, 1) := by decide +kernel
theorem dX4_helperOf_0 : decode (cr_by Y_X4_helperOf) 0 = .ok (.aload_n 0, 1) := by decide +kernel
theorem dX4_helperOf_1 : decode (cr_by Y_X4_helperOf) 1 = .ok (.getfield 10, 3) := by decide +kernel
theorem dX4_helperOf_4 : decode (cr_by Y_X4_helperOf) 4 = .ok (.getfield 34, 3) := by decide +kernel
theorem dX4_helperOf_7 : decode (cr_by Y_X4_helperOf) 7 = .ok (.astore_n 3, 1) := by decide +kernel
theorem dX4_helperOf_8 : decode (cr_by Y_X4_helperOf) 8 = .ok (.aload_n 3, 1) := by decide +kernel
theorem dX4_helperOf_9 : decode (cr_by Y_X4_helperOf) 9 = .ok (.iload_n 1, 1) := by decide +kernel
theorem dX4_helperOf_10 : decode (cr_by Y_X4_helperOf) 10 = .ok (.invokevirtual 51, 3) := by decide +kernel
theorem dX4_helperOf_13 : decode (cr_by Y_X4_helperOf) 13 = .ok (.ifCond .ne 9, 3) := by decide +kernel
theorem dX4_helperOf_16 : decode (cr_by Y_X4_helperOf) 16 = .ok (.aload_n 0, 1) := by decide +kernel
theorem dX4_helperOf_17 : decode (cr_by Y_X4_helperOf) 17 = .ok (.iconst (-1), 1) := by decide +kernel
theorem dX4_helperOf_18 : decode (cr_by Y_X4_helperOf) 18 = .ok (.invokevirtual 30, 3) := by decide +kernel
theorem dX4_helperOf_21 : decode (cr_by Y_X4_helperOf) 21 = .ok (.ireturn, 1) := by decide +kernel
theorem dX4_helperOf_22 : decode (cr_by Y_X4_helperOf) 22 = .ok (.iload_n 2, 1) := by decide +kernel
theorem dX4_helperOf_23 : decode (cr_by Y_X4_helperOf) 23 = .ok (.tableswitch 148 0 13 #[69, 76, 83, 95, 102, 109, 116, 148, 148, 148, 138, 138, 138, 138], 69) := by decide +kernel
theorem dX4_helperOf_92 : decode (cr_by Y_X4_helperOf) 92 = .ok (.aload_n 3, 1) := by decide +kernel
theorem dX4_helperOf_93 : decode (cr_by Y_X4_helperOf) 93 = .ok (.getfield 69, 3) := by decide +kernel
theorem dX4_helperOf_96 : decode (cr_by Y_X4_helperOf) 96 = .ok (.iload_n 1, 1) := by decide +kernel
theorem dX4_helperOf_97 : decode (cr_by Y_X4_helperOf) 97 = .ok (.iaload, 1) := by decide +kernel
theorem dX4_helperOf_98 : decode (cr_by Y_X4_helperOf) 98 = .ok (.ireturn, 1) := by decide +kernel
theorem dX4_helperOf_99 : decode (cr_by Y_X4_helperOf) 99 = .ok (.aload_n 3, 1) := by decide +kernel
theorem dX4_helperOf_100 : decode (cr_by Y_X4_helperOf) 100 = .ok (.getfield 164, 3) := by decide +kernel
theorem dX4_helperOf_103 : decode (cr_by Y_X4_helperOf) 103 = .ok (.iload_n 1, 1) := by decide +kernel
theorem dX4_helperOf_104 : decode (cr_by Y_X4_helperOf) 104 = .ok (.iaload, 1) := by decide +kernel
theorem dX4_helperOf_105 : decode (cr_by Y_X4_helperOf) 105 = .ok (.ireturn, 1) := by decide +kernel
theorem dX4_helperOf_106 : decode (cr_by Y_X4_helperOf) 106 = .ok (.aload_n 0, 1) := by decide +kernel
theorem dX4_helperOf_107 : decode (cr_by Y_X4_helperOf) 107 = .ok (.getfield 10, 3) := by decide +kernel
theorem dX4_helperOf_110 : decode (cr_by Y_X4_helperOf) 110 = .ok (.getfield 78, 3) := by decide +kernel
theorem dX4_helperOf_113 : decode (cr_by Y_X4_helperOf) 113 = .ok (.iload_n 1, 1) := by decide +kernel
theorem dX4_helperOf_114 : decode (cr_by Y_X4_helperOf) 114 = .ok (.invokevirtual 167, 3) := by decide +kernel
theorem dX4_helperOf_117 : decode (cr_by Y_X4_helperOf) 117 = .ok (.ireturn, 1) := by decide +kernel
theorem dX4_helperOf_118 : decode (cr_by Y_X4_helperOf) 118 = .ok (.aload_n 3, 1) := by decide +kernel
theorem dX4_helperOf_119 : decode (cr_by Y_X4_helperOf) 119 = .ok (.getfield 170, 3) := by decide +kernel
theorem dX4_helperOf_122 : decode (cr_by Y_X4_helperOf) 122 = .ok (.iload_n 1, 1) := by decide +kernel
theorem dX4_helperOf_123 : decode (cr_by Y_X4_helperOf) 123 = .ok (.iaload, 1) := by decide +kernel
theorem dX4_helperOf_124 : decode (cr_by Y_X4_helperOf) 124 = .ok (.ireturn, 1) := by decide +kernel
theorem dX4_helperOf_125 : decode (cr_by Y_X4_helperOf) 125 = .ok (.aload_n 3, 1) := by decide +kernel
theorem dX4_helperOf_126 : decode (cr_by Y_X4_helperOf) 126 = .ok (.getfield 173, 3) := by decide +kernel
theorem dX4_helperOf_129 : decode (cr_by Y_X4_helperOf) 129 = .ok (.iload_n 1, 1) := by decide +kernel
theorem dX4_helperOf_130 : decode (cr_by Y_X4_helperOf) 130 = .ok (.iaload, 1) := by decide +kernel
theorem dX4_helperOf_131 : decode (cr_by Y_X4_helperOf) 131 = .ok (.ireturn, 1) := by decide +kernel
theorem dX4_helperOf_132 : decode (cr_by Y_X4_helperOf) 132 = .ok (.aload_n 3, 1) := by decide +kernel
theorem dX4_helperOf_133 : decode (cr_by Y_X4_helperOf) 133 = .ok (.getfield 176, 3) := by decide +kernel
theorem dX4_helperOf_136 : decode (cr_by Y_X4_helperOf) 136 = .ok (.iload_n 1, 1) := by decide +kernel
theorem dX4_helperOf_137 : decode (cr_by Y_X4_helperOf) 137 = .ok (.iaload, 1) := by decide +kernel
theorem dX4_helperOf_138 : decode (cr_by Y_X4_helperOf) 138 = .ok (.ireturn, 1) := by decide +kernel
theorem dX4_helperOf_139 : decode (cr_by Y_X4_helperOf) 139 = .ok (.aload_n 3, 1) := by decide +kernel
theorem dX4_helperOf_140 : decode (cr_by Y_X4_helperOf) 140 = .ok (.getfield 69, 3) := by decide +kernel
theorem dX4_helperOf_143 : decode (cr_by Y_X4_helperOf) 143 = .ok (.iload_n 1, 1) := by decide +kernel
theorem dX4_helperOf_144 : decode (cr_by Y_X4_helperOf) 144 = .ok (.iaload, 1) := by decide +kernel
theorem dX4_helperOf_145 : decode (cr_by Y_X4_helperOf) 145 = .ok (.iconst 3, 1) := by decide +kernel
theorem dX4_helperOf_146 : decode (cr_by Y_X4_helperOf) 146 = .ok (.if_icmp .ne 12, 3) := by decide +kernel
theorem dX4_helperOf_149 : decode (cr_by Y_X4_helperOf) 149 = .ok (.aload_n 3, 1) := by decide +kernel
theorem dX4_helperOf_150 : decode (cr_by Y_X4_helperOf) 150 = .ok (.getfield 75, 3) := by decide +kernel
theorem dX4_helperOf_153 : decode (cr_by Y_X4_helperOf) 153 = .ok (.iload_n 1, 1) := by decide +kernel
theorem dX4_helperOf_154 : decode (cr_by Y_X4_helperOf) 154 = .ok (.iaload, 1) := by decide +kernel
theorem dX4_helperOf_155 : decode (cr_by Y_X4_helperOf) 155 = .ok (.goto 5, 3) := by decide +kernel
theorem dX4_helperOf_158 : decode (cr_by Y_X4_helperOf) 158 = .ok (.bipush (-9), 2) := by decide +kernel
theorem dX4_helperOf_160 : decode (cr_by Y_X4_helperOf) 160 = .ok (.ireturn, 1) := by decide +kernel
theorem dX4_helperOf_161 : decode (cr_by Y_X4_helperOf) 161 = .ok (.aload_n 3, 1) := by decide +kernel
theorem dX4_helperOf_162 : decode (cr_by Y_X4_helperOf) 162 = .ok (.iload_n 1, 1) := by decide +kernel
theorem dX4_helperOf_163 : decode (cr_by Y_X4_helperOf) 163 = .ok (.iload_n 2, 1) := by decide +kernel
theorem dX4_helperOf_164 : decode (cr_by Y_X4_helperOf) 164 = .ok (.bipush 10, 2) := by decide +kernel
theorem dX4_helperOf_166 : decode (cr_by Y_X4_helperOf) 166 = .ok (.isub, 1) := by decide +kernel
theorem dX4_helperOf_167 : decode (cr_by Y_X4_helperOf) 167 = .ok (.invokevirtual 62, 3) := by decide +kernel
theorem dX4_helperOf_170 : decode (cr_by Y_X4_helperOf) 170 = .ok (.ireturn, 1) := by decide +kernel
theorem dX4_helperOf_171 : decode (cr_by Y_X4_helperOf) 171 = .ok (.bipush (-9), 2) := by decide +kernel
theorem dX4_helperOf_173 : decode (cr_by Y_X4_helperOf) 173 = .ok (.ireturn, 1) := by decide +kernel
theorem dX4_callOf_0 : decode (cr_by Y_X4_callOf) 0 = .ok (.aload_n 0, 1) := by decide +kernel
theorem dX4_callOf_1 : decode (cr_by Y_X4_callOf) 1 = .ok (.getfield 10, 3) := by decide +kernel
theorem dX4_callOf_4 : decode (cr_by Y_X4_callOf) 4 = .ok (.getfield 78, 3) := by decide +kernel
theorem dX4_callOf_7 : decode (cr_by Y_X4_callOf) 7 = .ok (.astore_n 3, 1) := by decide +kernel
theorem dX4_callOf_8 : decode (cr_by Y_X4_callOf) 8 = .ok (.aload_n 3, 1) := by decide +kernel
theorem dX4_callOf_9 : decode (cr_by Y_X4_callOf) 9 = .ok (.iload_n 1, 1) := by decide +kernel
theorem dX4_callOf_10 : decode (cr_by Y_X4_callOf) 10 = .ok (.invokevirtual 106, 3) := by decide +kernel
theorem dX4_callOf_13 : decode (cr_by Y_X4_callOf) 13 = .ok (.ifCond .ne 9, 3) := by decide +kernel
theorem dX4_callOf_16 : decode (cr_by Y_X4_callOf) 16 = .ok (.aload_n 0, 1) := by decide +kernel
theorem dX4_callOf_17 : decode (cr_by Y_X4_callOf) 17 = .ok (.iconst (-1), 1) := by decide +kernel
theorem dX4_callOf_18 : decode (cr_by Y_X4_callOf) 18 = .ok (.invokevirtual 30, 3) := by decide +kernel
theorem dX4_callOf_21 : decode (cr_by Y_X4_callOf) 21 = .ok (.ireturn, 1) := by decide +kernel
theorem dX4_callOf_22 : decode (cr_by Y_X4_callOf) 22 = .ok (.iload_n 2, 1) := by decide +kernel
theorem dX4_callOf_23 : decode (cr_by Y_X4_callOf) 23 = .ok (.tableswitch 174 0 9 #[53, 60, 67, 74, 81, 88, 95, 102, 135, 167], 53) := by decide +kernel
theorem dX4_callOf_76 : decode (cr_by Y_X4_callOf) 76 = .ok (.aload_n 3, 1) := by decide +kernel
theorem dX4_callOf_77 : decode (cr_by Y_X4_callOf) 77 = .ok (.getfield 107, 3) := by decide +kernel
theorem dX4_callOf_80 : decode (cr_by Y_X4_callOf) 80 = .ok (.iload_n 1, 1) := by decide +kernel
theorem dX4_callOf_81 : decode (cr_by Y_X4_callOf) 81 = .ok (.iaload, 1) := by decide +kernel
theorem dX4_callOf_82 : decode (cr_by Y_X4_callOf) 82 = .ok (.ireturn, 1) := by decide +kernel
theorem dX4_callOf_83 : decode (cr_by Y_X4_callOf) 83 = .ok (.aload_n 3, 1) := by decide +kernel
theorem dX4_callOf_84 : decode (cr_by Y_X4_callOf) 84 = .ok (.getfield 120, 3) := by decide +kernel
theorem dX4_callOf_87 : decode (cr_by Y_X4_callOf) 87 = .ok (.iload_n 1, 1) := by decide +kernel
theorem dX4_callOf_88 : decode (cr_by Y_X4_callOf) 88 = .ok (.iaload, 1) := by decide +kernel
theorem dX4_callOf_89 : decode (cr_by Y_X4_callOf) 89 = .ok (.ireturn, 1) := by decide +kernel
theorem dX4_callOf_90 : decode (cr_by Y_X4_callOf) 90 = .ok (.aload_n 3, 1) := by decide +kernel
theorem dX4_callOf_91 : decode (cr_by Y_X4_callOf) 91 = .ok (.getfield 179, 3) := by decide +kernel
theorem dX4_callOf_94 : decode (cr_by Y_X4_callOf) 94 = .ok (.iload_n 1, 1) := by decide +kernel
theorem dX4_callOf_95 : decode (cr_by Y_X4_callOf) 95 = .ok (.iaload, 1) := by decide +kernel
theorem dX4_callOf_96 : decode (cr_by Y_X4_callOf) 96 = .ok (.ireturn, 1) := by decide +kernel
theorem dX4_callOf_97 : decode (cr_by Y_X4_callOf) 97 = .ok (.aload_n 3, 1) := by decide +kernel
theorem dX4_callOf_98 : decode (cr_by Y_X4_callOf) 98 = .ok (.getfield 182, 3) := by decide +kernel
theorem dX4_callOf_101 : decode (cr_by Y_X4_callOf) 101 = .ok (.iload_n 1, 1) := by decide +kernel
theorem dX4_callOf_102 : decode (cr_by Y_X4_callOf) 102 = .ok (.iaload, 1) := by decide +kernel
theorem dX4_callOf_103 : decode (cr_by Y_X4_callOf) 103 = .ok (.ireturn, 1) := by decide +kernel
theorem dX4_callOf_104 : decode (cr_by Y_X4_callOf) 104 = .ok (.aload_n 3, 1) := by decide +kernel
theorem dX4_callOf_105 : decode (cr_by Y_X4_callOf) 105 = .ok (.getfield 111, 3) := by decide +kernel
theorem dX4_callOf_108 : decode (cr_by Y_X4_callOf) 108 = .ok (.iload_n 1, 1) := by decide +kernel
theorem dX4_callOf_109 : decode (cr_by Y_X4_callOf) 109 = .ok (.iaload, 1) := by decide +kernel
theorem dX4_callOf_110 : decode (cr_by Y_X4_callOf) 110 = .ok (.ireturn, 1) := by decide +kernel
theorem dX4_callOf_111 : decode (cr_by Y_X4_callOf) 111 = .ok (.aload_n 3, 1) := by decide +kernel
theorem dX4_callOf_112 : decode (cr_by Y_X4_callOf) 112 = .ok (.getfield 185, 3) := by decide +kernel
theorem dX4_callOf_115 : decode (cr_by Y_X4_callOf) 115 = .ok (.iload_n 1, 1) := by decide +kernel
theorem dX4_callOf_116 : decode (cr_by Y_X4_callOf) 116 = .ok (.iaload, 1) := by decide +kernel
theorem dX4_callOf_117 : decode (cr_by Y_X4_callOf) 117 = .ok (.ireturn, 1) := by decide +kernel
theorem dX4_callOf_118 : decode (cr_by Y_X4_callOf) 118 = .ok (.aload_n 3, 1) := by decide +kernel
theorem dX4_callOf_119 : decode (cr_by Y_X4_callOf) 119 = .ok (.getfield 108, 3) := by decide +kernel
theorem dX4_callOf_122 : decode (cr_by Y_X4_callOf) 122 = .ok (.iload_n 1, 1) := by decide +kernel
theorem dX4_callOf_123 : decode (cr_by Y_X4_callOf) 123 = .ok (.iaload, 1) := by decide +kernel
theorem dX4_callOf_124 : decode (cr_by Y_X4_callOf) 124 = .ok (.ireturn, 1) := by decide +kernel
theorem dX4_callOf_125 : decode (cr_by Y_X4_callOf) 125 = .ok (.aload_n 3, 1) := by decide +kernel
theorem dX4_callOf_126 : decode (cr_by Y_X4_callOf) 126 = .ok (.getfield 107, 3) := by decide +kernel
theorem dX4_callOf_129 : decode (cr_by Y_X4_callOf) 129 = .ok (.iload_n 1, 1) := by decide +kernel
theorem dX4_callOf_130 : decode (cr_by Y_X4_callOf) 130 = .ok (.iaload, 1) := by decide +kernel
theorem dX4_callOf_131 : decode (cr_by Y_X4_callOf) 131 = .ok (.ifCond .ne 20, 3) := by decide +kernel
theorem dX4_callOf_134 : decode (cr_by Y_X4_callOf) 134 = .ok (.aload_n 0, 1) := by decide +kernel
theorem dX4_callOf_135 : decode (cr_by Y_X4_callOf) 135 = .ok (.getfield 10, 3) := by decide +kernel
theorem dX4_callOf_138 : decode (cr_by Y_X4_callOf) 138 = .ok (.getfield 44, 3) := by decide +kernel
theorem dX4_callOf_141 : decode (cr_by Y_X4_callOf) 141 = .ok (.aload_n 3, 1) := by decide +kernel
theorem dX4_callOf_142 : decode (cr_by Y_X4_callOf) 142 = .ok (.getfield 188, 3) := by decide +kernel
theorem dX4_callOf_145 : decode (cr_by Y_X4_callOf) 145 = .ok (.iload_n 1, 1) := by decide +kernel
theorem dX4_callOf_146 : decode (cr_by Y_X4_callOf) 146 = .ok (.iaload, 1) := by decide +kernel
theorem dX4_callOf_147 : decode (cr_by Y_X4_callOf) 147 = .ok (.isub, 1) := by decide +kernel
theorem dX4_callOf_148 : decode (cr_by Y_X4_callOf) 148 = .ok (.goto 9, 3) := by decide +kernel
theorem dX4_callOf_151 : decode (cr_by Y_X4_callOf) 151 = .ok (.aload_n 3, 1) := by decide +kernel
theorem dX4_callOf_152 : decode (cr_by Y_X4_callOf) 152 = .ok (.getfield 189, 3) := by decide +kernel
theorem dX4_callOf_155 : decode (cr_by Y_X4_callOf) 155 = .ok (.iload_n 1, 1) := by decide +kernel
theorem dX4_callOf_156 : decode (cr_by Y_X4_callOf) 156 = .ok (.iaload, 1) := by decide +kernel
theorem dX4_callOf_157 : decode (cr_by Y_X4_callOf) 157 = .ok (.ireturn, 1) := by decide +kernel
theorem dX4_callOf_158 : decode (cr_by Y_X4_callOf) 158 = .ok (.aload_n 3, 1) := by decide +kernel
theorem dX4_callOf_159 : decode (cr_by Y_X4_callOf) 159 = .ok (.getfield 107, 3) := by decide +kernel
theorem dX4_callOf_162 : decode (cr_by Y_X4_callOf) 162 = .ok (.iload_n 1, 1) := by decide +kernel
theorem dX4_callOf_163 : decode (cr_by Y_X4_callOf) 163 = .ok (.iaload, 1) := by decide +kernel
theorem dX4_callOf_164 : decode (cr_by Y_X4_callOf) 164 = .ok (.iconst 1, 1) := by decide +kernel
theorem dX4_callOf_165 : decode (cr_by Y_X4_callOf) 165 = .ok (.if_icmp .eq 13, 3) := by decide +kernel
theorem dX4_callOf_168 : decode (cr_by Y_X4_callOf) 168 = .ok (.aload_n 3, 1) := by decide +kernel
theorem dX4_callOf_169 : decode (cr_by Y_X4_callOf) 169 = .ok (.getfield 107, 3) := by decide +kernel
theorem dX4_callOf_172 : decode (cr_by Y_X4_callOf) 172 = .ok (.iload_n 1, 1) := by decide +kernel
theorem dX4_callOf_173 : decode (cr_by Y_X4_callOf) 173 = .ok (.iaload, 1) := by decide +kernel
theorem dX4_callOf_174 : decode (cr_by Y_X4_callOf) 174 = .ok (.iconst 4, 1) := by decide +kernel
theorem dX4_callOf_175 : decode (cr_by Y_X4_callOf) 175 = .ok (.if_icmp .ne 12, 3) := by decide +kernel
theorem dX4_callOf_178 : decode (cr_by Y_X4_callOf) 178 = .ok (.aload_n 3, 1) := by decide +kernel
theorem dX4_callOf_179 : decode (cr_by Y_X4_callOf) 179 = .ok (.getfield 192, 3) := by decide +kernel
theorem dX4_callOf_182 : decode (cr_by Y_X4_callOf) 182 = .ok (.iload_n 1, 1) := by decide +kernel
theorem dX4_callOf_183 : decode (cr_by Y_X4_callOf) 183 = .ok (.iaload, 1) := by decide +kernel
theorem dX4_callOf_184 : decode (cr_by Y_X4_callOf) 184 = .ok (.goto 5, 3) := by decide +kernel
theorem dX4_callOf_187 : decode (cr_by Y_X4_callOf) 187 = .ok (.bipush (-9), 2) := by decide +kernel
theorem dX4_callOf_189 : decode (cr_by Y_X4_callOf) 189 = .ok (.ireturn, 1) := by decide +kernel
theorem dX4_callOf_190 : decode (cr_by Y_X4_callOf) 190 = .ok (.aload_n 3, 1) := by decide +kernel
theorem dX4_callOf_191 : decode (cr_by Y_X4_callOf) 191 = .ok (.getfield 123, 3) := by decide +kernel
theorem dX4_callOf_194 : decode (cr_by Y_X4_callOf) 194 = .ok (.iload_n 1, 1) := by decide +kernel
theorem dX4_callOf_195 : decode (cr_by Y_X4_callOf) 195 = .ok (.iaload, 1) := by decide +kernel
theorem dX4_callOf_196 : decode (cr_by Y_X4_callOf) 196 = .ok (.ireturn, 1) := by decide +kernel
theorem dX4_callOf_197 : decode (cr_by Y_X4_callOf) 197 = .ok (.bipush (-9), 2) := by decide +kernel
theorem dX4_callOf_199 : decode (cr_by Y_X4_callOf) 199 = .ok (.ireturn, 1) := by decide +kernel
theorem dX4_count_0 : decode (cr_by Y_X4_count) 0 = .ok (.iload_n 1, 1) := by decide +kernel
theorem dX4_count_1 : decode (cr_by Y_X4_count) 1 = .ok (.tableswitch 152 0 8 #[51, 59, 70, 81, 93, 105, 117, 129, 141], 51) := by decide +kernel
theorem dX4_count_52 : decode (cr_by Y_X4_count) 52 = .ok (.aload_n 0, 1) := by decide +kernel
theorem dX4_count_53 : decode (cr_by Y_X4_count) 53 = .ok (.getfield 10, 3) := by decide +kernel
theorem dX4_count_56 : decode (cr_by Y_X4_count) 56 = .ok (.getfield 44, 3) := by decide +kernel
theorem dX4_count_59 : decode (cr_by Y_X4_count) 59 = .ok (.ireturn, 1) := by decide +kernel
theorem dX4_count_60 : decode (cr_by Y_X4_count) 60 = .ok (.aload_n 0, 1) := by decide +kernel
theorem dX4_count_61 : decode (cr_by Y_X4_count) 61 = .ok (.getfield 10, 3) := by decide +kernel
theorem dX4_count_64 : decode (cr_by Y_X4_count) 64 = .ok (.getfield 34, 3) := by decide +kernel
theorem dX4_count_67 : decode (cr_by Y_X4_count) 67 = .ok (.getfield 38, 3) := by decide +kernel
theorem dX4_count_70 : decode (cr_by Y_X4_count) 70 = .ok (.ireturn, 1) := by decide +kernel
theorem dX4_count_71 : decode (cr_by Y_X4_count) 71 = .ok (.aload_n 0, 1) := by decide +kernel
theorem dX4_count_72 : decode (cr_by Y_X4_count) 72 = .ok (.getfield 10, 3) := by decide +kernel
theorem dX4_count_75 : decode (cr_by Y_X4_count) 75 = .ok (.getfield 78, 3) := by decide +kernel
theorem dX4_count_78 : decode (cr_by Y_X4_count) 78 = .ok (.getfield 82, 3) := by decide +kernel
theorem dX4_count_81 : decode (cr_by Y_X4_count) 81 = .ok (.ireturn, 1) := by decide +kernel
theorem dX4_count_82 : decode (cr_by Y_X4_count) 82 = .ok (.aload_n 0, 1) := by decide +kernel
theorem dX4_count_83 : decode (cr_by Y_X4_count) 83 = .ok (.getfield 10, 3) := by decide +kernel
theorem dX4_count_86 : decode (cr_by Y_X4_count) 86 = .ok (.getfield 78, 3) := by decide +kernel
theorem dX4_count_89 : decode (cr_by Y_X4_count) 89 = .ok (.iconst 0, 1) := by decide +kernel
theorem dX4_count_90 : decode (cr_by Y_X4_count) 90 = .ok (.invokevirtual 195, 3) := by decide +kernel
theorem dX4_count_93 : decode (cr_by Y_X4_count) 93 = .ok (.ireturn, 1) := by decide +kernel
theorem dX4_count_94 : decode (cr_by Y_X4_count) 94 = .ok (.aload_n 0, 1) := by decide +kernel
theorem dX4_count_95 : decode (cr_by Y_X4_count) 95 = .ok (.getfield 10, 3) := by decide +kernel
theorem dX4_count_98 : decode (cr_by Y_X4_count) 98 = .ok (.getfield 78, 3) := by decide +kernel
theorem dX4_count_101 : decode (cr_by Y_X4_count) 101 = .ok (.iconst 1, 1) := by decide +kernel
theorem dX4_count_102 : decode (cr_by Y_X4_count) 102 = .ok (.invokevirtual 195, 3) := by decide +kernel
theorem dX4_count_105 : decode (cr_by Y_X4_count) 105 = .ok (.ireturn, 1) := by decide +kernel
theorem dX4_count_106 : decode (cr_by Y_X4_count) 106 = .ok (.aload_n 0, 1) := by decide +kernel
theorem dX4_count_107 : decode (cr_by Y_X4_count) 107 = .ok (.getfield 10, 3) := by decide +kernel
theorem dX4_count_110 : decode (cr_by Y_X4_count) 110 = .ok (.getfield 78, 3) := by decide +kernel
theorem dX4_count_113 : decode (cr_by Y_X4_count) 113 = .ok (.iconst 2, 1) := by decide +kernel
theorem dX4_count_114 : decode (cr_by Y_X4_count) 114 = .ok (.invokevirtual 195, 3) := by decide +kernel
theorem dX4_count_117 : decode (cr_by Y_X4_count) 117 = .ok (.ireturn, 1) := by decide +kernel
theorem dX4_count_118 : decode (cr_by Y_X4_count) 118 = .ok (.aload_n 0, 1) := by decide +kernel
theorem dX4_count_119 : decode (cr_by Y_X4_count) 119 = .ok (.getfield 10, 3) := by decide +kernel
theorem dX4_count_122 : decode (cr_by Y_X4_count) 122 = .ok (.getfield 78, 3) := by decide +kernel
theorem dX4_count_125 : decode (cr_by Y_X4_count) 125 = .ok (.iconst 3, 1) := by decide +kernel
theorem dX4_count_126 : decode (cr_by Y_X4_count) 126 = .ok (.invokevirtual 195, 3) := by decide +kernel
theorem dX4_count_129 : decode (cr_by Y_X4_count) 129 = .ok (.ireturn, 1) := by decide +kernel
theorem dX4_count_130 : decode (cr_by Y_X4_count) 130 = .ok (.aload_n 0, 1) := by decide +kernel
theorem dX4_count_131 : decode (cr_by Y_X4_count) 131 = .ok (.getfield 10, 3) := by decide +kernel
theorem dX4_count_134 : decode (cr_by Y_X4_count) 134 = .ok (.getfield 78, 3) := by decide +kernel
theorem dX4_count_137 : decode (cr_by Y_X4_count) 137 = .ok (.iconst 4, 1) := by decide +kernel
theorem dX4_count_138 : decode (cr_by Y_X4_count) 138 = .ok (.invokevirtual 195, 3) := by decide +kernel
theorem dX4_count_141 : decode (cr_by Y_X4_count) 141 = .ok (.ireturn, 1) := by decide +kernel
theorem dX4_count_142 : decode (cr_by Y_X4_count) 142 = .ok (.aload_n 0, 1) := by decide +kernel
theorem dX4_count_143 : decode (cr_by Y_X4_count) 143 = .ok (.getfield 10, 3) := by decide +kernel
theorem dX4_count_146 : decode (cr_by Y_X4_count) 146 = .ok (.getfield 34, 3) := by decide +kernel
theorem dX4_count_149 : decode (cr_by Y_X4_count) 149 = .ok (.invokevirtual 198, 3) := by decide +kernel
theorem dX4_count_152 : decode (cr_by Y_X4_count) 152 = .ok (.ireturn, 1) := by decide +kernel
theorem dX4_count_153 : decode (cr_by Y_X4_count) 153 = .ok (.iload_n 1, 1) := by decide +kernel
theorem dX4_count_154 : decode (cr_by Y_X4_count) 154 = .ok (.bipush 10, 2) := by decide +kernel
theorem dX4_count_156 : decode (cr_by Y_X4_count) 156 = .ok (.if_icmp .le 21, 3) := by decide +kernel
theorem dX4_count_159 : decode (cr_by Y_X4_count) 159 = .ok (.iload_n 1, 1) := by decide +kernel
theorem dX4_count_160 : decode (cr_by Y_X4_count) 160 = .ok (.bipush 16, 2) := by decide +kernel
theorem dX4_count_162 : decode (cr_by Y_X4_count) 162 = .ok (.if_icmp .gt 15, 3) := by decide +kernel
theorem dX4_count_165 : decode (cr_by Y_X4_count) 165 = .ok (.aload_n 0, 1) := by decide +kernel
theorem dX4_count_166 : decode (cr_by Y_X4_count) 166 = .ok (.getfield 26, 3) := by decide +kernel
theorem dX4_count_169 : decode (cr_by Y_X4_count) 169 = .ok (.iload_n 1, 1) := by decide +kernel
theorem dX4_count_170 : decode (cr_by Y_X4_count) 170 = .ok (.bipush 10, 2) := by decide +kernel
theorem dX4_count_172 : decode (cr_by Y_X4_count) 172 = .ok (.isub, 1) := by decide +kernel
theorem dX4_count_173 : decode (cr_by Y_X4_count) 173 = .ok (.iaload, 1) := by decide +kernel
theorem dX4_count_174 : decode (cr_by Y_X4_count) 174 = .ok (.goto 5, 3) := by decide +kernel
theorem dX4_count_177 : decode (cr_by Y_X4_count) 177 = .ok (.bipush (-9), 2) := by decide +kernel
theorem dX4_count_179 : decode (cr_by Y_X4_count) 179 = .ok (.ireturn, 1) := by decide +kernel
theorem dX4_refuse_0 : decode (cr_by Y_X4_refuse) 0 = .ok (.iload_n 1, 1) := by decide +kernel
theorem dX4_refuse_1 : decode (cr_by Y_X4_refuse) 1 = .ok (.ineg, 1) := by decide +kernel
theorem dX4_refuse_2 : decode (cr_by Y_X4_refuse) 2 = .ok (.istore_n 2, 1) := by decide +kernel
theorem dX4_refuse_3 : decode (cr_by Y_X4_refuse) 3 = .ok (.iload_n 2, 1) := by decide +kernel
theorem dX4_refuse_4 : decode (cr_by Y_X4_refuse) 4 = .ok (.iconst 1, 1) := by decide +kernel
theorem dX4_refuse_5 : decode (cr_by Y_X4_refuse) 5 = .ok (.if_icmp .lt 19, 3) := by decide +kernel
theorem dX4_refuse_8 : decode (cr_by Y_X4_refuse) 8 = .ok (.iload_n 2, 1) := by decide +kernel
theorem dX4_refuse_9 : decode (cr_by Y_X4_refuse) 9 = .ok (.bipush 6, 2) := by decide +kernel
theorem dX4_refuse_11 : decode (cr_by Y_X4_refuse) 11 = .ok (.if_icmp .gt 13, 3) := by decide +kernel
theorem dX4_refuse_14 : decode (cr_by Y_X4_refuse) 14 = .ok (.aload_n 0, 1) := by decide +kernel
theorem dX4_refuse_15 : decode (cr_by Y_X4_refuse) 15 = .ok (.getfield 26, 3) := by decide +kernel
theorem dX4_refuse_18 : decode (cr_by Y_X4_refuse) 18 = .ok (.iload_n 2, 1) := by decide +kernel
theorem dX4_refuse_19 : decode (cr_by Y_X4_refuse) 19 = .ok (.dup2, 1) := by decide +kernel
theorem dX4_refuse_20 : decode (cr_by Y_X4_refuse) 20 = .ok (.iaload, 1) := by decide +kernel
theorem dX4_refuse_21 : decode (cr_by Y_X4_refuse) 21 = .ok (.iconst 1, 1) := by decide +kernel
theorem dX4_refuse_22 : decode (cr_by Y_X4_refuse) 22 = .ok (.iadd, 1) := by decide +kernel
theorem dX4_refuse_23 : decode (cr_by Y_X4_refuse) 23 = .ok (.iastore, 1) := by decide +kernel
theorem dX4_refuse_24 : decode (cr_by Y_X4_refuse) 24 = .ok (.iload_n 1, 1) := by decide +kernel
theorem dX4_refuse_25 : decode (cr_by Y_X4_refuse) 25 = .ok (.ireturn, 1) := by decide +kernel
theorem dX4_notWaiting_0 : decode (cr_by Y_X4_notWaiting) 0 = .ok (.aload_n 0, 1) := by decide +kernel
theorem dX4_notWaiting_1 : decode (cr_by Y_X4_notWaiting) 1 = .ok (.getfield 10, 3) := by decide +kernel
theorem dX4_notWaiting_4 : decode (cr_by Y_X4_notWaiting) 4 = .ok (.getfield 78, 3) := by decide +kernel
theorem dX4_notWaiting_7 : decode (cr_by Y_X4_notWaiting) 7 = .ok (.iload_n 1, 1) := by decide +kernel
theorem dX4_notWaiting_8 : decode (cr_by Y_X4_notWaiting) 8 = .ok (.invokevirtual 106, 3) := by decide +kernel
theorem dX4_notWaiting_11 : decode (cr_by Y_X4_notWaiting) 11 = .ok (.ifCond .ne 5, 3) := by decide +kernel
theorem dX4_notWaiting_14 : decode (cr_by Y_X4_notWaiting) 14 = .ok (.iconst (-1), 1) := by decide +kernel
theorem dX4_notWaiting_15 : decode (cr_by Y_X4_notWaiting) 15 = .ok (.ireturn, 1) := by decide +kernel
theorem dX4_notWaiting_16 : decode (cr_by Y_X4_notWaiting) 16 = .ok (.aload_n 0, 1) := by decide +kernel
theorem dX4_notWaiting_17 : decode (cr_by Y_X4_notWaiting) 17 = .ok (.getfield 10, 3) := by decide +kernel
theorem dX4_notWaiting_20 : decode (cr_by Y_X4_notWaiting) 20 = .ok (.getfield 78, 3) := by decide +kernel
theorem dX4_notWaiting_23 : decode (cr_by Y_X4_notWaiting) 23 = .ok (.getfield 107, 3) := by decide +kernel
theorem dX4_notWaiting_26 : decode (cr_by Y_X4_notWaiting) 26 = .ok (.iload_n 1, 1) := by decide +kernel
theorem dX4_notWaiting_27 : decode (cr_by Y_X4_notWaiting) 27 = .ok (.iaload, 1) := by decide +kernel
theorem dX4_notWaiting_28 : decode (cr_by Y_X4_notWaiting) 28 = .ok (.ifCond .ne 7, 3) := by decide +kernel
theorem dX4_notWaiting_31 : decode (cr_by Y_X4_notWaiting) 31 = .ok (.iconst 0, 1) := by decide +kernel
theorem dX4_notWaiting_32 : decode (cr_by Y_X4_notWaiting) 32 = .ok (.goto 5, 3) := by decide +kernel
theorem dX4_notWaiting_35 : decode (cr_by Y_X4_notWaiting) 35 = .ok (.bipush (-2), 2) := by decide +kernel
theorem dX4_notWaiting_37 : decode (cr_by Y_X4_notWaiting) 37 = .ok (.ireturn, 1) := by decide +kernel
theorem dX4_helperIfGivenNow_0 : decode (cr_by Y_X4_helperIfGivenNow) 0 = .ok (.aload_n 0, 1) := by decide +kernel
theorem dX4_helperIfGivenNow_1 : decode (cr_by Y_X4_helperIfGivenNow) 1 = .ok (.getfield 16, 3) := by decide +kernel
theorem dX4_helperIfGivenNow_4 : decode (cr_by Y_X4_helperIfGivenNow) 4 = .ok (.aload_n 0, 1) := by decide +kernel
theorem dX4_helperIfGivenNow_5 : decode (cr_by Y_X4_helperIfGivenNow) 5 = .ok (.getfield 10, 3) := by decide +kernel
theorem dX4_helperIfGivenNow_8 : decode (cr_by Y_X4_helperIfGivenNow) 8 = .ok (.invokevirtual 129, 3) := by decide +kernel
theorem dX4_helperIfGivenNow_11 : decode (cr_by Y_X4_helperIfGivenNow) 11 = .ok (.aload_n 0, 1) := by decide +kernel
theorem dX4_helperIfGivenNow_12 : decode (cr_by Y_X4_helperIfGivenNow) 12 = .ok (.getfield 16, 3) := by decide +kernel
theorem dX4_helperIfGivenNow_15 : decode (cr_by Y_X4_helperIfGivenNow) 15 = .ok (.invokevirtual 202, 3) := by decide +kernel
theorem dX4_helperIfGivenNow_18 : decode (cr_by Y_X4_helperIfGivenNow) 18 = .ok (.aload_n 0, 1) := by decide +kernel
theorem dX4_helperIfGivenNow_19 : decode (cr_by Y_X4_helperIfGivenNow) 19 = .ok (.getfield 16, 3) := by decide +kernel
theorem dX4_helperIfGivenNow_22 : decode (cr_by Y_X4_helperIfGivenNow) 22 = .ok (.getfield 78, 3) := by decide +kernel
theorem dX4_helperIfGivenNow_25 : decode (cr_by Y_X4_helperIfGivenNow) 25 = .ok (.getfield 108, 3) := by decide +kernel
theorem dX4_helperIfGivenNow_28 : decode (cr_by Y_X4_helperIfGivenNow) 28 = .ok (.iload_n 1, 1) := by decide +kernel
theorem dX4_helperIfGivenNow_29 : decode (cr_by Y_X4_helperIfGivenNow) 29 = .ok (.iaload, 1) := by decide +kernel
theorem dX4_helperIfGivenNow_30 : decode (cr_by Y_X4_helperIfGivenNow) 30 = .ok (.ireturn, 1) := by decide +kernel
theorem dX4_isSort_0 : decode (cr_by Y_X4_isSort) 0 = .ok (.iload_n 0, 1) := by decide +kernel
theorem dX4_isSort_1 : decode (cr_by Y_X4_isSort) 1 = .ok (.ifCond .lt 12, 3) := by decide +kernel
theorem dX4_isSort_4 : decode (cr_by Y_X4_isSort) 4 = .ok (.iload_n 0, 1) := by decide +kernel
theorem dX4_isSort_5 : decode (cr_by Y_X4_isSort) 5 = .ok (.iconst 4, 1) := by decide +kernel
theorem dX4_isSort_6 : decode (cr_by Y_X4_isSort) 6 = .ok (.if_icmp .ge 7, 3) := by decide +kernel
theorem dX4_isSort_9 : decode (cr_by Y_X4_isSort) 9 = .ok (.iconst 1, 1) := by decide +kernel
theorem dX4_isSort_10 : decode (cr_by Y_X4_isSort) 10 = .ok (.goto 4, 3) := by decide +kernel
theorem dX4_isSort_13 : decode (cr_by Y_X4_isSort) 13 = .ok (.iconst 0, 1) := by decide +kernel
theorem dX4_isSort_14 : decode (cr_by Y_X4_isSort) 14 = .ok (.ireturn, 1) := by decide +kernel
theorem dX4_isQuarter_0 : decode (cr_by Y_X4_isQuarter) 0 = .ok (.iload_n 0, 1) := by decide +kernel
theorem dX4_isQuarter_1 : decode (cr_by Y_X4_isQuarter) 1 = .ok (.ifCond .lt 13, 3) := by decide +kernel
theorem dX4_isQuarter_4 : decode (cr_by Y_X4_isQuarter) 4 = .ok (.iload_n 0, 1) := by decide +kernel
theorem dX4_isQuarter_5 : decode (cr_by Y_X4_isQuarter) 5 = .ok (.bipush 16, 2) := by decide +kernel
theorem dX4_isQuarter_7 : decode (cr_by Y_X4_isQuarter) 7 = .ok (.if_icmp .ge 7, 3) := by decide +kernel
theorem dX4_isQuarter_10 : decode (cr_by Y_X4_isQuarter) 10 = .ok (.iconst 1, 1) := by decide +kernel
theorem dX4_isQuarter_11 : decode (cr_by Y_X4_isQuarter) 11 = .ok (.goto 4, 3) := by decide +kernel
theorem dX4_isQuarter_14 : decode (cr_by Y_X4_isQuarter) 14 = .ok (.iconst 0, 1) := by decide +kernel
theorem dX4_isQuarter_15 : decode (cr_by Y_X4_isQuarter) 15 = .ok (.ireturn, 1) := by decide +kernel
theorem dX4_outside_0 : decode (cr_by Y_X4_outside) 0 = .ok (.iload_n 0, 1) := by decide +kernel
theorem dX4_outside_1 : decode (cr_by Y_X4_outside) 1 = .ok (.iload_n 1, 1) := by decide +kernel
theorem dX4_outside_2 : decode (cr_by Y_X4_outside) 2 = .ok (.if_icmp .ge 6, 3) := by decide +kernel
theorem dX4_outside_5 : decode (cr_by Y_X4_outside) 5 = .ok (.bipush (-4), 2) := by decide +kernel
theorem dX4_outside_7 : decode (cr_by Y_X4_outside) 7 = .ok (.ireturn, 1) := by decide +kernel
theorem dX4_outside_8 : decode (cr_by Y_X4_outside) 8 = .ok (.iload_n 0, 1) := by decide +kernel
theorem dX4_outside_9 : decode (cr_by Y_X4_outside) 9 = .ok (.iload_n 2, 1) := by decide +kernel
theorem dX4_outside_10 : decode (cr_by Y_X4_outside) 10 = .ok (.if_icmp .le 8, 3) := by decide +kernel
theorem dX4_outside_13 : decode (cr_by Y_X4_outside) 13 = .ok (.bipush (-6), 2) := by decide +kernel
theorem dX4_outside_15 : decode (cr_by Y_X4_outside) 15 = .ok (.goto 4, 3) := by decide +kernel
theorem dX4_outside_18 : decode (cr_by Y_X4_outside) 18 = .ok (.iconst 0, 1) := by decide +kernel
theorem dX4_outside_19 : decode (cr_by Y_X4_outside) 19 = .ok (.ireturn, 1) := by decide +kernel
theorem dX4_lossWithOneMore_0 : decode (cr_by Y_X4_lossWithOneMore) 0 = .ok (.iload_n 2, 1) := by decide +kernel
theorem dX4_lossWithOneMore_1 : decode (cr_by Y_X4_lossWithOneMore) 1 = .ok (.i2l, 1) := by decide +kernel
theorem dX4_lossWithOneMore_2 : decode (cr_by Y_X4_lossWithOneMore) 2 = .ok (.lload_n 0, 1) := by decide +kernel
theorem dX4_lossWithOneMore_3 : decode (cr_by Y_X4_lossWithOneMore) 3 = .ok (.lmul, 1) := by decide +kernel
theorem dX4_lossWithOneMore_4 : decode (cr_by Y_X4_lossWithOneMore) 4 = .ok (.lstore 4, 2) := by decide +kernel
theorem dX4_lossWithOneMore_6 : decode (cr_by Y_X4_lossWithOneMore) 6 = .ok (.ldc2_w 205, 3) := by decide +kernel
theorem dX4_lossWithOneMore_9 : decode (cr_by Y_X4_lossWithOneMore) 9 = .ok (.iload_n 3, 1) := by decide +kernel
theorem dX4_lossWithOneMore_10 : decode (cr_by Y_X4_lossWithOneMore) 10 = .ok (.i2l, 1) := by decide +kernel
theorem dX4_lossWithOneMore_11 : decode (cr_by Y_X4_lossWithOneMore) 11 = .ok (.lmul, 1) := by decide +kernel
theorem dX4_lossWithOneMore_12 : decode (cr_by Y_X4_lossWithOneMore) 12 = .ok (.ldc2_w 145, 3) := by decide +kernel
theorem dX4_lossWithOneMore_15 : decode (cr_by Y_X4_lossWithOneMore) 15 = .ok (.lmul, 1) := by decide +kernel
theorem dX4_lossWithOneMore_16 : decode (cr_by Y_X4_lossWithOneMore) 16 = .ok (.lload 4, 2) := by decide +kernel
theorem dX4_lossWithOneMore_18 : decode (cr_by Y_X4_lossWithOneMore) 18 = .ok (.ladd, 1) := by decide +kernel
theorem dX4_lossWithOneMore_19 : decode (cr_by Y_X4_lossWithOneMore) 19 = .ok (.lstore 6, 2) := by decide +kernel
theorem dX4_lossWithOneMore_21 : decode (cr_by Y_X4_lossWithOneMore) 21 = .ok (.lload 6, 2) := by decide +kernel
theorem dX4_lossWithOneMore_23 : decode (cr_by Y_X4_lossWithOneMore) 23 = .ok (.lconst 0, 1) := by decide +kernel
theorem dX4_lossWithOneMore_24 : decode (cr_by Y_X4_lossWithOneMore) 24 = .ok (.lcmp, 1) := by decide +kernel
theorem dX4_lossWithOneMore_25 : decode (cr_by Y_X4_lossWithOneMore) 25 = .ok (.ifCond .gt 7, 3) := by decide +kernel
theorem dX4_lossWithOneMore_28 : decode (cr_by Y_X4_lossWithOneMore) 28 = .ok (.lconst 0, 1) := by decide +kernel
theorem dX4_lossWithOneMore_29 : decode (cr_by Y_X4_lossWithOneMore) 29 = .ok (.goto 12, 3) := by decide +kernel
theorem dX4_lossWithOneMore_32 : decode (cr_by Y_X4_lossWithOneMore) 32 = .ok (.lload 4, 2) := by decide +kernel
theorem dX4_lossWithOneMore_34 : decode (cr_by Y_X4_lossWithOneMore) 34 = .ok (.ldc2_w 145, 3) := by decide +kernel
theorem dX4_lossWithOneMore_37 : decode (cr_by Y_X4_lossWithOneMore) 37 = .ok (.lmul, 1) := by decide +kernel
theorem dX4_lossWithOneMore_38 : decode (cr_by Y_X4_lossWithOneMore) 38 = .ok (.lload 6, 2) := by decide +kernel
theorem dX4_lossWithOneMore_40 : decode (cr_by Y_X4_lossWithOneMore) 40 = .ok (.ldiv, 1) := by decide +kernel
theorem dX4_lossWithOneMore_41 : decode (cr_by Y_X4_lossWithOneMore) 41 = .ok (.lreturn, 1) := by decide +kernel
end
section
theorem dX5_refuse_0 : decode (cr_by Y_X5_refuse) 0 = .ok (.aload_n 0, 1) := by decide +kernel
theorem dX5_refuse_1 : decode (cr_by Y_X5_refuse) 1 = .ok (.getfield 7, 3) := by decide +kernel
theorem dX5_refuse_4 : decode (cr_by Y_X5_refuse) 4 = .ok (.iload_n 1, 1) := by decide +kernel
theorem dX5_refuse_5 : decode (cr_by Y_X5_refuse) 5 = .ok (.ineg, 1) := by decide +kernel
theorem dX5_refuse_6 : decode (cr_by Y_X5_refuse) 6 = .ok (.dup2, 1) := by decide +kernel
theorem dX5_refuse_7 : decode (cr_by Y_X5_refuse) 7 = .ok (.iaload, 1) := by decide +kernel
theorem dX5_refuse_8 : decode (cr_by Y_X5_refuse) 8 = .ok (.iconst 1, 1) := by decide +kernel
theorem dX5_refuse_9 : decode (cr_by Y_X5_refuse) 9 = .ok (.iadd, 1) := by decide +kernel
theorem dX5_refuse_10 : decode (cr_by Y_X5_refuse) 10 = .ok (.iastore, 1) := by decide +kernel
theorem dX5_refuse_11 : decode (cr_by Y_X5_refuse) 11 = .ok (.iload_n 1, 1) := by decide +kernel
theorem dX5_refuse_12 : decode (cr_by Y_X5_refuse) 12 = .ok (.ireturn, 1) := by decide +kernel
theorem dX5_isIn_0 : decode (cr_by Y_X5_isIn) 0 = .ok (.iload_n 0, 1) := by decide +kernel
theorem dX5_isIn_1 : decode (cr_by Y_X5_isIn) 1 = .ok (.ifCond .lt 12, 3) := by decide +kernel
theorem dX5_isIn_4 : decode (cr_by Y_X5_isIn) 4 = .ok (.iload_n 0, 1) := by decide +kernel
theorem dX5_isIn_5 : decode (cr_by Y_X5_isIn) 5 = .ok (.iload_n 1, 1) := by decide +kernel
theorem dX5_isIn_6 : decode (cr_by Y_X5_isIn) 6 = .ok (.if_icmp .ge 7, 3) := by decide +kernel
theorem dX5_isIn_9 : decode (cr_by Y_X5_isIn) 9 = .ok (.iconst 1, 1) := by decide +kernel
theorem dX5_isIn_10 : decode (cr_by Y_X5_isIn) 10 = .ok (.goto 4, 3) := by decide +kernel
theorem dX5_isIn_13 : decode (cr_by Y_X5_isIn) 13 = .ok (.iconst 0, 1) := by decide +kernel
theorem dX5_isIn_14 : decode (cr_by Y_X5_isIn) 14 = .ok (.ireturn, 1) := by decide +kernel
theorem dX5_gradeOf_0 : decode (cr_by Y_X5_gradeOf) 0 = .ok (.aload_n 0, 1) := by decide +kernel
theorem dX5_gradeOf_1 : decode (cr_by Y_X5_gradeOf) 1 = .ok (.getfield 23, 3) := by decide +kernel
theorem dX5_gradeOf_4 : decode (cr_by Y_X5_gradeOf) 4 = .ok (.iconst 4, 1) := by decide +kernel
theorem dX5_gradeOf_5 : decode (cr_by Y_X5_gradeOf) 5 = .ok (.iload_n 1, 1) := by decide +kernel
theorem dX5_gradeOf_6 : decode (cr_by Y_X5_gradeOf) 6 = .ok (.imul, 1) := by decide +kernel
theorem dX5_gradeOf_7 : decode (cr_by Y_X5_gradeOf) 7 = .ok (.iload_n 2, 1) := by decide +kernel
theorem dX5_gradeOf_8 : decode (cr_by Y_X5_gradeOf) 8 = .ok (.iadd, 1) := by decide +kernel
theorem dX5_gradeOf_9 : decode (cr_by Y_X5_gradeOf) 9 = .ok (.iaload, 1) := by decide +kernel
theorem dX5_gradeOf_10 : decode (cr_by Y_X5_gradeOf) 10 = .ok (.ireturn, 1) := by decide +kernel
theorem dX5_helper_0 : decode (cr_by Y_X5_helper) 0 = .ok (.iload_n 1, 1) := by decide +kernel
theorem dX5_helper_1 : decode (cr_by Y_X5_helper) 1 = .ok (.ifCond .ge 10, 3) := by decide +kernel
theorem dX5_helper_4 : decode (cr_by Y_X5_helper) 4 = .ok (.aload_n 0, 1) := by decide +kernel
theorem dX5_helper_5 : decode (cr_by Y_X5_helper) 5 = .ok (.bipush (-4), 2) := by decide +kernel
theorem dX5_helper_7 : decode (cr_by Y_X5_helper) 7 = .ok (.invokevirtual 120, 3) := by decide +kernel
theorem dX5_helper_10 : decode (cr_by Y_X5_helper) 10 = .ok (.ireturn, 1) := by decide +kernel
theorem dX5_helper_11 : decode (cr_by Y_X5_helper) 11 = .ok (.iload_n 1, 1) := by decide +kernel
theorem dX5_helper_12 : decode (cr_by Y_X5_helper) 12 = .ok (.sipush 255, 3) := by decide +kernel
theorem dX5_helper_15 : decode (cr_by Y_X5_helper) 15 = .ok (.if_icmp .gt 12, 3) := by decide +kernel
theorem dX5_helper_18 : decode (cr_by Y_X5_helper) 18 = .ok (.aload_n 0, 1) := by decide +kernel
theorem dX5_helper_19 : decode (cr_by Y_X5_helper) 19 = .ok (.getfield 124, 3) := by decide +kernel
theorem dX5_helper_22 : decode (cr_by Y_X5_helper) 22 = .ok (.bipush 10, 2) := by decide +kernel
theorem dX5_helper_24 : decode (cr_by Y_X5_helper) 24 = .ok (.if_icmp .ne 10, 3) := by decide +kernel
theorem dX5_helper_27 : decode (cr_by Y_X5_helper) 27 = .ok (.aload_n 0, 1) := by decide +kernel
theorem dX5_helper_28 : decode (cr_by Y_X5_helper) 28 = .ok (.bipush (-6), 2) := by decide +kernel
theorem dX5_helper_30 : decode (cr_by Y_X5_helper) 30 = .ok (.invokevirtual 120, 3) := by decide +kernel
theorem dX5_helper_33 : decode (cr_by Y_X5_helper) 33 = .ok (.ireturn, 1) := by decide +kernel
theorem dX5_helper_34 : decode (cr_by Y_X5_helper) 34 = .ok (.iconst 0, 1) := by decide +kernel
theorem dX5_helper_35 : decode (cr_by Y_X5_helper) 35 = .ok (.istore_n 2, 1) := by decide +kernel
theorem dX5_helper_36 : decode (cr_by Y_X5_helper) 36 = .ok (.iload_n 2, 1) := by decide +kernel
theorem dX5_helper_37 : decode (cr_by Y_X5_helper) 37 = .ok (.iconst 4, 1) := by decide +kernel
theorem dX5_helper_38 : decode (cr_by Y_X5_helper) 38 = .ok (.if_icmp .ge 29, 3) := by decide +kernel
theorem dX5_helper_41 : decode (cr_by Y_X5_helper) 41 = .ok (.aload_n 0, 1) := by decide +kernel
theorem dX5_helper_42 : decode (cr_by Y_X5_helper) 42 = .ok (.getfield 23, 3) := by decide +kernel
theorem dX5_helper_45 : decode (cr_by Y_X5_helper) 45 = .ok (.iconst 4, 1) := by decide +kernel
theorem dX5_helper_46 : decode (cr_by Y_X5_helper) 46 = .ok (.aload_n 0, 1) := by decide +kernel
theorem dX5_helper_47 : decode (cr_by Y_X5_helper) 47 = .ok (.getfield 124, 3) := by decide +kernel
theorem dX5_helper_50 : decode (cr_by Y_X5_helper) 50 = .ok (.imul, 1) := by decide +kernel
theorem dX5_helper_51 : decode (cr_by Y_X5_helper) 51 = .ok (.iload_n 2, 1) := by decide +kernel
theorem dX5_helper_52 : decode (cr_by Y_X5_helper) 52 = .ok (.iadd, 1) := by decide +kernel
theorem dX5_helper_53 : decode (cr_by Y_X5_helper) 53 = .ok (.iload_n 1, 1) := by decide +kernel
theorem dX5_helper_54 : decode (cr_by Y_X5_helper) 54 = .ok (.iconst 2, 1) := by decide +kernel
theorem dX5_helper_55 : decode (cr_by Y_X5_helper) 55 = .ok (.iload_n 2, 1) := by decide +kernel
theorem dX5_helper_56 : decode (cr_by Y_X5_helper) 56 = .ok (.imul, 1) := by decide +kernel
theorem dX5_helper_57 : decode (cr_by Y_X5_helper) 57 = .ok (.ishr, 1) := by decide +kernel
theorem dX5_helper_58 : decode (cr_by Y_X5_helper) 58 = .ok (.iconst 3, 1) := by decide +kernel
theorem dX5_helper_59 : decode (cr_by Y_X5_helper) 59 = .ok (.iand, 1) := by decide +kernel
theorem dX5_helper_60 : decode (cr_by Y_X5_helper) 60 = .ok (.iastore, 1) := by decide +kernel
theorem dX5_helper_61 : decode (cr_by Y_X5_helper) 61 = .ok (.iinc 2 1, 3) := by decide +kernel
theorem dX5_helper_64 : decode (cr_by Y_X5_helper) 64 = .ok (.goto (-28), 3) := by decide +kernel
theorem dX5_helper_67 : decode (cr_by Y_X5_helper) 67 = .ok (.aload_n 0, 1) := by decide +kernel
theorem dX5_helper_68 : decode (cr_by Y_X5_helper) 68 = .ok (.getfield 29, 3) := by decide +kernel
theorem dX5_helper_71 : decode (cr_by Y_X5_helper) 71 = .ok (.aload_n 0, 1) := by decide +kernel
theorem dX5_helper_72 : decode (cr_by Y_X5_helper) 72 = .ok (.getfield 124, 3) := by decide +kernel
theorem dX5_helper_75 : decode (cr_by Y_X5_helper) 75 = .ok (.aload_n 0, 1) := by decide +kernel
theorem dX5_helper_76 : decode (cr_by Y_X5_helper) 76 = .ok (.getfield 127, 3) := by decide +kernel
theorem dX5_helper_79 : decode (cr_by Y_X5_helper) 79 = .ok (.iastore, 1) := by decide +kernel
theorem dX5_helper_80 : decode (cr_by Y_X5_helper) 80 = .ok (.aload_n 0, 1) := by decide +kernel
theorem dX5_helper_81 : decode (cr_by Y_X5_helper) 81 = .ok (.dup, 1) := by decide +kernel
theorem dX5_helper_82 : decode (cr_by Y_X5_helper) 82 = .ok (.getfield 124, 3) := by decide +kernel
theorem dX5_helper_85 : decode (cr_by Y_X5_helper) 85 = .ok (.iconst 1, 1) := by decide +kernel
theorem dX5_helper_86 : decode (cr_by Y_X5_helper) 86 = .ok (.iadd, 1) := by decide +kernel
theorem dX5_helper_87 : decode (cr_by Y_X5_helper) 87 = .ok (.putfield 124, 3) := by decide +kernel
theorem dX5_helper_90 : decode (cr_by Y_X5_helper) 90 = .ok (.aload_n 0, 1) := by decide +kernel
theorem dX5_helper_91 : decode (cr_by Y_X5_helper) 91 = .ok (.getfield 124, 3) := by decide +kernel
theorem dX5_helper_94 : decode (cr_by Y_X5_helper) 94 = .ok (.iconst 1, 1) := by decide +kernel
theorem dX5_helper_95 : decode (cr_by Y_X5_helper) 95 = .ok (.isub, 1) := by decide +kernel
theorem dX5_helper_96 : decode (cr_by Y_X5_helper) 96 = .ok (.ireturn, 1) := by decide +kernel
theorem dX5_grade_0 : decode (cr_by Y_X5_grade) 0 = .ok (.iload_n 1, 1) := by decide +kernel
theorem dX5_grade_1 : decode (cr_by Y_X5_grade) 1 = .ok (.aload_n 0, 1) := by decide +kernel
theorem dX5_grade_2 : decode (cr_by Y_X5_grade) 2 = .ok (.getfield 124, 3) := by decide +kernel
theorem dX5_grade_5 : decode (cr_by Y_X5_grade) 5 = .ok (.invokestatic 130, 3) := by decide +kernel
theorem dX5_grade_8 : decode (cr_by Y_X5_grade) 8 = .ok (.ifCond .eq 11, 3) := by decide +kernel
theorem dX5_grade_11 : decode (cr_by Y_X5_grade) 11 = .ok (.iload_n 2, 1) := by decide +kernel
theorem dX5_grade_12 : decode (cr_by Y_X5_grade) 12 = .ok (.iconst 4, 1) := by decide +kernel
theorem dX5_grade_13 : decode (cr_by Y_X5_grade) 13 = .ok (.invokestatic 130, 3) := by decide +kernel
theorem dX5_grade_16 : decode (cr_by Y_X5_grade) 16 = .ok (.ifCond .ne 9, 3) := by decide +kernel
theorem dX5_grade_19 : decode (cr_by Y_X5_grade) 19 = .ok (.aload_n 0, 1) := by decide +kernel
theorem dX5_grade_20 : decode (cr_by Y_X5_grade) 20 = .ok (.iconst (-1), 1) := by decide +kernel
theorem dX5_grade_21 : decode (cr_by Y_X5_grade) 21 = .ok (.invokevirtual 120, 3) := by decide +kernel
theorem dX5_grade_24 : decode (cr_by Y_X5_grade) 24 = .ok (.ireturn, 1) := by decide +kernel
theorem dX5_grade_25 : decode (cr_by Y_X5_grade) 25 = .ok (.iload_n 3, 1) := by decide +kernel
theorem dX5_grade_26 : decode (cr_by Y_X5_grade) 26 = .ok (.ifCond .ge 10, 3) := by decide +kernel
theorem dX5_grade_29 : decode (cr_by Y_X5_grade) 29 = .ok (.aload_n 0, 1) := by decide +kernel
theorem dX5_grade_30 : decode (cr_by Y_X5_grade) 30 = .ok (.bipush (-4), 2) := by decide +kernel
theorem dX5_grade_32 : decode (cr_by Y_X5_grade) 32 = .ok (.invokevirtual 120, 3) := by decide +kernel
theorem dX5_grade_35 : decode (cr_by Y_X5_grade) 35 = .ok (.ireturn, 1) := by decide +kernel
theorem dX5_grade_36 : decode (cr_by Y_X5_grade) 36 = .ok (.iload_n 3, 1) := by decide +kernel
theorem dX5_grade_37 : decode (cr_by Y_X5_grade) 37 = .ok (.iconst 3, 1) := by decide +kernel
theorem dX5_grade_38 : decode (cr_by Y_X5_grade) 38 = .ok (.if_icmp .le 10, 3) := by decide +kernel
theorem dX5_grade_41 : decode (cr_by Y_X5_grade) 41 = .ok (.aload_n 0, 1) := by decide +kernel
theorem dX5_grade_42 : decode (cr_by Y_X5_grade) 42 = .ok (.bipush (-6), 2) := by decide +kernel
theorem dX5_grade_44 : decode (cr_by Y_X5_grade) 44 = .ok (.invokevirtual 120, 3) := by decide +kernel
theorem dX5_grade_47 : decode (cr_by Y_X5_grade) 47 = .ok (.ireturn, 1) := by decide +kernel
theorem dX5_grade_48 : decode (cr_by Y_X5_grade) 48 = .ok (.aload_n 0, 1) := by decide +kernel
theorem dX5_grade_49 : decode (cr_by Y_X5_grade) 49 = .ok (.iload_n 1, 1) := by decide +kernel
theorem dX5_grade_50 : decode (cr_by Y_X5_grade) 50 = .ok (.iload_n 2, 1) := by decide +kernel
theorem dX5_grade_51 : decode (cr_by Y_X5_grade) 51 = .ok (.invokevirtual 134, 3) := by decide +kernel
theorem dX5_grade_54 : decode (cr_by Y_X5_grade) 54 = .ok (.istore 4, 2) := by decide +kernel
theorem dX5_grade_56 : decode (cr_by Y_X5_grade) 56 = .ok (.aload_n 0, 1) := by decide +kernel
theorem dX5_grade_57 : decode (cr_by Y_X5_grade) 57 = .ok (.getfield 23, 3) := by decide +kernel
theorem dX5_grade_60 : decode (cr_by Y_X5_grade) 60 = .ok (.iconst 4, 1) := by decide +kernel
theorem dX5_grade_61 : decode (cr_by Y_X5_grade) 61 = .ok (.iload_n 1, 1) := by decide +kernel
theorem dX5_grade_62 : decode (cr_by Y_X5_grade) 62 = .ok (.imul, 1) := by decide +kernel
theorem dX5_grade_63 : decode (cr_by Y_X5_grade) 63 = .ok (.iload_n 2, 1) := by decide +kernel
theorem dX5_grade_64 : decode (cr_by Y_X5_grade) 64 = .ok (.iadd, 1) := by decide +kernel
theorem dX5_grade_65 : decode (cr_by Y_X5_grade) 65 = .ok (.iload_n 3, 1) := by decide +kernel
theorem dX5_grade_66 : decode (cr_by Y_X5_grade) 66 = .ok (.iastore, 1) := by decide +kernel
theorem dX5_grade_67 : decode (cr_by Y_X5_grade) 67 = .ok (.iload 4, 2) := by decide +kernel
theorem dX5_grade_69 : decode (cr_by Y_X5_grade) 69 = .ok (.ireturn, 1) := by decide +kernel
theorem dX5_becomes_0 : decode (cr_by Y_X5_becomes) 0 = .ok (.aload_n 0, 1) := by decide +kernel
theorem dX5_becomes_1 : decode (cr_by Y_X5_becomes) 1 = .ok (.getfield 26, 3) := by decide +kernel
theorem dX5_becomes_4 : decode (cr_by Y_X5_becomes) 4 = .ok (.iload_n 1, 1) := by decide +kernel
theorem dX5_becomes_5 : decode (cr_by Y_X5_becomes) 5 = .ok (.iload_n 2, 1) := by decide +kernel
theorem dX5_becomes_6 : decode (cr_by Y_X5_becomes) 6 = .ok (.iastore, 1) := by decide +kernel
theorem dX5_becomes_7 : decode (cr_by Y_X5_becomes) 7 = .ok (.aload_n 0, 1) := by decide +kernel
theorem dX5_becomes_8 : decode (cr_by Y_X5_becomes) 8 = .ok (.getfield 29, 3) := by decide +kernel
theorem dX5_becomes_11 : decode (cr_by Y_X5_becomes) 11 = .ok (.iload_n 1, 1) := by decide +kernel
theorem dX5_becomes_12 : decode (cr_by Y_X5_becomes) 12 = .ok (.aload_n 0, 1) := by decide +kernel
theorem dX5_becomes_13 : decode (cr_by Y_X5_becomes) 13 = .ok (.getfield 127, 3) := by decide +kernel
theorem dX5_becomes_16 : decode (cr_by Y_X5_becomes) 16 = .ok (.iastore, 1) := by decide +kernel
theorem dX5_becomes_17 : decode (cr_by Y_X5_becomes) 17 = .ok (.return_, 1) := by decide +kernel
theorem dX5_duty_0 : decode (cr_by Y_X5_duty) 0 = .ok (.iload_n 1, 1) := by decide +kernel
theorem dX5_duty_1 : decode (cr_by Y_X5_duty) 1 = .ok (.aload_n 0, 1) := by decide +kernel
theorem dX5_duty_2 : decode (cr_by Y_X5_duty) 2 = .ok (.getfield 124, 3) := by decide +kernel
theorem dX5_duty_5 : decode (cr_by Y_X5_duty) 5 = .ok (.invokestatic 130, 3) := by decide +kernel
theorem dX5_duty_8 : decode (cr_by Y_X5_duty) 8 = .ok (.ifCond .ne 9, 3) := by decide +kernel
theorem dX5_duty_11 : decode (cr_by Y_X5_duty) 11 = .ok (.aload_n 0, 1) := by decide +kernel
theorem dX5_duty_12 : decode (cr_by Y_X5_duty) 12 = .ok (.iconst (-1), 1) := by decide +kernel
theorem dX5_duty_13 : decode (cr_by Y_X5_duty) 13 = .ok (.invokevirtual 120, 3) := by decide +kernel
theorem dX5_duty_16 : decode (cr_by Y_X5_duty) 16 = .ok (.ireturn, 1) := by decide +kernel
theorem dX5_duty_17 : decode (cr_by Y_X5_duty) 17 = .ok (.aload_n 0, 1) := by decide +kernel
theorem dX5_duty_18 : decode (cr_by Y_X5_duty) 18 = .ok (.getfield 26, 3) := by decide +kernel
theorem dX5_duty_21 : decode (cr_by Y_X5_duty) 21 = .ok (.iload_n 1, 1) := by decide +kernel
theorem dX5_duty_22 : decode (cr_by Y_X5_duty) 22 = .ok (.iaload, 1) := by decide +kernel
theorem dX5_duty_23 : decode (cr_by Y_X5_duty) 23 = .ok (.ifCond .eq 10, 3) := by decide +kernel
theorem dX5_duty_26 : decode (cr_by Y_X5_duty) 26 = .ok (.aload_n 0, 1) := by decide +kernel
theorem dX5_duty_27 : decode (cr_by Y_X5_duty) 27 = .ok (.bipush (-2), 2) := by decide +kernel
theorem dX5_duty_29 : decode (cr_by Y_X5_duty) 29 = .ok (.invokevirtual 120, 3) := by decide +kernel
theorem dX5_duty_32 : decode (cr_by Y_X5_duty) 32 = .ok (.ireturn, 1) := by decide +kernel
theorem dX5_duty_33 : decode (cr_by Y_X5_duty) 33 = .ok (.aload_n 0, 1) := by decide +kernel
theorem dX5_duty_34 : decode (cr_by Y_X5_duty) 34 = .ok (.iload_n 1, 1) := by decide +kernel
theorem dX5_duty_35 : decode (cr_by Y_X5_duty) 35 = .ok (.iconst 1, 1) := by decide +kernel
theorem dX5_duty_36 : decode (cr_by Y_X5_duty) 36 = .ok (.invokevirtual 138, 3) := by decide +kernel
theorem dX5_duty_39 : decode (cr_by Y_X5_duty) 39 = .ok (.iconst 1, 1) := by decide +kernel
theorem dX5_duty_40 : decode (cr_by Y_X5_duty) 40 = .ok (.ireturn, 1) := by decide +kernel
theorem dX5_out_0 : decode (cr_by Y_X5_out) 0 = .ok (.iload_n 1, 1) := by decide +kernel
theorem dX5_out_1 : decode (cr_by Y_X5_out) 1 = .ok (.aload_n 0, 1) := by decide +kernel
theorem dX5_out_2 : decode (cr_by Y_X5_out) 2 = .ok (.getfield 124, 3) := by decide +kernel
theorem dX5_out_5 : decode (cr_by Y_X5_out) 5 = .ok (.invokestatic 130, 3) := by decide +kernel
theorem dX5_out_8 : decode (cr_by Y_X5_out) 8 = .ok (.ifCond .ne 9, 3) := by decide +kernel
theorem dX5_out_11 : decode (cr_by Y_X5_out) 11 = .ok (.aload_n 0, 1) := by decide +kernel
theorem dX5_out_12 : decode (cr_by Y_X5_out) 12 = .ok (.iconst (-1), 1) := by decide +kernel
theorem dX5_out_13 : decode (cr_by Y_X5_out) 13 = .ok (.invokevirtual 120, 3) := by decide +kernel
theorem dX5_out_16 : decode (cr_by Y_X5_out) 16 = .ok (.ireturn, 1) := by decide +kernel
theorem dX5_out_17 : decode (cr_by Y_X5_out) 17 = .ok (.aload_n 0, 1) := by decide +kernel
theorem dX5_out_18 : decode (cr_by Y_X5_out) 18 = .ok (.getfield 26, 3) := by decide +kernel
theorem dX5_out_21 : decode (cr_by Y_X5_out) 21 = .ok (.iload_n 1, 1) := by decide +kernel
theorem dX5_out_22 : decode (cr_by Y_X5_out) 22 = .ok (.iaload, 1) := by decide +kernel
theorem dX5_out_23 : decode (cr_by Y_X5_out) 23 = .ok (.iconst 1, 1) := by decide +kernel
theorem dX5_out_24 : decode (cr_by Y_X5_out) 24 = .ok (.if_icmp .eq 20, 3) := by decide +kernel
theorem dX5_out_27 : decode (cr_by Y_X5_out) 27 = .ok (.aload_n 0, 1) := by decide +kernel
theorem dX5_out_28 : decode (cr_by Y_X5_out) 28 = .ok (.getfield 26, 3) := by decide +kernel
theorem dX5_out_31 : decode (cr_by Y_X5_out) 31 = .ok (.iload_n 1, 1) := by decide +kernel
theorem dX5_out_32 : decode (cr_by Y_X5_out) 32 = .ok (.iaload, 1) := by decide +kernel
theorem dX5_out_33 : decode (cr_by Y_X5_out) 33 = .ok (.iconst 3, 1) := by decide +kernel
theorem dX5_out_34 : decode (cr_by Y_X5_out) 34 = .ok (.if_icmp .eq 10, 3) := by decide +kernel
theorem dX5_out_37 : decode (cr_by Y_X5_out) 37 = .ok (.aload_n 0, 1) := by decide +kernel
theorem dX5_out_38 : decode (cr_by Y_X5_out) 38 = .ok (.bipush (-2), 2) := by decide +kernel
theorem dX5_out_40 : decode (cr_by Y_X5_out) 40 = .ok (.invokevirtual 120, 3) := by decide +kernel
theorem dX5_out_43 : decode (cr_by Y_X5_out) 43 = .ok (.ireturn, 1) := by decide +kernel
theorem dX5_out_44 : decode (cr_by Y_X5_out) 44 = .ok (.aload_n 0, 1) := by decide +kernel
theorem dX5_out_45 : decode (cr_by Y_X5_out) 45 = .ok (.iload_n 1, 1) := by decide +kernel
theorem dX5_out_46 : decode (cr_by Y_X5_out) 46 = .ok (.iconst 0, 1) := by decide +kernel
theorem dX5_out_47 : decode (cr_by Y_X5_out) 47 = .ok (.invokevirtual 138, 3) := by decide +kernel
theorem dX5_out_50 : decode (cr_by Y_X5_out) 50 = .ok (.iconst 1, 1) := by decide +kernel
theorem dX5_out_51 : decode (cr_by Y_X5_out) 51 = .ok (.ireturn, 1) := by decide +kernel
theorem dX5_pause_0 : decode (cr_by Y_X5_pause) 0 = .ok (.iload_n 1, 1) := by decide +kernel
theorem dX5_pause_1 : decode (cr_by Y_X5_pause) 1 = .ok (.aload_n 0, 1) := by decide +kernel
theorem dX5_pause_2 : decode (cr_by Y_X5_pause) 2 = .ok (.getfield 124, 3) := by decide +kernel
theorem dX5_pause_5 : decode (cr_by Y_X5_pause) 5 = .ok (.invokestatic 130, 3) := by decide +kernel
theorem dX5_pause_8 : decode (cr_by Y_X5_pause) 8 = .ok (.ifCond .ne 9, 3) := by decide +kernel
theorem dX5_pause_11 : decode (cr_by Y_X5_pause) 11 = .ok (.aload_n 0, 1) := by decide +kernel
theorem dX5_pause_12 : decode (cr_by Y_X5_pause) 12 = .ok (.iconst (-1), 1) := by decide +kernel
theorem dX5_pause_13 : decode (cr_by Y_X5_pause) 13 = .ok (.invokevirtual 120, 3) := by decide +kernel
theorem dX5_pause_16 : decode (cr_by Y_X5_pause) 16 = .ok (.ireturn, 1) := by decide +kernel
theorem dX5_pause_17 : decode (cr_by Y_X5_pause) 17 = .ok (.aload_n 0, 1) := by decide +kernel
theorem dX5_pause_18 : decode (cr_by Y_X5_pause) 18 = .ok (.getfield 26, 3) := by decide +kernel
theorem dX5_pause_21 : decode (cr_by Y_X5_pause) 21 = .ok (.iload_n 1, 1) := by decide +kernel
theorem dX5_pause_22 : decode (cr_by Y_X5_pause) 22 = .ok (.iaload, 1) := by decide +kernel
theorem dX5_pause_23 : decode (cr_by Y_X5_pause) 23 = .ok (.iconst 1, 1) := by decide +kernel
theorem dX5_pause_24 : decode (cr_by Y_X5_pause) 24 = .ok (.if_icmp .eq 10, 3) := by decide +kernel
theorem dX5_pause_27 : decode (cr_by Y_X5_pause) 27 = .ok (.aload_n 0, 1) := by decide +kernel
theorem dX5_pause_28 : decode (cr_by Y_X5_pause) 28 = .ok (.bipush (-2), 2) := by decide +kernel
theorem dX5_pause_30 : decode (cr_by Y_X5_pause) 30 = .ok (.invokevirtual 120, 3) := by decide +kernel
theorem dX5_pause_33 : decode (cr_by Y_X5_pause) 33 = .ok (.ireturn, 1) := by decide +kernel
theorem dX5_pause_34 : decode (cr_by Y_X5_pause) 34 = .ok (.iload_n 2, 1) := by decide +kernel
theorem dX5_pause_35 : decode (cr_by Y_X5_pause) 35 = .ok (.iconst 1, 1) := by decide +kernel
theorem dX5_pause_36 : decode (cr_by Y_X5_pause) 36 = .ok (.if_icmp .ge 10, 3) := by decide +kernel
theorem dX5_pause_39 : decode (cr_by Y_X5_pause) 39 = .ok (.aload_n 0, 1) := by decide +kernel
theorem dX5_pause_40 : decode (cr_by Y_X5_pause) 40 = .ok (.bipush (-4), 2) := by decide +kernel
theorem dX5_pause_42 : decode (cr_by Y_X5_pause) 42 = .ok (.invokevirtual 120, 3) := by decide +kernel
theorem dX5_pause_45 : decode (cr_by Y_X5_pause) 45 = .ok (.ireturn, 1) := by decide +kernel
theorem dX5_pause_46 : decode (cr_by Y_X5_pause) 46 = .ok (.iload_n 2, 1) := by decide +kernel
theorem dX5_pause_47 : decode (cr_by Y_X5_pause) 47 = .ok (.sipush 5000, 3) := by decide +kernel
theorem dX5_pause_50 : decode (cr_by Y_X5_pause) 50 = .ok (.if_icmp .le 10, 3) := by decide +kernel
theorem dX5_pause_53 : decode (cr_by Y_X5_pause) 53 = .ok (.aload_n 0, 1) := by decide +kernel
theorem dX5_pause_54 : decode (cr_by Y_X5_pause) 54 = .ok (.bipush (-6), 2) := by decide +kernel
theorem dX5_pause_56 : decode (cr_by Y_X5_pause) 56 = .ok (.invokevirtual 120, 3) := by decide +kernel
theorem dX5_pause_59 : decode (cr_by Y_X5_pause) 59 = .ok (.ireturn, 1) := by decide +kernel
theorem dX5_pause_60 : decode (cr_by Y_X5_pause) 60 = .ok (.aload_n 0, 1) := by decide +kernel
theorem dX5_pause_61 : decode (cr_by Y_X5_pause) 61 = .ok (.iload_n 1, 1) := by decide +kernel
theorem dX5_pause_62 : decode (cr_by Y_X5_pause) 62 = .ok (.iconst 3, 1) := by decide +kernel
theorem dX5_pause_63 : decode (cr_by Y_X5_pause) 63 = .ok (.invokevirtual 138, 3) := by decide +kernel
theorem dX5_pause_66 : decode (cr_by Y_X5_pause) 66 = .ok (.aload_n 0, 1) := by decide +kernel
theorem dX5_pause_67 : decode (cr_by Y_X5_pause) 67 = .ok (.getfield 32, 3) := by decide +kernel
theorem dX5_pause_70 : decode (cr_by Y_X5_pause) 70 = .ok (.iload_n 1, 1) := by decide +kernel
theorem dX5_pause_71 : decode (cr_by Y_X5_pause) 71 = .ok (.aload_n 0, 1) := by decide +kernel
theorem dX5_pause_72 : decode (cr_by Y_X5_pause) 72 = .ok (.getfield 127, 3) := by decide +kernel
theorem dX5_pause_75 : decode (cr_by Y_X5_pause) 75 = .ok (.iload_n 2, 1) := by decide +kernel
theorem dX5_pause_76 : decode (cr_by Y_X5_pause) 76 = .ok (.iadd, 1) := by decide +kernel
theorem dX5_pause_77 : decode (cr_by Y_X5_pause) 77 = .ok (.iastore, 1) := by decide +kernel
theorem dX5_pause_78 : decode (cr_by Y_X5_pause) 78 = .ok (.aload_n 0, 1) := by decide +kernel
theorem dX5_pause_79 : decode (cr_by Y_X5_pause) 79 = .ok (.getfield 32, 3) := by decide +kernel
theorem dX5_pause_82 : decode (cr_by Y_X5_pause) 82 = .ok (.iload_n 1, 1) := by decide +kernel
theorem dX5_pause_83 : decode (cr_by Y_X5_pause) 83 = .ok (.iaload, 1) := by decide +kernel
theorem dX5_pause_84 : decode (cr_by Y_X5_pause) 84 = .ok (.ireturn, 1) := by decide +kernel
theorem dX5_call_0 : decode (cr_by Y_X5_call) 0 = .ok (.iload_n 1, 1) := by decide +kernel
theorem dX5_call_1 : decode (cr_by Y_X5_call) 1 = .ok (.iconst 4, 1) := by decide +kernel
theorem dX5_call_2 : decode (cr_by Y_X5_call) 2 = .ok (.invokestatic 130, 3) := by decide +kernel
theorem dX5_call_5 : decode (cr_by Y_X5_call) 5 = .ok (.ifCond .eq 28, 3) := by decide +kernel
theorem dX5_call_8 : decode (cr_by Y_X5_call) 8 = .ok (.iload_n 2, 1) := by decide +kernel
theorem dX5_call_9 : decode (cr_by Y_X5_call) 9 = .ok (.iconst 4, 1) := by decide +kernel
theorem dX5_call_10 : decode (cr_by Y_X5_call) 10 = .ok (.invokestatic 130, 3) := by decide +kernel
theorem dX5_call_13 : decode (cr_by Y_X5_call) 13 = .ok (.ifCond .eq 20, 3) := by decide +kernel
theorem dX5_call_16 : decode (cr_by Y_X5_call) 16 = .ok (.iload_n 1, 1) := by decide +kernel
theorem dX5_call_17 : decode (cr_by Y_X5_call) 17 = .ok (.iconst 1, 1) := by decide +kernel
theorem dX5_call_18 : decode (cr_by Y_X5_call) 18 = .ok (.if_icmp .ne 21, 3) := by decide +kernel
theorem dX5_call_21 : decode (cr_by Y_X5_call) 21 = .ok (.iload 5, 2) := by decide +kernel
theorem dX5_call_23 : decode (cr_by Y_X5_call) 23 = .ok (.aload_n 0, 1) := by decide +kernel
theorem dX5_call_24 : decode (cr_by Y_X5_call) 24 = .ok (.getfield 124, 3) := by decide +kernel
theorem dX5_call_27 : decode (cr_by Y_X5_call) 27 = .ok (.invokestatic 130, 3) := by decide +kernel
theorem dX5_call_30 : decode (cr_by Y_X5_call) 30 = .ok (.ifCond .ne 9, 3) := by decide +kernel
theorem dX5_call_33 : decode (cr_by Y_X5_call) 33 = .ok (.aload_n 0, 1) := by decide +kernel
theorem dX5_call_34 : decode (cr_by Y_X5_call) 34 = .ok (.iconst (-1), 1) := by decide +kernel
theorem dX5_call_35 : decode (cr_by Y_X5_call) 35 = .ok (.invokevirtual 120, 3) := by decide +kernel
theorem dX5_call_38 : decode (cr_by Y_X5_call) 38 = .ok (.ireturn, 1) := by decide +kernel
theorem dX5_call_39 : decode (cr_by Y_X5_call) 39 = .ok (.iload_n 3, 1) := by decide +kernel
theorem dX5_call_40 : decode (cr_by Y_X5_call) 40 = .ok (.iconst 1, 1) := by decide +kernel
theorem dX5_call_41 : decode (cr_by Y_X5_call) 41 = .ok (.if_icmp .lt 8, 3) := by decide +kernel
theorem dX5_call_44 : decode (cr_by Y_X5_call) 44 = .ok (.iload 4, 2) := by decide +kernel
theorem dX5_call_46 : decode (cr_by Y_X5_call) 46 = .ok (.ifCond .ge 10, 3) := by decide +kernel
theorem dX5_call_49 : decode (cr_by Y_X5_call) 49 = .ok (.aload_n 0, 1) := by decide +kernel
theorem dX5_call_50 : decode (cr_by Y_X5_call) 50 = .ok (.bipush (-4), 2) := by decide +kernel
theorem dX5_call_52 : decode (cr_by Y_X5_call) 52 = .ok (.invokevirtual 120, 3) := by decide +kernel
theorem dX5_call_55 : decode (cr_by Y_X5_call) 55 = .ok (.ireturn, 1) := by decide +kernel
theorem dX5_call_56 : decode (cr_by Y_X5_call) 56 = .ok (.iload_n 3, 1) := by decide +kernel
theorem dX5_call_57 : decode (cr_by Y_X5_call) 57 = .ok (.sipush 1000, 3) := by decide +kernel
theorem dX5_call_60 : decode (cr_by Y_X5_call) 60 = .ok (.if_icmp .gt 21, 3) := by decide +kernel
theorem dX5_call_63 : decode (cr_by Y_X5_call) 63 = .ok (.iload 4, 2) := by decide +kernel
theorem dX5_call_65 : decode (cr_by Y_X5_call) 65 = .ok (.sipush 5000, 3) := by decide +kernel
theorem dX5_call_68 : decode (cr_by Y_X5_call) 68 = .ok (.if_icmp .gt 13, 3) := by decide +kernel
theorem dX5_call_71 : decode (cr_by Y_X5_call) 71 = .ok (.aload_n 0, 1) := by decide +kernel
theorem dX5_call_72 : decode (cr_by Y_X5_call) 72 = .ok (.getfield 142, 3) := by decide +kernel
theorem dX5_call_75 : decode (cr_by Y_X5_call) 75 = .ok (.sipush 200, 3) := by decide +kernel
theorem dX5_call_78 : decode (cr_by Y_X5_call) 78 = .ok (.if_icmp .ne 10, 3) := by decide +kernel
theorem dX5_call_81 : decode (cr_by Y_X5_call) 81 = .ok (.aload_n 0, 1) := by decide +kernel
theorem dX5_call_82 : decode (cr_by Y_X5_call) 82 = .ok (.bipush (-6), 2) := by decide +kernel
theorem dX5_call_84 : decode (cr_by Y_X5_call) 84 = .ok (.invokevirtual 120, 3) := by decide +kernel
theorem dX5_call_87 : decode (cr_by Y_X5_call) 87 = .ok (.ireturn, 1) := by decide +kernel
theorem dX5_call_88 : decode (cr_by Y_X5_call) 88 = .ok (.aload_n 0, 1) := by decide +kernel
theorem dX5_call_89 : decode (cr_by Y_X5_call) 89 = .ok (.getfield 142, 3) := by decide +kernel
theorem dX5_call_92 : decode (cr_by Y_X5_call) 92 = .ok (.istore 6, 2) := by decide +kernel
theorem dX5_call_94 : decode (cr_by Y_X5_call) 94 = .ok (.aload_n 0, 1) := by decide +kernel
theorem dX5_call_95 : decode (cr_by Y_X5_call) 95 = .ok (.dup, 1) := by decide +kernel
theorem dX5_call_96 : decode (cr_by Y_X5_call) 96 = .ok (.getfield 142, 3) := by decide +kernel
theorem dX5_call_99 : decode (cr_by Y_X5_call) 99 = .ok (.iconst 1, 1) := by decide +kernel
theorem dX5_call_100 : decode (cr_by Y_X5_call) 100 = .ok (.iadd, 1) := by decide +kernel
theorem dX5_call_101 : decode (cr_by Y_X5_call) 101 = .ok (.putfield 142, 3) := by decide +kernel
theorem dX5_call_104 : decode (cr_by Y_X5_call) 104 = .ok (.aload_n 0, 1) := by decide +kernel
theorem dX5_call_105 : decode (cr_by Y_X5_call) 105 = .ok (.getfield 41, 3) := by decide +kernel
theorem dX5_call_108 : decode (cr_by Y_X5_call) 108 = .ok (.iload 6, 2) := by decide +kernel
theorem dX5_call_110 : decode (cr_by Y_X5_call) 110 = .ok (.iload_n 1, 1) := by decide +kernel
theorem dX5_call_111 : decode (cr_by Y_X5_call) 111 = .ok (.iastore, 1) := by decide +kernel
theorem dX5_call_112 : decode (cr_by Y_X5_call) 112 = .ok (.aload_n 0, 1) := by decide +kernel
theorem dX5_call_113 : decode (cr_by Y_X5_call) 113 = .ok (.getfield 44, 3) := by decide +kernel
theorem dX5_call_116 : decode (cr_by Y_X5_call) 116 = .ok (.iload 6, 2) := by decide +kernel
theorem dX5_call_118 : decode (cr_by Y_X5_call) 118 = .ok (.iload_n 2, 1) := by decide +kernel
theorem dX5_call_119 : decode (cr_by Y_X5_call) 119 = .ok (.iastore, 1) := by decide +kernel
theorem dX5_call_120 : decode (cr_by Y_X5_call) 120 = .ok (.aload_n 0, 1) := by decide +kernel
theorem dX5_call_121 : decode (cr_by Y_X5_call) 121 = .ok (.getfield 47, 3) := by decide +kernel
theorem dX5_call_124 : decode (cr_by Y_X5_call) 124 = .ok (.iload 6, 2) := by decide +kernel
theorem dX5_call_126 : decode (cr_by Y_X5_call) 126 = .ok (.iload_n 3, 1) := by decide +kernel
theorem dX5_call_127 : decode (cr_by Y_X5_call) 127 = .ok (.iastore, 1) := by decide +kernel
theorem dX5_call_128 : decode (cr_by Y_X5_call) 128 = .ok (.aload_n 0, 1) := by decide +kernel
theorem dX5_call_129 : decode (cr_by Y_X5_call) 129 = .ok (.getfield 50, 3) := by decide +kernel
theorem dX5_call_132 : decode (cr_by Y_X5_call) 132 = .ok (.iload 6, 2) := by decide +kernel
theorem dX5_call_134 : decode (cr_by Y_X5_call) 134 = .ok (.iload 4, 2) := by decide +kernel
theorem dX5_call_136 : decode (cr_by Y_X5_call) 136 = .ok (.iastore, 1) := by decide +kernel
theorem dX5_call_137 : decode (cr_by Y_X5_call) 137 = .ok (.aload_n 0, 1) := by decide +kernel
theorem dX5_call_138 : decode (cr_by Y_X5_call) 138 = .ok (.getfield 53, 3) := by decide +kernel
theorem dX5_call_141 : decode (cr_by Y_X5_call) 141 = .ok (.iload 6, 2) := by decide +kernel
theorem dX5_call_143 : decode (cr_by Y_X5_call) 143 = .ok (.aload_n 0, 1) := by decide +kernel
theorem dX5_call_144 : decode (cr_by Y_X5_call) 144 = .ok (.getfield 127, 3) := by decide +kernel
theorem dX5_call_147 : decode (cr_by Y_X5_call) 147 = .ok (.iastore, 1) := by decide +kernel
theorem dX5_call_148 : decode (cr_by Y_X5_call) 148 = .ok (.aload_n 0, 1) := by decide +kernel
theorem dX5_call_149 : decode (cr_by Y_X5_call) 149 = .ok (.getfield 56, 3) := by decide +kernel
theorem dX5_call_152 : decode (cr_by Y_X5_call) 152 = .ok (.iload 6, 2) := by decide +kernel
theorem dX5_call_154 : decode (cr_by Y_X5_call) 154 = .ok (.iload_n 1, 1) := by decide +kernel
theorem dX5_call_155 : decode (cr_by Y_X5_call) 155 = .ok (.iconst 1, 1) := by decide +kernel
theorem dX5_call_156 : decode (cr_by Y_X5_call) 156 = .ok (.if_icmp .ne 8, 3) := by decide +kernel
theorem dX5_call_159 : decode (cr_by Y_X5_call) 159 = .ok (.iload 5, 2) := by decide +kernel
theorem dX5_call_161 : decode (cr_by Y_X5_call) 161 = .ok (.goto 5, 3) := by decide +kernel
theorem dX5_call_164 : decode (cr_by Y_X5_call) 164 = .ok (.bipush (-9), 2) := by decide +kernel
theorem dX5_call_166 : decode (cr_by Y_X5_call) 166 = .ok (.iastore, 1) := by decide +kernel
theorem dX5_call_167 : decode (cr_by Y_X5_call) 167 = .ok (.aload_n 0, 1) := by decide +kernel
theorem dX5_call_168 : decode (cr_by Y_X5_call) 168 = .ok (.getfield 59, 3) := by decide +kernel
theorem dX5_call_171 : decode (cr_by Y_X5_call) 171 = .ok (.iload 6, 2) := by decide +kernel
theorem dX5_call_173 : decode (cr_by Y_X5_call) 173 = .ok (.iconst 0, 1) := by decide +kernel
theorem dX5_call_174 : decode (cr_by Y_X5_call) 174 = .ok (.iastore, 1) := by decide +kernel
theorem dX5_call_175 : decode (cr_by Y_X5_call) 175 = .ok (.aload_n 0, 1) := by decide +kernel
theorem dX5_call_176 : decode (cr_by Y_X5_call) 176 = .ok (.getfield 62, 3) := by decide +kernel
theorem dX5_call_179 : decode (cr_by Y_X5_call) 179 = .ok (.iload 6, 2) := by decide +kernel
theorem dX5_call_181 : decode (cr_by Y_X5_call) 181 = .ok (.aload_n 0, 1) := by decide +kernel
theorem dX5_call_182 : decode (cr_by Y_X5_call) 182 = .ok (.getfield 127, 3) := by decide +kernel
theorem dX5_call_185 : decode (cr_by Y_X5_call) 185 = .ok (.iastore, 1) := by decide +kernel
theorem dX5_call_186 : decode (cr_by Y_X5_call) 186 = .ok (.aload_n 0, 1) := by decide +kernel
theorem dX5_call_187 : decode (cr_by Y_X5_call) 187 = .ok (.getfield 65, 3) := by decide +kernel
theorem dX5_call_190 : decode (cr_by Y_X5_call) 190 = .ok (.iload 6, 2) := by decide +kernel
theorem dX5_call_192 : decode (cr_by Y_X5_call) 192 = .ok (.bipush (-9), 2) := by decide +kernel
theorem dX5_call_194 : decode (cr_by Y_X5_call) 194 = .ok (.iastore, 1) := by decide +kernel
theorem dX5_call_195 : decode (cr_by Y_X5_call) 195 = .ok (.aload_n 0, 1) := by decide +kernel
theorem dX5_call_196 : decode (cr_by Y_X5_call) 196 = .ok (.getfield 68, 3) := by decide +kernel
theorem dX5_call_199 : decode (cr_by Y_X5_call) 199 = .ok (.iload 6, 2) := by decide +kernel
theorem dX5_call_201 : decode (cr_by Y_X5_call) 201 = .ok (.bipush (-9), 2) := by decide +kernel
theorem dX5_call_203 : decode (cr_by Y_X5_call) 203 = .ok (.iastore, 1) := by decide +kernel
theorem dX5_call_204 : decode (cr_by Y_X5_call) 204 = .ok (.aload_n 0, 1) := by decide +kernel
theorem dX5_call_205 : decode (cr_by Y_X5_call) 205 = .ok (.getfield 71, 3) := by decide +kernel
theorem dX5_call_208 : decode (cr_by Y_X5_call) 208 = .ok (.iload 6, 2) := by decide +kernel
theorem dX5_call_210 : decode (cr_by Y_X5_call) 210 = .ok (.bipush (-9), 2) := by decide +kernel
theorem dX5_call_212 : decode (cr_by Y_X5_call) 212 = .ok (.iastore, 1) := by decide +kernel
theorem dX5_call_213 : decode (cr_by Y_X5_call) 213 = .ok (.aload_n 0, 1) := by decide +kernel
theorem dX5_call_214 : decode (cr_by Y_X5_call) 214 = .ok (.getfield 74, 3) := by decide +kernel
theorem dX5_call_217 : decode (cr_by Y_X5_call) 217 = .ok (.iload 6, 2) := by decide +kernel
theorem dX5_call_219 : decode (cr_by Y_X5_call) 219 = .ok (.bipush (-9), 2) := by decide +kernel
theorem dX5_call_221 : decode (cr_by Y_X5_call) 221 = .ok (.iastore, 1) := by decide +kernel
theorem dX5_call_222 : decode (cr_by Y_X5_call) 222 = .ok (.iload 6, 2) := by decide +kernel
theorem dX5_call_224 : decode (cr_by Y_X5_call) 224 = .ok (.ireturn, 1) := by decide +kernel
theorem dX5_rule_0 : decode (cr_by Y_X5_rule) 0 = .ok (.iload_n 1, 1) := by decide +kernel
theorem dX5_rule_1 : decode (cr_by Y_X5_rule) 1 = .ok (.iconst 4, 1) := by decide +kernel
theorem dX5_rule_2 : decode (cr_by Y_X5_rule) 2 = .ok (.invokestatic 130, 3) := by decide +kernel
theorem dX5_rule_5 : decode (cr_by Y_X5_rule) 5 = .ok (.ifCond .ne 9, 3) := by decide +kernel
theorem dX5_rule_8 : decode (cr_by Y_X5_rule) 8 = .ok (.aload_n 0, 1) := by decide +kernel
theorem dX5_rule_9 : decode (cr_by Y_X5_rule) 9 = .ok (.iconst (-1), 1) := by decide +kernel
theorem dX5_rule_10 : decode (cr_by Y_X5_rule) 10 = .ok (.invokevirtual 120, 3) := by decide +kernel
theorem dX5_rule_13 : decode (cr_by Y_X5_rule) 13 = .ok (.ireturn, 1) := by decide +kernel
theorem dX5_rule_14 : decode (cr_by Y_X5_rule) 14 = .ok (.aload_n 0, 1) := by decide +kernel
theorem dX5_rule_15 : decode (cr_by Y_X5_rule) 15 = .ok (.getfield 145, 3) := by decide +kernel
theorem dX5_rule_18 : decode (cr_by Y_X5_rule) 18 = .ok (.istore_n 2, 1) := by decide +kernel
theorem dX5_rule_19 : decode (cr_by Y_X5_rule) 19 = .ok (.aload_n 0, 1) := by decide +kernel
theorem dX5_rule_20 : decode (cr_by Y_X5_rule) 20 = .ok (.iload_n 1, 1) := by decide +kernel
theorem dX5_rule_21 : decode (cr_by Y_X5_rule) 21 = .ok (.putfield 145, 3) := by decide +kernel
theorem dX5_rule_24 : decode (cr_by Y_X5_rule) 24 = .ok (.iload_n 2, 1) := by decide +kernel
theorem dX5_rule_25 : decode (cr_by Y_X5_rule) 25 = .ok (.ireturn, 1) := by decide +kernel
theorem dX5_prefer_0 : decode (cr_by Y_X5_prefer) 0 = .ok (.iload_n 1, 1) := by decide +kernel
theorem dX5_prefer_1 : decode (cr_by Y_X5_prefer) 1 = .ok (.ifCond .ge 10, 3) := by decide +kernel
theorem dX5_prefer_4 : decode (cr_by Y_X5_prefer) 4 = .ok (.aload_n 0, 1) := by decide +kernel
theorem dX5_prefer_5 : decode (cr_by Y_X5_prefer) 5 = .ok (.bipush (-4), 2) := by decide +kernel
theorem dX5_prefer_7 : decode (cr_by Y_X5_prefer) 7 = .ok (.invokevirtual 120, 3) := by decide +kernel
theorem dX5_prefer_10 : decode (cr_by Y_X5_prefer) 10 = .ok (.ireturn, 1) := by decide +kernel
theorem dX5_prefer_11 : decode (cr_by Y_X5_prefer) 11 = .ok (.iload_n 1, 1) := by decide +kernel
theorem dX5_prefer_12 : decode (cr_by Y_X5_prefer) 12 = .ok (.sipush 1000, 3) := by decide +kernel
theorem dX5_prefer_15 : decode (cr_by Y_X5_prefer) 15 = .ok (.if_icmp .le 10, 3) := by decide +kernel
theorem dX5_prefer_18 : decode (cr_by Y_X5_prefer) 18 = .ok (.aload_n 0, 1) := by decide +kernel
theorem dX5_prefer_19 : decode (cr_by Y_X5_prefer) 19 = .ok (.bipush (-6), 2) := by decide +kernel
theorem dX5_prefer_21 : decode (cr_by Y_X5_prefer) 21 = .ok (.invokevirtual 120, 3) := by decide +kernel
theorem dX5_prefer_24 : decode (cr_by Y_X5_prefer) 24 = .ok (.ireturn, 1) := by decide +kernel
theorem dX5_prefer_25 : decode (cr_by Y_X5_prefer) 25 = .ok (.aload_n 0, 1) := by decide +kernel
theorem dX5_prefer_26 : decode (cr_by Y_X5_prefer) 26 = .ok (.getfield 19, 3) := by decide +kernel
theorem dX5_prefer_29 : decode (cr_by Y_X5_prefer) 29 = .ok (.istore_n 2, 1) := by decide +kernel
theorem dX5_prefer_30 : decode (cr_by Y_X5_prefer) 30 = .ok (.aload_n 0, 1) := by decide +kernel
theorem dX5_prefer_31 : decode (cr_by Y_X5_prefer) 31 = .ok (.iload_n 1, 1) := by decide +kernel
theorem dX5_prefer_32 : decode (cr_by Y_X5_prefer) 32 = .ok (.putfield 19, 3) := by decide +kernel
theorem dX5_prefer_35 : decode (cr_by Y_X5_prefer) 35 = .ok (.iload_n 2, 1) := by decide +kernel
theorem dX5_prefer_36 : decode (cr_by Y_X5_prefer) 36 = .ok (.ireturn, 1) := by decide +kernel
theorem dX5_ring_0 : decode (cr_by Y_X5_ring) 0 = .ok (.iload_n 1, 1) := by decide +kernel
theorem dX5_ring_1 : decode (cr_by Y_X5_ring) 1 = .ok (.aload_n 0, 1) := by decide +kernel
theorem dX5_ring_2 : decode (cr_by Y_X5_ring) 2 = .ok (.getfield 142, 3) := by decide +kernel
theorem dX5_ring_5 : decode (cr_by Y_X5_ring) 5 = .ok (.invokestatic 130, 3) := by decide +kernel
theorem dX5_ring_8 : decode (cr_by Y_X5_ring) 8 = .ok (.ifCond .ne 9, 3) := by decide +kernel
theorem dX5_ring_11 : decode (cr_by Y_X5_ring) 11 = .ok (.aload_n 0, 1) := by decide +kernel
theorem dX5_ring_12 : decode (cr_by Y_X5_ring) 12 = .ok (.iconst (-1), 1) := by decide +kernel
theorem dX5_ring_13 : decode (cr_by Y_X5_ring) 13 = .ok (.invokevirtual 120, 3) := by decide +kernel
theorem dX5_ring_16 : decode (cr_by Y_X5_ring) 16 = .ok (.ireturn, 1) := by decide +kernel
theorem dX5_ring_17 : decode (cr_by Y_X5_ring) 17 = .ok (.aload_n 0, 1) := by decide +kernel
theorem dX5_ring_18 : decode (cr_by Y_X5_ring) 18 = .ok (.getfield 59, 3) := by decide +kernel
theorem dX5_ring_21 : decode (cr_by Y_X5_ring) 21 = .ok (.iload_n 1, 1) := by decide +kernel
theorem dX5_ring_22 : decode (cr_by Y_X5_ring) 22 = .ok (.iaload, 1) := by decide +kernel
theorem dX5_ring_23 : decode (cr_by Y_X5_ring) 23 = .ok (.ifCond .eq 10, 3) := by decide +kernel
theorem dX5_ring_26 : decode (cr_by Y_X5_ring) 26 = .ok (.aload_n 0, 1) := by decide +kernel
theorem dX5_ring_27 : decode (cr_by Y_X5_ring) 27 = .ok (.bipush (-2), 2) := by decide +kernel
theorem dX5_ring_29 : decode (cr_by Y_X5_ring) 29 = .ok (.invokevirtual 120, 3) := by decide +kernel
theorem dX5_ring_32 : decode (cr_by Y_X5_ring) 32 = .ok (.ireturn, 1) := by decide +kernel
theorem dX5_ring_33 : decode (cr_by Y_X5_ring) 33 = .ok (.iload_n 2, 1) := by decide +kernel
theorem dX5_ring_34 : decode (cr_by Y_X5_ring) 34 = .ok (.iconst 1, 1) := by decide +kernel
theorem dX5_ring_35 : decode (cr_by Y_X5_ring) 35 = .ok (.if_icmp .ge 10, 3) := by decide +kernel
theorem dX5_ring_38 : decode (cr_by Y_X5_ring) 38 = .ok (.aload_n 0, 1) := by decide +kernel
theorem dX5_ring_39 : decode (cr_by Y_X5_ring) 39 = .ok (.bipush (-4), 2) := by decide +kernel
theorem dX5_ring_41 : decode (cr_by Y_X5_ring) 41 = .ok (.invokevirtual 120, 3) := by decide +kernel
theorem dX5_ring_44 : decode (cr_by Y_X5_ring) 44 = .ok (.ireturn, 1) := by decide +kernel
theorem dX5_ring_45 : decode (cr_by Y_X5_ring) 45 = .ok (.iload_n 2, 1) := by decide +kernel
theorem dX5_ring_46 : decode (cr_by Y_X5_ring) 46 = .ok (.sipush 5000, 3) := by decide +kernel
theorem dX5_ring_49 : decode (cr_by Y_X5_ring) 49 = .ok (.if_icmp .le 10, 3) := by decide +kernel
theorem dX5_ring_52 : decode (cr_by Y_X5_ring) 52 = .ok (.aload_n 0, 1) := by decide +kernel
theorem dX5_ring_53 : decode (cr_by Y_X5_ring) 53 = .ok (.bipush (-6), 2) := by decide +kernel
theorem dX5_ring_55 : decode (cr_by Y_X5_ring) 55 = .ok (.invokevirtual 120, 3) := by decide +kernel
theorem dX5_ring_58 : decode (cr_by Y_X5_ring) 58 = .ok (.ireturn, 1) := by decide +kernel
theorem dX5_ring_59 : decode (cr_by Y_X5_ring) 59 = .ok (.aload_n 0, 1) := by decide +kernel
theorem dX5_ring_60 : decode (cr_by Y_X5_ring) 60 = .ok (.getfield 59, 3) := by decide +kernel
theorem dX5_ring_63 : decode (cr_by Y_X5_ring) 63 = .ok (.iload_n 1, 1) := by decide +kernel
theorem dX5_ring_64 : decode (cr_by Y_X5_ring) 64 = .ok (.iconst 4, 1) := by decide +kernel
theorem dX5_ring_65 : decode (cr_by Y_X5_ring) 65 = .ok (.iastore, 1) := by decide +kernel
theorem dX5_ring_66 : decode (cr_by Y_X5_ring) 66 = .ok (.aload_n 0, 1) := by decide +kernel
theorem dX5_ring_67 : decode (cr_by Y_X5_ring) 67 = .ok (.getfield 68, 3) := by decide +kernel
theorem dX5_ring_70 : decode (cr_by Y_X5_ring) 70 = .ok (.iload_n 1, 1) := by decide +kernel
theorem dX5_ring_71 : decode (cr_by Y_X5_ring) 71 = .ok (.aload_n 0, 1) := by decide +kernel
theorem dX5_ring_72 : decode (cr_by Y_X5_ring) 72 = .ok (.getfield 127, 3) := by decide +kernel
theorem dX5_ring_75 : decode (cr_by Y_X5_ring) 75 = .ok (.iload_n 2, 1) := by decide +kernel
theorem dX5_ring_76 : decode (cr_by Y_X5_ring) 76 = .ok (.iadd, 1) := by decide +kernel
theorem dX5_ring_77 : decode (cr_by Y_X5_ring) 77 = .ok (.iastore, 1) := by decide +kernel
theorem dX5_ring_78 : decode (cr_by Y_X5_ring) 78 = .ok (.aload_n 0, 1) := by decide +kernel
theorem dX5_ring_79 : decode (cr_by Y_X5_ring) 79 = .ok (.getfield 68, 3) := by decide +kernel
theorem dX5_ring_82 : decode (cr_by Y_X5_ring) 82 = .ok (.iload_n 1, 1) := by decide +kernel
theorem dX5_ring_83 : decode (cr_by Y_X5_ring) 83 = .ok (.iaload, 1) := by decide +kernel
theorem dX5_ring_84 : decode (cr_by Y_X5_ring) 84 = .ok (.ireturn, 1) := by decide +kernel
theorem dX5_loses_0 : decode (cr_by Y_X5_loses) 0 = .ok (.aload_n 0, 1) := by decide +kernel
theorem dX5_loses_1 : decode (cr_by Y_X5_loses) 1 = .ok (.getfield 77, 3) := by decide +kernel
theorem dX5_loses_4 : decode (cr_by Y_X5_loses) 4 = .ok (.iload_n 1, 1) := by decide +kernel
theorem dX5_loses_5 : decode (cr_by Y_X5_loses) 5 = .ok (.dup2, 1) := by decide +kernel
theorem dX5_loses_6 : decode (cr_by Y_X5_loses) 6 = .ok (.iaload, 1) := by decide +kernel
theorem dX5_loses_7 : decode (cr_by Y_X5_loses) 7 = .ok (.iconst 1, 1) := by decide +kernel
theorem dX5_loses_8 : decode (cr_by Y_X5_loses) 8 = .ok (.isub, 1) := by decide +kernel
theorem dX5_loses_9 : decode (cr_by Y_X5_loses) 9 = .ok (.iastore, 1) := by decide +kernel
theorem dX5_loses_10 : decode (cr_by Y_X5_loses) 10 = .ok (.aload_n 0, 1) := by decide +kernel
theorem dX5_loses_11 : decode (cr_by Y_X5_loses) 11 = .ok (.iload_n 1, 1) := by decide +kernel
theorem dX5_loses_12 : decode (cr_by Y_X5_loses) 12 = .ok (.aload_n 0, 1) := by decide +kernel
theorem dX5_loses_13 : decode (cr_by Y_X5_loses) 13 = .ok (.getfield 77, 3) := by decide +kernel
theorem dX5_loses_16 : decode (cr_by Y_X5_loses) 16 = .ok (.iload_n 1, 1) := by decide +kernel
theorem dX5_loses_17 : decode (cr_by Y_X5_loses) 17 = .ok (.iaload, 1) := by decide +kernel
theorem dX5_loses_18 : decode (cr_by Y_X5_loses) 18 = .ok (.ifCond .ne 7, 3) := by decide +kernel
theorem dX5_loses_21 : decode (cr_by Y_X5_loses) 21 = .ok (.iconst 1, 1) := by decide +kernel
theorem dX5_loses_22 : decode (cr_by Y_X5_loses) 22 = .ok (.goto 4, 3) := by decide +kernel
theorem dX5_loses_25 : decode (cr_by Y_X5_loses) 25 = .ok (.iconst 2, 1) := by decide +kernel
theorem dX5_loses_26 : decode (cr_by Y_X5_loses) 26 = .ok (.invokevirtual 138, 3) := by decide +kernel
theorem dX5_loses_29 : decode (cr_by Y_X5_loses) 29 = .ok (.return_, 1) := by decide +kernel
theorem dX5_pass_0 : decode (cr_by Y_X5_pass) 0 = .ok (.iload_n 1, 1) := by decide +kernel
theorem dX5_pass_1 : decode (cr_by Y_X5_pass) 1 = .ok (.aload_n 0, 1) := by decide +kernel
theorem dX5_pass_2 : decode (cr_by Y_X5_pass) 2 = .ok (.getfield 142, 3) := by decide +kernel
theorem dX5_pass_5 : decode (cr_by Y_X5_pass) 5 = .ok (.invokestatic 130, 3) := by decide +kernel
theorem dX5_pass_8 : decode (cr_by Y_X5_pass) 8 = .ok (.ifCond .eq 11, 3) := by decide +kernel
theorem dX5_pass_11 : decode (cr_by Y_X5_pass) 11 = .ok (.iload_n 2, 1) := by decide +kernel
theorem dX5_pass_12 : decode (cr_by Y_X5_pass) 12 = .ok (.iconst 4, 1) := by decide +kernel
theorem dX5_pass_13 : decode (cr_by Y_X5_pass) 13 = .ok (.invokestatic 130, 3) := by decide +kernel
theorem dX5_pass_16 : decode (cr_by Y_X5_pass) 16 = .ok (.ifCond .ne 9, 3) := by decide +kernel
theorem dX5_pass_19 : decode (cr_by Y_X5_pass) 19 = .ok (.aload_n 0, 1) := by decide +kernel
theorem dX5_pass_20 : decode (cr_by Y_X5_pass) 20 = .ok (.iconst (-1), 1) := by decide +kernel
theorem dX5_pass_21 : decode (cr_by Y_X5_pass) 21 = .ok (.invokevirtual 120, 3) := by decide +kernel
theorem dX5_pass_24 : decode (cr_by Y_X5_pass) 24 = .ok (.ireturn, 1) := by decide +kernel
theorem dX5_pass_25 : decode (cr_by Y_X5_pass) 25 = .ok (.aload_n 0, 1) := by decide +kernel
theorem dX5_pass_26 : decode (cr_by Y_X5_pass) 26 = .ok (.getfield 59, 3) := by decide +kernel
theorem dX5_pass_29 : decode (cr_by Y_X5_pass) 29 = .ok (.iload_n 1, 1) := by decide +kernel
theorem dX5_pass_30 : decode (cr_by Y_X5_pass) 30 = .ok (.iaload, 1) := by decide +kernel
theorem dX5_pass_31 : decode (cr_by Y_X5_pass) 31 = .ok (.iconst 1, 1) := by decide +kernel
theorem dX5_pass_32 : decode (cr_by Y_X5_pass) 32 = .ok (.if_icmp .eq 10, 3) := by decide +kernel
theorem dX5_pass_35 : decode (cr_by Y_X5_pass) 35 = .ok (.aload_n 0, 1) := by decide +kernel
theorem dX5_pass_36 : decode (cr_by Y_X5_pass) 36 = .ok (.bipush (-2), 2) := by decide +kernel
theorem dX5_pass_38 : decode (cr_by Y_X5_pass) 38 = .ok (.invokevirtual 120, 3) := by decide +kernel
theorem dX5_pass_41 : decode (cr_by Y_X5_pass) 41 = .ok (.ireturn, 1) := by decide +kernel
theorem dX5_pass_42 : decode (cr_by Y_X5_pass) 42 = .ok (.iload_n 3, 1) := by decide +kernel
theorem dX5_pass_43 : decode (cr_by Y_X5_pass) 43 = .ok (.iconst 1, 1) := by decide +kernel
theorem dX5_pass_44 : decode (cr_by Y_X5_pass) 44 = .ok (.if_icmp .ge 10, 3) := by decide +kernel
theorem dX5_pass_47 : decode (cr_by Y_X5_pass) 47 = .ok (.aload_n 0, 1) := by decide +kernel
theorem dX5_pass_48 : decode (cr_by Y_X5_pass) 48 = .ok (.bipush (-4), 2) := by decide +kernel
theorem dX5_pass_50 : decode (cr_by Y_X5_pass) 50 = .ok (.invokevirtual 120, 3) := by decide +kernel
theorem dX5_pass_53 : decode (cr_by Y_X5_pass) 53 = .ok (.ireturn, 1) := by decide +kernel
theorem dX5_pass_54 : decode (cr_by Y_X5_pass) 54 = .ok (.iload_n 3, 1) := by decide +kernel
theorem dX5_pass_55 : decode (cr_by Y_X5_pass) 55 = .ok (.sipush 1000, 3) := by decide +kernel
theorem dX5_pass_58 : decode (cr_by Y_X5_pass) 58 = .ok (.if_icmp .le 10, 3) := by decide +kernel
theorem dX5_pass_61 : decode (cr_by Y_X5_pass) 61 = .ok (.aload_n 0, 1) := by decide +kernel
theorem dX5_pass_62 : decode (cr_by Y_X5_pass) 62 = .ok (.bipush (-6), 2) := by decide +kernel
theorem dX5_pass_64 : decode (cr_by Y_X5_pass) 64 = .ok (.invokevirtual 120, 3) := by decide +kernel
theorem dX5_pass_67 : decode (cr_by Y_X5_pass) 67 = .ok (.ireturn, 1) := by decide +kernel
theorem dX5_pass_68 : decode (cr_by Y_X5_pass) 68 = .ok (.aload_n 0, 1) := by decide +kernel
theorem dX5_pass_69 : decode (cr_by Y_X5_pass) 69 = .ok (.getfield 65, 3) := by decide +kernel
theorem dX5_pass_72 : decode (cr_by Y_X5_pass) 72 = .ok (.iload_n 1, 1) := by decide +kernel
theorem dX5_pass_73 : decode (cr_by Y_X5_pass) 73 = .ok (.iaload, 1) := by decide +kernel
theorem dX5_pass_74 : decode (cr_by Y_X5_pass) 74 = .ok (.istore 4, 2) := by decide +kernel
theorem dX5_pass_76 : decode (cr_by Y_X5_pass) 76 = .ok (.aload_n 0, 1) := by decide +kernel
theorem dX5_pass_77 : decode (cr_by Y_X5_pass) 77 = .ok (.getfield 59, 3) := by decide +kernel
theorem dX5_pass_80 : decode (cr_by Y_X5_pass) 80 = .ok (.iload_n 1, 1) := by decide +kernel
theorem dX5_pass_81 : decode (cr_by Y_X5_pass) 81 = .ok (.iconst 0, 1) := by decide +kernel
theorem dX5_pass_82 : decode (cr_by Y_X5_pass) 82 = .ok (.iastore, 1) := by decide +kernel
theorem dX5_pass_83 : decode (cr_by Y_X5_pass) 83 = .ok (.aload_n 0, 1) := by decide +kernel
theorem dX5_pass_84 : decode (cr_by Y_X5_pass) 84 = .ok (.getfield 44, 3) := by decide +kernel
theorem dX5_pass_87 : decode (cr_by Y_X5_pass) 87 = .ok (.iload_n 1, 1) := by decide +kernel
theorem dX5_pass_88 : decode (cr_by Y_X5_pass) 88 = .ok (.iload_n 2, 1) := by decide +kernel
theorem dX5_pass_89 : decode (cr_by Y_X5_pass) 89 = .ok (.iastore, 1) := by decide +kernel
theorem dX5_pass_90 : decode (cr_by Y_X5_pass) 90 = .ok (.aload_n 0, 1) := by decide +kernel
theorem dX5_pass_91 : decode (cr_by Y_X5_pass) 91 = .ok (.getfield 47, 3) := by decide +kernel
theorem dX5_pass_94 : decode (cr_by Y_X5_pass) 94 = .ok (.iload_n 1, 1) := by decide +kernel
theorem dX5_pass_95 : decode (cr_by Y_X5_pass) 95 = .ok (.iload_n 3, 1) := by decide +kernel
theorem dX5_pass_96 : decode (cr_by Y_X5_pass) 96 = .ok (.iastore, 1) := by decide +kernel
theorem dX5_pass_97 : decode (cr_by Y_X5_pass) 97 = .ok (.aload_n 0, 1) := by decide +kernel
theorem dX5_pass_98 : decode (cr_by Y_X5_pass) 98 = .ok (.getfield 62, 3) := by decide +kernel
theorem dX5_pass_101 : decode (cr_by Y_X5_pass) 101 = .ok (.iload_n 1, 1) := by decide +kernel
theorem dX5_pass_102 : decode (cr_by Y_X5_pass) 102 = .ok (.aload_n 0, 1) := by decide +kernel
theorem dX5_pass_103 : decode (cr_by Y_X5_pass) 103 = .ok (.getfield 127, 3) := by decide +kernel
theorem dX5_pass_106 : decode (cr_by Y_X5_pass) 106 = .ok (.iastore, 1) := by decide +kernel
theorem dX5_pass_107 : decode (cr_by Y_X5_pass) 107 = .ok (.aload_n 0, 1) := by decide +kernel
theorem dX5_pass_108 : decode (cr_by Y_X5_pass) 108 = .ok (.getfield 65, 3) := by decide +kernel
theorem dX5_pass_111 : decode (cr_by Y_X5_pass) 111 = .ok (.iload_n 1, 1) := by decide +kernel
theorem dX5_pass_112 : decode (cr_by Y_X5_pass) 112 = .ok (.bipush (-9), 2) := by decide +kernel
theorem dX5_pass_114 : decode (cr_by Y_X5_pass) 114 = .ok (.iastore, 1) := by decide +kernel
theorem dX5_pass_115 : decode (cr_by Y_X5_pass) 115 = .ok (.aload_n 0, 1) := by decide +kernel
theorem dX5_pass_116 : decode (cr_by Y_X5_pass) 116 = .ok (.getfield 68, 3) := by decide +kernel
theorem dX5_pass_119 : decode (cr_by Y_X5_pass) 119 = .ok (.iload_n 1, 1) := by decide +kernel
theorem dX5_pass_120 : decode (cr_by Y_X5_pass) 120 = .ok (.bipush (-9), 2) := by decide +kernel
theorem dX5_pass_122 : decode (cr_by Y_X5_pass) 122 = .ok (.iastore, 1) := by decide +kernel
theorem dX5_pass_123 : decode (cr_by Y_X5_pass) 123 = .ok (.aload_n 0, 1) := by decide +kernel
theorem dX5_pass_124 : decode (cr_by Y_X5_pass) 124 = .ok (.iload 4, 2) := by decide +kernel
theorem dX5_pass_126 : decode (cr_by Y_X5_pass) 126 = .ok (.invokevirtual 148, 3) := by decide +kernel
theorem dX5_pass_129 : decode (cr_by Y_X5_pass) 129 = .ok (.iload 4, 2) := by decide +kernel
theorem dX5_pass_131 : decode (cr_by Y_X5_pass) 131 = .ok (.ireturn, 1) := by decide +kernel
theorem dX5_leave_0 : decode (cr_by Y_X5_leave) 0 = .ok (.iload_n 1, 1) := by decide +kernel
theorem dX5_leave_1 : decode (cr_by Y_X5_leave) 1 = .ok (.aload_n 0, 1) := by decide +kernel
theorem dX5_leave_2 : decode (cr_by Y_X5_leave) 2 = .ok (.getfield 142, 3) := by decide +kernel
theorem dX5_leave_5 : decode (cr_by Y_X5_leave) 5 = .ok (.invokestatic 130, 3) := by decide +kernel
theorem dX5_leave_8 : decode (cr_by Y_X5_leave) 8 = .ok (.ifCond .ne 9, 3) := by decide +kernel
theorem dX5_leave_11 : decode (cr_by Y_X5_leave) 11 = .ok (.aload_n 0, 1) := by decide +kernel
theorem dX5_leave_12 : decode (cr_by Y_X5_leave) 12 = .ok (.iconst (-1), 1) := by decide +kernel
theorem dX5_leave_13 : decode (cr_by Y_X5_leave) 13 = .ok (.invokevirtual 120, 3) := by decide +kernel
theorem dX5_leave_16 : decode (cr_by Y_X5_leave) 16 = .ok (.ireturn, 1) := by decide +kernel
theorem dX5_leave_17 : decode (cr_by Y_X5_leave) 17 = .ok (.aload_n 0, 1) := by decide +kernel
theorem dX5_leave_18 : decode (cr_by Y_X5_leave) 18 = .ok (.getfield 59, 3) := by decide +kernel
theorem dX5_leave_21 : decode (cr_by Y_X5_leave) 21 = .ok (.iload_n 1, 1) := by decide +kernel
theorem dX5_leave_22 : decode (cr_by Y_X5_leave) 22 = .ok (.iaload, 1) := by decide +kernel
theorem dX5_leave_23 : decode (cr_by Y_X5_leave) 23 = .ok (.ifCond .eq 20, 3) := by decide +kernel
theorem dX5_leave_26 : decode (cr_by Y_X5_leave) 26 = .ok (.aload_n 0, 1) := by decide +kernel
theorem dX5_leave_27 : decode (cr_by Y_X5_leave) 27 = .ok (.getfield 59, 3) := by decide +kernel
theorem dX5_leave_30 : decode (cr_by Y_X5_leave) 30 = .ok (.iload_n 1, 1) := by decide +kernel
theorem dX5_leave_31 : decode (cr_by Y_X5_leave) 31 = .ok (.iaload, 1) := by decide +kernel
theorem dX5_leave_32 : decode (cr_by Y_X5_leave) 32 = .ok (.iconst 4, 1) := by decide +kernel
theorem dX5_leave_33 : decode (cr_by Y_X5_leave) 33 = .ok (.if_icmp .eq 10, 3) := by decide +kernel
theorem dX5_leave_36 : decode (cr_by Y_X5_leave) 36 = .ok (.aload_n 0, 1) := by decide +kernel
theorem dX5_leave_37 : decode (cr_by Y_X5_leave) 37 = .ok (.bipush (-2), 2) := by decide +kernel
theorem dX5_leave_39 : decode (cr_by Y_X5_leave) 39 = .ok (.invokevirtual 120, 3) := by decide +kernel
theorem dX5_leave_42 : decode (cr_by Y_X5_leave) 42 = .ok (.ireturn, 1) := by decide +kernel
theorem dX5_leave_43 : decode (cr_by Y_X5_leave) 43 = .ok (.aload_n 0, 1) := by decide +kernel
theorem dX5_leave_44 : decode (cr_by Y_X5_leave) 44 = .ok (.getfield 59, 3) := by decide +kernel
theorem dX5_leave_47 : decode (cr_by Y_X5_leave) 47 = .ok (.iload_n 1, 1) := by decide +kernel
theorem dX5_leave_48 : decode (cr_by Y_X5_leave) 48 = .ok (.iconst 3, 1) := by decide +kernel
theorem dX5_leave_49 : decode (cr_by Y_X5_leave) 49 = .ok (.iastore, 1) := by decide +kernel
theorem dX5_leave_50 : decode (cr_by Y_X5_leave) 50 = .ok (.aload_n 0, 1) := by decide +kernel
theorem dX5_leave_51 : decode (cr_by Y_X5_leave) 51 = .ok (.getfield 68, 3) := by decide +kernel
theorem dX5_leave_54 : decode (cr_by Y_X5_leave) 54 = .ok (.iload_n 1, 1) := by decide +kernel
theorem dX5_leave_55 : decode (cr_by Y_X5_leave) 55 = .ok (.bipush (-9), 2) := by decide +kernel
theorem dX5_leave_57 : decode (cr_by Y_X5_leave) 57 = .ok (.iastore, 1) := by decide +kernel
theorem dX5_leave_58 : decode (cr_by Y_X5_leave) 58 = .ok (.iconst 1, 1) := by decide +kernel
theorem dX5_leave_59 : decode (cr_by Y_X5_leave) 59 = .ok (.ireturn, 1) := by decide +kernel
theorem dX5_urge_0 : decode (cr_by Y_X5_urge) 0 = .ok (.iload_n 1, 1) := by decide +kernel
theorem dX5_urge_1 : decode (cr_by Y_X5_urge) 1 = .ok (.aload_n 0, 1) := by decide +kernel
theorem dX5_urge_2 : decode (cr_by Y_X5_urge) 2 = .ok (.getfield 142, 3) := by decide +kernel
theorem dX5_urge_5 : decode (cr_by Y_X5_urge) 5 = .ok (.invokestatic 130, 3) := by decide +kernel
theorem dX5_urge_8 : decode (cr_by Y_X5_urge) 8 = .ok (.ifCond .ne 9, 3) := by decide +kernel
theorem dX5_urge_11 : decode (cr_by Y_X5_urge) 11 = .ok (.aload_n 0, 1) := by decide +kernel
theorem dX5_urge_12 : decode (cr_by Y_X5_urge) 12 = .ok (.iconst (-1), 1) := by decide +kernel
theorem dX5_urge_13 : decode (cr_by Y_X5_urge) 13 = .ok (.invokevirtual 120, 3) := by decide +kernel
theorem dX5_urge_16 : decode (cr_by Y_X5_urge) 16 = .ok (.ireturn, 1) := by decide +kernel
theorem dX5_urge_17 : decode (cr_by Y_X5_urge) 17 = .ok (.aload_n 0, 1) := by decide +kernel
theorem dX5_urge_18 : decode (cr_by Y_X5_urge) 18 = .ok (.getfield 59, 3) := by decide +kernel
theorem dX5_urge_21 : decode (cr_by Y_X5_urge) 21 = .ok (.iload_n 1, 1) := by decide +kernel
theorem dX5_urge_22 : decode (cr_by Y_X5_urge) 22 = .ok (.iaload, 1) := by decide +kernel
theorem dX5_urge_23 : decode (cr_by Y_X5_urge) 23 = .ok (.ifCond .ne 23, 3) := by decide +kernel
theorem dX5_urge_26 : decode (cr_by Y_X5_urge) 26 = .ok (.aload_n 0, 1) := by decide +kernel
theorem dX5_urge_27 : decode (cr_by Y_X5_urge) 27 = .ok (.getfield 41, 3) := by decide +kernel
theorem dX5_urge_30 : decode (cr_by Y_X5_urge) 30 = .ok (.iload_n 1, 1) := by decide +kernel
theorem dX5_urge_31 : decode (cr_by Y_X5_urge) 31 = .ok (.iaload, 1) := by decide +kernel
theorem dX5_urge_32 : decode (cr_by Y_X5_urge) 32 = .ok (.iconst 2, 1) := by decide +kernel
theorem dX5_urge_33 : decode (cr_by Y_X5_urge) 33 = .ok (.if_icmp .eq 13, 3) := by decide +kernel
theorem dX5_urge_36 : decode (cr_by Y_X5_urge) 36 = .ok (.aload_n 0, 1) := by decide +kernel
theorem dX5_urge_37 : decode (cr_by Y_X5_urge) 37 = .ok (.getfield 41, 3) := by decide +kernel
theorem dX5_urge_40 : decode (cr_by Y_X5_urge) 40 = .ok (.iload_n 1, 1) := by decide +kernel
theorem dX5_urge_41 : decode (cr_by Y_X5_urge) 41 = .ok (.iaload, 1) := by decide +kernel
theorem dX5_urge_42 : decode (cr_by Y_X5_urge) 42 = .ok (.iconst 3, 1) := by decide +kernel
theorem dX5_urge_43 : decode (cr_by Y_X5_urge) 43 = .ok (.if_icmp .ne 10, 3) := by decide +kernel
theorem dX5_urge_46 : decode (cr_by Y_X5_urge) 46 = .ok (.aload_n 0, 1) := by decide +kernel
theorem dX5_urge_47 : decode (cr_by Y_X5_urge) 47 = .ok (.bipush (-2), 2) := by decide +kernel
theorem dX5_urge_49 : decode (cr_by Y_X5_urge) 49 = .ok (.invokevirtual 120, 3) := by decide +kernel
theorem dX5_urge_52 : decode (cr_by Y_X5_urge) 52 = .ok (.ireturn, 1) := by decide +kernel
theorem dX5_urge_53 : decode (cr_by Y_X5_urge) 53 = .ok (.aload_n 0, 1) := by decide +kernel
theorem dX5_urge_54 : decode (cr_by Y_X5_urge) 54 = .ok (.getfield 41, 3) := by decide +kernel
theorem dX5_urge_57 : decode (cr_by Y_X5_urge) 57 = .ok (.iload_n 1, 1) := by decide +kernel
theorem dX5_urge_58 : decode (cr_by Y_X5_urge) 58 = .ok (.iconst 2, 1) := by decide +kernel
theorem dX5_urge_59 : decode (cr_by Y_X5_urge) 59 = .ok (.iastore, 1) := by decide +kernel
theorem dX5_urge_60 : decode (cr_by Y_X5_urge) 60 = .ok (.aload_n 0, 1) := by decide +kernel
theorem dX5_urge_61 : decode (cr_by Y_X5_urge) 61 = .ok (.getfield 56, 3) := by decide +kernel
theorem dX5_urge_64 : decode (cr_by Y_X5_urge) 64 = .ok (.iload_n 1, 1) := by decide +kernel
theorem dX5_urge_65 : decode (cr_by Y_X5_urge) 65 = .ok (.bipush (-9), 2) := by decide +kernel
theorem dX5_urge_67 : decode (cr_by Y_X5_urge) 67 = .ok (.iastore, 1) := by decide +kernel
theorem dX5_urge_68 : decode (cr_by Y_X5_urge) 68 = .ok (.iconst 1, 1) := by decide +kernel
theorem dX5_urge_69 : decode (cr_by Y_X5_urge) 69 = .ok (.ireturn, 1) := by decide +kernel
theorem dX5_waitedOf_0 : decode (cr_by Y_X5_waitedOf) 0 = .ok (.aload_n 0, 1) := by decide +kernel
theorem dX5_waitedOf_1 : decode (cr_by Y_X5_waitedOf) 1 = .ok (.getfield 127, 3) := by decide +kernel
theorem dX5_waitedOf_4 : decode (cr_by Y_X5_waitedOf) 4 = .ok (.aload_n 0, 1) := by decide +kernel
theorem dX5_waitedOf_5 : decode (cr_by Y_X5_waitedOf) 5 = .ok (.getfield 62, 3) := by decide +kernel
theorem dX5_waitedOf_8 : decode (cr_by Y_X5_waitedOf) 8 = .ok (.iload_n 1, 1) := by decide +kernel
theorem dX5_waitedOf_9 : decode (cr_by Y_X5_waitedOf) 9 = .ok (.iaload, 1) := by decide +kernel
theorem dX5_waitedOf_10 : decode (cr_by Y_X5_waitedOf) 10 = .ok (.isub, 1) := by decide +kernel
theorem dX5_waitedOf_11 : decode (cr_by Y_X5_waitedOf) 11 = .ok (.ireturn, 1) := by decide +kernel
theorem dX5_hasRoom_0 : decode (cr_by Y_X5_hasRoom) 0 = .ok (.aload_n 0, 1) := by decide +kernel
theorem dX5_hasRoom_1 : decode (cr_by Y_X5_hasRoom) 1 = .ok (.getfield 83, 3) := by decide +kernel
theorem dX5_hasRoom_4 : decode (cr_by Y_X5_hasRoom) 4 = .ok (.iload_n 1, 1) := by decide +kernel
theorem dX5_hasRoom_5 : decode (cr_by Y_X5_hasRoom) 5 = .ok (.baload, 1) := by decide +kernel
theorem dX5_hasRoom_6 : decode (cr_by Y_X5_hasRoom) 6 = .ok (.ifCond .eq 17, 3) := by decide +kernel
theorem dX5_hasRoom_9 : decode (cr_by Y_X5_hasRoom) 9 = .ok (.aload_n 0, 1) := by decide +kernel
theorem dX5_hasRoom_10 : decode (cr_by Y_X5_hasRoom) 10 = .ok (.getfield 77, 3) := by decide +kernel
theorem dX5_hasRoom_13 : decode (cr_by Y_X5_hasRoom) 13 = .ok (.iload_n 1, 1) := by decide +kernel
theorem dX5_hasRoom_14 : decode (cr_by Y_X5_hasRoom) 14 = .ok (.iaload, 1) := by decide +kernel
theorem dX5_hasRoom_15 : decode (cr_by Y_X5_hasRoom) 15 = .ok (.iconst 3, 1) := by decide +kernel
theorem dX5_hasRoom_16 : decode (cr_by Y_X5_hasRoom) 16 = .ok (.if_icmp .ge 7, 3) := by decide +kernel
theorem dX5_hasRoom_19 : decode (cr_by Y_X5_hasRoom) 19 = .ok (.iconst 1, 1) := by decide +kernel
theorem dX5_hasRoom_20 : decode (cr_by Y_X5_hasRoom) 20 = .ok (.goto 4, 3) := by decide +kernel
theorem dX5_hasRoom_23 : decode (cr_by Y_X5_hasRoom) 23 = .ok (.iconst 0, 1) := by decide +kernel
theorem dX5_hasRoom_24 : decode (cr_by Y_X5_hasRoom) 24 = .ok (.ireturn, 1) := by decide +kernel
theorem dX5_may_0 : decode (cr_by Y_X5_may) 0 = .ok (.aload_n 0, 1) := by decide +kernel
theorem dX5_may_1 : decode (cr_by Y_X5_may) 1 = .ok (.getfield 59, 3) := by decide +kernel
theorem dX5_may_4 : decode (cr_by Y_X5_may) 4 = .ok (.iload_n 2, 1) := by decide +kernel
theorem dX5_may_5 : decode (cr_by Y_X5_may) 5 = .ok (.iaload, 1) := by decide +kernel
theorem dX5_may_6 : decode (cr_by Y_X5_may) 6 = .ok (.ifCond .ne 17, 3) := by decide +kernel
theorem dX5_may_9 : decode (cr_by Y_X5_may) 9 = .ok (.aload_n 0, 1) := by decide +kernel
theorem dX5_may_10 : decode (cr_by Y_X5_may) 10 = .ok (.iload_n 1, 1) := by decide +kernel
theorem dX5_may_11 : decode (cr_by Y_X5_may) 11 = .ok (.aload_n 0, 1) := by decide +kernel
theorem dX5_may_12 : decode (cr_by Y_X5_may) 12 = .ok (.getfield 44, 3) := by decide +kernel
theorem dX5_may_15 : decode (cr_by Y_X5_may) 15 = .ok (.iload_n 2, 1) := by decide +kernel
theorem dX5_may_16 : decode (cr_by Y_X5_may) 16 = .ok (.iaload, 1) := by decide +kernel
theorem dX5_may_17 : decode (cr_by Y_X5_may) 17 = .ok (.invokevirtual 134, 3) := by decide +kernel
theorem dX5_may_20 : decode (cr_by Y_X5_may) 20 = .ok (.ifCond .ne 5, 3) := by decide +kernel
theorem dX5_may_23 : decode (cr_by Y_X5_may) 23 = .ok (.iconst 0, 1) := by decide +kernel
theorem dX5_may_24 : decode (cr_by Y_X5_may) 24 = .ok (.ireturn, 1) := by decide +kernel
theorem dX5_may_25 : decode (cr_by Y_X5_may) 25 = .ok (.aload_n 0, 1) := by decide +kernel
theorem dX5_may_26 : decode (cr_by Y_X5_may) 26 = .ok (.getfield 26, 3) := by decide +kernel
theorem dX5_may_29 : decode (cr_by Y_X5_may) 29 = .ok (.iload_n 1, 1) := by decide +kernel
theorem dX5_may_30 : decode (cr_by Y_X5_may) 30 = .ok (.iaload, 1) := by decide +kernel
theorem dX5_may_31 : decode (cr_by Y_X5_may) 31 = .ok (.iconst 1, 1) := by decide +kernel
theorem dX5_may_32 : decode (cr_by Y_X5_may) 32 = .ok (.if_icmp .eq 33, 3) := by decide +kernel
theorem dX5_may_35 : decode (cr_by Y_X5_may) 35 = .ok (.aload_n 0, 1) := by decide +kernel
theorem dX5_may_36 : decode (cr_by Y_X5_may) 36 = .ok (.getfield 26, 3) := by decide +kernel
theorem dX5_may_39 : decode (cr_by Y_X5_may) 39 = .ok (.iload_n 1, 1) := by decide +kernel
theorem dX5_may_40 : decode (cr_by Y_X5_may) 40 = .ok (.iaload, 1) := by decide +kernel
theorem dX5_may_41 : decode (cr_by Y_X5_may) 41 = .ok (.iconst 2, 1) := by decide +kernel
theorem dX5_may_42 : decode (cr_by Y_X5_may) 42 = .ok (.if_icmp .ne 21, 3) := by decide +kernel
theorem dX5_may_45 : decode (cr_by Y_X5_may) 45 = .ok (.aload_n 0, 1) := by decide +kernel
theorem dX5_may_46 : decode (cr_by Y_X5_may) 46 = .ok (.getfield 41, 3) := by decide +kernel
theorem dX5_may_49 : decode (cr_by Y_X5_may) 49 = .ok (.iload_n 2, 1) := by decide +kernel
theorem dX5_may_50 : decode (cr_by Y_X5_may) 50 = .ok (.iaload, 1) := by decide +kernel
theorem dX5_may_51 : decode (cr_by Y_X5_may) 51 = .ok (.iconst 3, 1) := by decide +kernel
theorem dX5_may_52 : decode (cr_by Y_X5_may) 52 = .ok (.if_icmp .ne 11, 3) := by decide +kernel
theorem dX5_may_55 : decode (cr_by Y_X5_may) 55 = .ok (.aload_n 0, 1) := by decide +kernel
theorem dX5_may_56 : decode (cr_by Y_X5_may) 56 = .ok (.iload_n 1, 1) := by decide +kernel
theorem dX5_may_57 : decode (cr_by Y_X5_may) 57 = .ok (.invokevirtual 152, 3) := by decide +kernel
theorem dX5_may_60 : decode (cr_by Y_X5_may) 60 = .ok (.ifCond .ne 5, 3) := by decide +kernel
theorem dX5_may_63 : decode (cr_by Y_X5_may) 63 = .ok (.iconst 0, 1) := by decide +kernel
theorem dX5_may_64 : decode (cr_by Y_X5_may) 64 = .ok (.ireturn, 1) := by decide +kernel
theorem dX5_may_65 : decode (cr_by Y_X5_may) 65 = .ok (.aload_n 0, 1) := by decide +kernel
theorem dX5_may_66 : decode (cr_by Y_X5_may) 66 = .ok (.getfield 41, 3) := by decide +kernel
theorem dX5_may_69 : decode (cr_by Y_X5_may) 69 = .ok (.iload_n 2, 1) := by decide +kernel
theorem dX5_may_70 : decode (cr_by Y_X5_may) 70 = .ok (.iaload, 1) := by decide +kernel
theorem dX5_may_71 : decode (cr_by Y_X5_may) 71 = .ok (.iconst 1, 1) := by decide +kernel
theorem dX5_may_72 : decode (cr_by Y_X5_may) 72 = .ok (.if_icmp .ne 25, 3) := by decide +kernel
theorem dX5_may_75 : decode (cr_by Y_X5_may) 75 = .ok (.aload_n 0, 1) := by decide +kernel
theorem dX5_may_76 : decode (cr_by Y_X5_may) 76 = .ok (.iload_n 2, 1) := by decide +kernel
theorem dX5_may_77 : decode (cr_by Y_X5_may) 77 = .ok (.invokevirtual 156, 3) := by decide +kernel
theorem dX5_may_80 : decode (cr_by Y_X5_may) 80 = .ok (.aload_n 0, 1) := by decide +kernel
theorem dX5_may_81 : decode (cr_by Y_X5_may) 81 = .ok (.getfield 19, 3) := by decide +kernel
theorem dX5_may_84 : decode (cr_by Y_X5_may) 84 = .ok (.if_icmp .ge 13, 3) := by decide +kernel
theorem dX5_may_87 : decode (cr_by Y_X5_may) 87 = .ok (.aload_n 0, 1) := by decide +kernel
theorem dX5_may_88 : decode (cr_by Y_X5_may) 88 = .ok (.getfield 56, 3) := by decide +kernel
theorem dX5_may_91 : decode (cr_by Y_X5_may) 91 = .ok (.iload_n 2, 1) := by decide +kernel
theorem dX5_may_92 : decode (cr_by Y_X5_may) 92 = .ok (.iaload, 1) := by decide +kernel
theorem dX5_may_93 : decode (cr_by Y_X5_may) 93 = .ok (.iload_n 1, 1) := by decide +kernel
theorem dX5_may_94 : decode (cr_by Y_X5_may) 94 = .ok (.if_icmp .ne 7, 3) := by decide +kernel
theorem dX5_may_97 : decode (cr_by Y_X5_may) 97 = .ok (.iconst 1, 1) := by decide +kernel
theorem dX5_may_98 : decode (cr_by Y_X5_may) 98 = .ok (.goto 4, 3) := by decide +kernel
theorem dX5_may_101 : decode (cr_by Y_X5_may) 101 = .ok (.iconst 0, 1) := by decide +kernel
theorem dX5_may_102 : decode (cr_by Y_X5_may) 102 = .ok (.ireturn, 1) := by decide +kernel
theorem dX5_isTakeable_0 : decode (cr_by Y_X5_isTakeable) 0 = .ok (.iconst 0, 1) := by decide +kernel
theorem dX5_isTakeable_1 : decode (cr_by Y_X5_isTakeable) 1 = .ok (.istore_n 2, 1) := by decide +kernel
theorem dX5_isTakeable_2 : decode (cr_by Y_X5_isTakeable) 2 = .ok (.iconst 0, 1) := by decide +kernel
theorem dX5_isTakeable_3 : decode (cr_by Y_X5_isTakeable) 3 = .ok (.istore_n 3, 1) := by decide +kernel
theorem dX5_isTakeable_4 : decode (cr_by Y_X5_isTakeable) 4 = .ok (.iload_n 3, 1) := by decide +kernel
theorem dX5_isTakeable_5 : decode (cr_by Y_X5_isTakeable) 5 = .ok (.aload_n 0, 1) := by decide +kernel
theorem dX5_isTakeable_6 : decode (cr_by Y_X5_isTakeable) 6 = .ok (.getfield 124, 3) := by decide +kernel
theorem dX5_isTakeable_9 : decode (cr_by Y_X5_isTakeable) 9 = .ok (.if_icmp .ge 20, 3) := by decide +kernel
theorem dX5_isTakeable_12 : decode (cr_by Y_X5_isTakeable) 12 = .ok (.iload_n 2, 1) := by decide +kernel
theorem dX5_isTakeable_13 : decode (cr_by Y_X5_isTakeable) 13 = .ok (.ifCond .ne 16, 3) := by decide +kernel
theorem dX5_isTakeable_16 : decode (cr_by Y_X5_isTakeable) 16 = .ok (.aload_n 0, 1) := by decide +kernel
theorem dX5_isTakeable_17 : decode (cr_by Y_X5_isTakeable) 17 = .ok (.iload_n 3, 1) := by decide +kernel
theorem dX5_isTakeable_18 : decode (cr_by Y_X5_isTakeable) 18 = .ok (.iload_n 1, 1) := by decide +kernel
theorem dX5_isTakeable_19 : decode (cr_by Y_X5_isTakeable) 19 = .ok (.invokevirtual 159, 3) := by decide +kernel
theorem dX5_isTakeable_22 : decode (cr_by Y_X5_isTakeable) 22 = .ok (.istore_n 2, 1) := by decide +kernel
theorem dX5_isTakeable_23 : decode (cr_by Y_X5_isTakeable) 23 = .ok (.iinc 3 1, 3) := by decide +kernel
theorem dX5_isTakeable_26 : decode (cr_by Y_X5_isTakeable) 26 = .ok (.goto (-22), 3) := by decide +kernel
theorem dX5_isTakeable_29 : decode (cr_by Y_X5_isTakeable) 29 = .ok (.iload_n 2, 1) := by decide +kernel
theorem dX5_isTakeable_30 : decode (cr_by Y_X5_isTakeable) 30 = .ok (.ireturn, 1) := by decide +kernel
theorem dX5_freeFor_0 : decode (cr_by Y_X5_freeFor) 0 = .ok (.iconst 0, 1) := by decide +kernel
theorem dX5_freeFor_1 : decode (cr_by Y_X5_freeFor) 1 = .ok (.istore_n 2, 1) := by decide +kernel
theorem dX5_freeFor_2 : decode (cr_by Y_X5_freeFor) 2 = .ok (.iconst 0, 1) := by decide +kernel
theorem dX5_freeFor_3 : decode (cr_by Y_X5_freeFor) 3 = .ok (.istore_n 3, 1) := by decide +kernel
theorem dX5_freeFor_4 : decode (cr_by Y_X5_freeFor) 4 = .ok (.iload_n 3, 1) := by decide +kernel
theorem dX5_freeFor_5 : decode (cr_by Y_X5_freeFor) 5 = .ok (.aload_n 0, 1) := by decide +kernel
theorem dX5_freeFor_6 : decode (cr_by Y_X5_freeFor) 6 = .ok (.getfield 124, 3) := by decide +kernel
theorem dX5_freeFor_9 : decode (cr_by Y_X5_freeFor) 9 = .ok (.if_icmp .ge 36, 3) := by decide +kernel
theorem dX5_freeFor_12 : decode (cr_by Y_X5_freeFor) 12 = .ok (.iload_n 2, 1) := by decide +kernel
theorem dX5_freeFor_13 : decode (cr_by Y_X5_freeFor) 13 = .ok (.aload_n 0, 1) := by decide +kernel
theorem dX5_freeFor_14 : decode (cr_by Y_X5_freeFor) 14 = .ok (.getfield 26, 3) := by decide +kernel
theorem dX5_freeFor_17 : decode (cr_by Y_X5_freeFor) 17 = .ok (.iload_n 3, 1) := by decide +kernel
theorem dX5_freeFor_18 : decode (cr_by Y_X5_freeFor) 18 = .ok (.iaload, 1) := by decide +kernel
theorem dX5_freeFor_19 : decode (cr_by Y_X5_freeFor) 19 = .ok (.iconst 1, 1) := by decide +kernel
theorem dX5_freeFor_20 : decode (cr_by Y_X5_freeFor) 20 = .ok (.if_icmp .ne 16, 3) := by decide +kernel
theorem dX5_freeFor_23 : decode (cr_by Y_X5_freeFor) 23 = .ok (.aload_n 0, 1) := by decide +kernel
theorem dX5_freeFor_24 : decode (cr_by Y_X5_freeFor) 24 = .ok (.iload_n 3, 1) := by decide +kernel
theorem dX5_freeFor_25 : decode (cr_by Y_X5_freeFor) 25 = .ok (.iload_n 1, 1) := by decide +kernel
theorem dX5_freeFor_26 : decode (cr_by Y_X5_freeFor) 26 = .ok (.invokevirtual 134, 3) := by decide +kernel
theorem dX5_freeFor_29 : decode (cr_by Y_X5_freeFor) 29 = .ok (.ifCond .le 7, 3) := by decide +kernel
theorem dX5_freeFor_32 : decode (cr_by Y_X5_freeFor) 32 = .ok (.iconst 1, 1) := by decide +kernel
theorem dX5_freeFor_33 : decode (cr_by Y_X5_freeFor) 33 = .ok (.goto 4, 3) := by decide +kernel
theorem dX5_freeFor_36 : decode (cr_by Y_X5_freeFor) 36 = .ok (.iconst 0, 1) := by decide +kernel
theorem dX5_freeFor_37 : decode (cr_by Y_X5_freeFor) 37 = .ok (.iadd, 1) := by decide +kernel
theorem dX5_freeFor_38 : decode (cr_by Y_X5_freeFor) 38 = .ok (.istore_n 2, 1) := by decide +kernel
theorem dX5_freeFor_39 : decode (cr_by Y_X5_freeFor) 39 = .ok (.iinc 3 1, 3) := by decide +kernel
theorem dX5_freeFor_42 : decode (cr_by Y_X5_freeFor) 42 = .ok (.goto (-38), 3) := by decide +kernel
theorem dX5_freeFor_45 : decode (cr_by Y_X5_freeFor) 45 = .ok (.iload_n 2, 1) := by decide +kernel
theorem dX5_freeFor_46 : decode (cr_by Y_X5_freeFor) 46 = .ok (.ireturn, 1) := by decide +kernel
theorem dX5_rankOf_0 : decode (cr_by Y_X5_rankOf) 0 = .ok (.aload_n 0, 1) := by decide +kernel
theorem dX5_rankOf_1 : decode (cr_by Y_X5_rankOf) 1 = .ok (.getfield 145, 3) := by decide +kernel
theorem dX5_rankOf_4 : decode (cr_by Y_X5_rankOf) 4 = .ok (.tableswitch 68 1 3 #[28, 44, 55], 28) := by decide +kernel
theorem dX5_rankOf_32 : decode (cr_by Y_X5_rankOf) 32 = .ok (.aload_n 0, 1) := by decide +kernel
theorem dX5_rankOf_33 : decode (cr_by Y_X5_rankOf) 33 = .ok (.getfield 41, 3) := by decide +kernel
theorem dX5_rankOf_36 : decode (cr_by Y_X5_rankOf) 36 = .ok (.iload_n 1, 1) := by decide +kernel
theorem dX5_rankOf_37 : decode (cr_by Y_X5_rankOf) 37 = .ok (.iaload, 1) := by decide +kernel
theorem dX5_rankOf_38 : decode (cr_by Y_X5_rankOf) 38 = .ok (.iconst 2, 1) := by decide +kernel
theorem dX5_rankOf_39 : decode (cr_by Y_X5_rankOf) 39 = .ok (.if_icmp .ne 7, 3) := by decide +kernel
theorem dX5_rankOf_42 : decode (cr_by Y_X5_rankOf) 42 = .ok (.iconst 0, 1) := by decide +kernel
theorem dX5_rankOf_43 : decode (cr_by Y_X5_rankOf) 43 = .ok (.goto 4, 3) := by decide +kernel
theorem dX5_rankOf_46 : decode (cr_by Y_X5_rankOf) 46 = .ok (.iconst 1, 1) := by decide +kernel
theorem dX5_rankOf_47 : decode (cr_by Y_X5_rankOf) 47 = .ok (.ireturn, 1) := by decide +kernel
theorem dX5_rankOf_48 : decode (cr_by Y_X5_rankOf) 48 = .ok (.aload_n 0, 1) := by decide +kernel
theorem dX5_rankOf_49 : decode (cr_by Y_X5_rankOf) 49 = .ok (.aload_n 0, 1) := by decide +kernel
theorem dX5_rankOf_50 : decode (cr_by Y_X5_rankOf) 50 = .ok (.getfield 44, 3) := by decide +kernel
theorem dX5_rankOf_53 : decode (cr_by Y_X5_rankOf) 53 = .ok (.iload_n 1, 1) := by decide +kernel
theorem dX5_rankOf_54 : decode (cr_by Y_X5_rankOf) 54 = .ok (.iaload, 1) := by decide +kernel
theorem dX5_rankOf_55 : decode (cr_by Y_X5_rankOf) 55 = .ok (.invokevirtual 162, 3) := by decide +kernel
theorem dX5_rankOf_58 : decode (cr_by Y_X5_rankOf) 58 = .ok (.ireturn, 1) := by decide +kernel
theorem dX5_rankOf_59 : decode (cr_by Y_X5_rankOf) 59 = .ok (.aload_n 0, 1) := by decide +kernel
theorem dX5_rankOf_60 : decode (cr_by Y_X5_rankOf) 60 = .ok (.getfield 50, 3) := by decide +kernel
theorem dX5_rankOf_63 : decode (cr_by Y_X5_rankOf) 63 = .ok (.iload_n 1, 1) := by decide +kernel
theorem dX5_rankOf_64 : decode (cr_by Y_X5_rankOf) 64 = .ok (.iaload, 1) := by decide +kernel
theorem dX5_rankOf_65 : decode (cr_by Y_X5_rankOf) 65 = .ok (.aload_n 0, 1) := by decide +kernel
theorem dX5_rankOf_66 : decode (cr_by Y_X5_rankOf) 66 = .ok (.iload_n 1, 1) := by decide +kernel
theorem dX5_rankOf_67 : decode (cr_by Y_X5_rankOf) 67 = .ok (.invokevirtual 156, 3) := by decide +kernel
theorem dX5_rankOf_70 : decode (cr_by Y_X5_rankOf) 70 = .ok (.isub, 1) := by decide +kernel
theorem dX5_rankOf_71 : decode (cr_by Y_X5_rankOf) 71 = .ok (.ireturn, 1) := by decide +kernel
theorem dX5_rankOf_72 : decode (cr_by Y_X5_rankOf) 72 = .ok (.iconst 0, 1) := by decide +kernel
theorem dX5_rankOf_73 : decode (cr_by Y_X5_rankOf) 73 = .ok (.ireturn, 1) := by decide +kernel
theorem dX5_nextCall_0 : decode (cr_by Y_X5_nextCall) 0 = .ok (.iconst (-1), 1) := by decide +kernel
theorem dX5_nextCall_1 : decode (cr_by Y_X5_nextCall) 1 = .ok (.istore_n 1, 1) := by decide +kernel
theorem dX5_nextCall_2 : decode (cr_by Y_X5_nextCall) 2 = .ok (.iconst 0, 1) := by decide +kernel
theorem dX5_nextCall_3 : decode (cr_by Y_X5_nextCall) 3 = .ok (.istore_n 2, 1) := by decide +kernel
theorem dX5_nextCall_4 : decode (cr_by Y_X5_nextCall) 4 = .ok (.iload_n 2, 1) := by decide +kernel
theorem dX5_nextCall_5 : decode (cr_by Y_X5_nextCall) 5 = .ok (.aload_n 0, 1) := by decide +kernel
theorem dX5_nextCall_6 : decode (cr_by Y_X5_nextCall) 6 = .ok (.getfield 142, 3) := by decide +kernel
theorem dX5_nextCall_9 : decode (cr_by Y_X5_nextCall) 9 = .ok (.if_icmp .ge 45, 3) := by decide +kernel
theorem dX5_nextCall_12 : decode (cr_by Y_X5_nextCall) 12 = .ok (.aload_n 0, 1) := by decide +kernel
theorem dX5_nextCall_13 : decode (cr_by Y_X5_nextCall) 13 = .ok (.getfield 59, 3) := by decide +kernel
theorem dX5_nextCall_16 : decode (cr_by Y_X5_nextCall) 16 = .ok (.iload_n 2, 1) := by decide +kernel
theorem dX5_nextCall_17 : decode (cr_by Y_X5_nextCall) 17 = .ok (.iaload, 1) := by decide +kernel
theorem dX5_nextCall_18 : decode (cr_by Y_X5_nextCall) 18 = .ok (.ifCond .ne 30, 3) := by decide +kernel
theorem dX5_nextCall_21 : decode (cr_by Y_X5_nextCall) 21 = .ok (.aload_n 0, 1) := by decide +kernel
theorem dX5_nextCall_22 : decode (cr_by Y_X5_nextCall) 22 = .ok (.iload_n 2, 1) := by decide +kernel
theorem dX5_nextCall_23 : decode (cr_by Y_X5_nextCall) 23 = .ok (.invokevirtual 165, 3) := by decide +kernel
theorem dX5_nextCall_26 : decode (cr_by Y_X5_nextCall) 26 = .ok (.ifCond .eq 22, 3) := by decide +kernel
theorem dX5_nextCall_29 : decode (cr_by Y_X5_nextCall) 29 = .ok (.iload_n 1, 1) := by decide +kernel
theorem dX5_nextCall_30 : decode (cr_by Y_X5_nextCall) 30 = .ok (.ifCond .lt 16, 3) := by decide +kernel
theorem dX5_nextCall_33 : decode (cr_by Y_X5_nextCall) 33 = .ok (.aload_n 0, 1) := by decide +kernel
theorem dX5_nextCall_34 : decode (cr_by Y_X5_nextCall) 34 = .ok (.iload_n 2, 1) := by decide +kernel
theorem dX5_nextCall_35 : decode (cr_by Y_X5_nextCall) 35 = .ok (.invokevirtual 168, 3) := by decide +kernel
theorem dX5_nextCall_38 : decode (cr_by Y_X5_nextCall) 38 = .ok (.aload_n 0, 1) := by decide +kernel
theorem dX5_nextCall_39 : decode (cr_by Y_X5_nextCall) 39 = .ok (.iload_n 1, 1) := by decide +kernel
theorem dX5_nextCall_40 : decode (cr_by Y_X5_nextCall) 40 = .ok (.invokevirtual 168, 3) := by decide +kernel
theorem dX5_nextCall_43 : decode (cr_by Y_X5_nextCall) 43 = .ok (.if_icmp .ge 5, 3) := by decide +kernel
theorem dX5_nextCall_46 : decode (cr_by Y_X5_nextCall) 46 = .ok (.iload_n 2, 1) := by decide +kernel
theorem dX5_nextCall_47 : decode (cr_by Y_X5_nextCall) 47 = .ok (.istore_n 1, 1) := by decide +kernel
theorem dX5_nextCall_48 : decode (cr_by Y_X5_nextCall) 48 = .ok (.iinc 2 1, 3) := by decide +kernel
theorem dX5_nextCall_51 : decode (cr_by Y_X5_nextCall) 51 = .ok (.goto (-47), 3) := by decide +kernel
theorem dX5_nextCall_54 : decode (cr_by Y_X5_nextCall) 54 = .ok (.iload_n 1, 1) := by decide +kernel
theorem dX5_nextCall_55 : decode (cr_by Y_X5_nextCall) 55 = .ok (.ireturn, 1) := by decide +kernel
theorem dX5_sortsOf_0 : decode (cr_by Y_X5_sortsOf) 0 = .ok (.iconst 0, 1) := by decide +kernel
theorem dX5_sortsOf_1 : decode (cr_by Y_X5_sortsOf) 1 = .ok (.istore_n 2, 1) := by decide +kernel
theorem dX5_sortsOf_2 : decode (cr_by Y_X5_sortsOf) 2 = .ok (.iconst 0, 1) := by decide +kernel
theorem dX5_sortsOf_3 : decode (cr_by Y_X5_sortsOf) 3 = .ok (.istore_n 3, 1) := by decide +kernel
theorem dX5_sortsOf_4 : decode (cr_by Y_X5_sortsOf) 4 = .ok (.iload_n 3, 1) := by decide +kernel
theorem dX5_sortsOf_5 : decode (cr_by Y_X5_sortsOf) 5 = .ok (.iconst 4, 1) := by decide +kernel
theorem dX5_sortsOf_6 : decode (cr_by Y_X5_sortsOf) 6 = .ok (.if_icmp .ge 26, 3) := by decide +kernel
theorem dX5_sortsOf_9 : decode (cr_by Y_X5_sortsOf) 9 = .ok (.iload_n 2, 1) := by decide +kernel
theorem dX5_sortsOf_10 : decode (cr_by Y_X5_sortsOf) 10 = .ok (.aload_n 0, 1) := by decide +kernel
theorem dX5_sortsOf_11 : decode (cr_by Y_X5_sortsOf) 11 = .ok (.iload_n 1, 1) := by decide +kernel
theorem dX5_sortsOf_12 : decode (cr_by Y_X5_sortsOf) 12 = .ok (.iload_n 3, 1) := by decide +kernel
theorem dX5_sortsOf_13 : decode (cr_by Y_X5_sortsOf) 13 = .ok (.invokevirtual 134, 3) := by decide +kernel
theorem dX5_sortsOf_16 : decode (cr_by Y_X5_sortsOf) 16 = .ok (.ifCond .le 7, 3) := by decide +kernel
theorem dX5_sortsOf_19 : decode (cr_by Y_X5_sortsOf) 19 = .ok (.iconst 1, 1) := by decide +kernel
theorem dX5_sortsOf_20 : decode (cr_by Y_X5_sortsOf) 20 = .ok (.goto 4, 3) := by decide +kernel
theorem dX5_sortsOf_23 : decode (cr_by Y_X5_sortsOf) 23 = .ok (.iconst 0, 1) := by decide +kernel
theorem dX5_sortsOf_24 : decode (cr_by Y_X5_sortsOf) 24 = .ok (.iadd, 1) := by decide +kernel
theorem dX5_sortsOf_25 : decode (cr_by Y_X5_sortsOf) 25 = .ok (.istore_n 2, 1) := by decide +kernel
theorem dX5_sortsOf_26 : decode (cr_by Y_X5_sortsOf) 26 = .ok (.iinc 3 1, 3) := by decide +kernel
theorem dX5_sortsOf_29 : decode (cr_by Y_X5_sortsOf) 29 = .ok (.goto (-25), 3) := by decide +kernel
theorem dX5_sortsOf_32 : decode (cr_by Y_X5_sortsOf) 32 = .ok (.iload_n 2, 1) := by decide +kernel
theorem dX5_sortsOf_33 : decode (cr_by Y_X5_sortsOf) 33 = .ok (.ireturn, 1) := by decide +kernel
theorem dX5_isAhead_0 : decode (cr_by Y_X5_isAhead) 0 = .ok (.aload_n 0, 1) := by decide +kernel
theorem dX5_isAhead_1 : decode (cr_by Y_X5_isAhead) 1 = .ok (.iload_n 1, 1) := by decide +kernel
theorem dX5_isAhead_2 : decode (cr_by Y_X5_isAhead) 2 = .ok (.iload_n 3, 1) := by decide +kernel
theorem dX5_isAhead_3 : decode (cr_by Y_X5_isAhead) 3 = .ok (.invokevirtual 134, 3) := by decide +kernel
theorem dX5_isAhead_6 : decode (cr_by Y_X5_isAhead) 6 = .ok (.aload_n 0, 1) := by decide +kernel
theorem dX5_isAhead_7 : decode (cr_by Y_X5_isAhead) 7 = .ok (.iload_n 2, 1) := by decide +kernel
theorem dX5_isAhead_8 : decode (cr_by Y_X5_isAhead) 8 = .ok (.iload_n 3, 1) := by decide +kernel
theorem dX5_isAhead_9 : decode (cr_by Y_X5_isAhead) 9 = .ok (.invokevirtual 134, 3) := by decide +kernel
theorem dX5_isAhead_12 : decode (cr_by Y_X5_isAhead) 12 = .ok (.if_icmp .eq 24, 3) := by decide +kernel
theorem dX5_isAhead_15 : decode (cr_by Y_X5_isAhead) 15 = .ok (.aload_n 0, 1) := by decide +kernel
theorem dX5_isAhead_16 : decode (cr_by Y_X5_isAhead) 16 = .ok (.iload_n 1, 1) := by decide +kernel
theorem dX5_isAhead_17 : decode (cr_by Y_X5_isAhead) 17 = .ok (.iload_n 3, 1) := by decide +kernel
theorem dX5_isAhead_18 : decode (cr_by Y_X5_isAhead) 18 = .ok (.invokevirtual 134, 3) := by decide +kernel
theorem dX5_isAhead_21 : decode (cr_by Y_X5_isAhead) 21 = .ok (.aload_n 0, 1) := by decide +kernel
theorem dX5_isAhead_22 : decode (cr_by Y_X5_isAhead) 22 = .ok (.iload_n 2, 1) := by decide +kernel
theorem dX5_isAhead_23 : decode (cr_by Y_X5_isAhead) 23 = .ok (.iload_n 3, 1) := by decide +kernel
theorem dX5_isAhead_24 : decode (cr_by Y_X5_isAhead) 24 = .ok (.invokevirtual 134, 3) := by decide +kernel
theorem dX5_isAhead_27 : decode (cr_by Y_X5_isAhead) 27 = .ok (.if_icmp .le 7, 3) := by decide +kernel
theorem dX5_isAhead_30 : decode (cr_by Y_X5_isAhead) 30 = .ok (.iconst 1, 1) := by decide +kernel
theorem dX5_isAhead_31 : decode (cr_by Y_X5_isAhead) 31 = .ok (.goto 4, 3) := by decide +kernel
theorem dX5_isAhead_34 : decode (cr_by Y_X5_isAhead) 34 = .ok (.iconst 0, 1) := by decide +kernel
theorem dX5_isAhead_35 : decode (cr_by Y_X5_isAhead) 35 = .ok (.ireturn, 1) := by decide +kernel
theorem dX5_isAhead_36 : decode (cr_by Y_X5_isAhead) 36 = .ok (.aload_n 0, 1) := by decide +kernel
theorem dX5_isAhead_37 : decode (cr_by Y_X5_isAhead) 37 = .ok (.iload_n 1, 1) := by decide +kernel
theorem dX5_isAhead_38 : decode (cr_by Y_X5_isAhead) 38 = .ok (.invokevirtual 171, 3) := by decide +kernel
theorem dX5_isAhead_41 : decode (cr_by Y_X5_isAhead) 41 = .ok (.aload_n 0, 1) := by decide +kernel
theorem dX5_isAhead_42 : decode (cr_by Y_X5_isAhead) 42 = .ok (.iload_n 2, 1) := by decide +kernel
theorem dX5_isAhead_43 : decode (cr_by Y_X5_isAhead) 43 = .ok (.invokevirtual 171, 3) := by decide +kernel
theorem dX5_isAhead_46 : decode (cr_by Y_X5_isAhead) 46 = .ok (.if_icmp .eq 22, 3) := by decide +kernel
theorem dX5_isAhead_49 : decode (cr_by Y_X5_isAhead) 49 = .ok (.aload_n 0, 1) := by decide +kernel
theorem dX5_isAhead_50 : decode (cr_by Y_X5_isAhead) 50 = .ok (.iload_n 1, 1) := by decide +kernel
theorem dX5_isAhead_51 : decode (cr_by Y_X5_isAhead) 51 = .ok (.invokevirtual 171, 3) := by decide +kernel
theorem dX5_isAhead_54 : decode (cr_by Y_X5_isAhead) 54 = .ok (.aload_n 0, 1) := by decide +kernel
theorem dX5_isAhead_55 : decode (cr_by Y_X5_isAhead) 55 = .ok (.iload_n 2, 1) := by decide +kernel
theorem dX5_isAhead_56 : decode (cr_by Y_X5_isAhead) 56 = .ok (.invokevirtual 171, 3) := by decide +kernel
theorem dX5_isAhead_59 : decode (cr_by Y_X5_isAhead) 59 = .ok (.if_icmp .ge 7, 3) := by decide +kernel
theorem dX5_isAhead_62 : decode (cr_by Y_X5_isAhead) 62 = .ok (.iconst 1, 1) := by decide +kernel
theorem dX5_isAhead_63 : decode (cr_by Y_X5_isAhead) 63 = .ok (.goto 4, 3) := by decide +kernel
theorem dX5_isAhead_66 : decode (cr_by Y_X5_isAhead) 66 = .ok (.iconst 0, 1) := by decide +kernel
theorem dX5_isAhead_67 : decode (cr_by Y_X5_isAhead) 67 = .ok (.ireturn, 1) := by decide +kernel
theorem dX5_isAhead_68 : decode (cr_by Y_X5_isAhead) 68 = .ok (.aload_n 0, 1) := by decide +kernel
theorem dX5_isAhead_69 : decode (cr_by Y_X5_isAhead) 69 = .ok (.getfield 26, 3) := by decide +kernel
theorem dX5_isAhead_72 : decode (cr_by Y_X5_isAhead) 72 = .ok (.iload_n 1, 1) := by decide +kernel
theorem dX5_isAhead_73 : decode (cr_by Y_X5_isAhead) 73 = .ok (.iaload, 1) := by decide +kernel
theorem dX5_isAhead_74 : decode (cr_by Y_X5_isAhead) 74 = .ok (.aload_n 0, 1) := by decide +kernel
theorem dX5_isAhead_75 : decode (cr_by Y_X5_isAhead) 75 = .ok (.getfield 26, 3) := by decide +kernel
theorem dX5_isAhead_78 : decode (cr_by Y_X5_isAhead) 78 = .ok (.iload_n 2, 1) := by decide +kernel
theorem dX5_isAhead_79 : decode (cr_by Y_X5_isAhead) 79 = .ok (.iaload, 1) := by decide +kernel
theorem dX5_isAhead_80 : decode (cr_by Y_X5_isAhead) 80 = .ok (.if_icmp .eq 19, 3) := by decide +kernel
theorem dX5_isAhead_83 : decode (cr_by Y_X5_isAhead) 83 = .ok (.aload_n 0, 1) := by decide +kernel
theorem dX5_isAhead_84 : decode (cr_by Y_X5_isAhead) 84 = .ok (.getfield 26, 3) := by decide +kernel
theorem dX5_isAhead_87 : decode (cr_by Y_X5_isAhead) 87 = .ok (.iload_n 1, 1) := by decide +kernel
theorem dX5_isAhead_88 : decode (cr_by Y_X5_isAhead) 88 = .ok (.iaload, 1) := by decide +kernel
theorem dX5_isAhead_89 : decode (cr_by Y_X5_isAhead) 89 = .ok (.iconst 1, 1) := by decide +kernel
theorem dX5_isAhead_90 : decode (cr_by Y_X5_isAhead) 90 = .ok (.if_icmp .ne 7, 3) := by decide +kernel
theorem dX5_isAhead_93 : decode (cr_by Y_X5_isAhead) 93 = .ok (.iconst 1, 1) := by decide +kernel
theorem dX5_isAhead_94 : decode (cr_by Y_X5_isAhead) 94 = .ok (.goto 4, 3) := by decide +kernel
theorem dX5_isAhead_97 : decode (cr_by Y_X5_isAhead) 97 = .ok (.iconst 0, 1) := by decide +kernel
theorem dX5_isAhead_98 : decode (cr_by Y_X5_isAhead) 98 = .ok (.ireturn, 1) := by decide +kernel
theorem dX5_isAhead_99 : decode (cr_by Y_X5_isAhead) 99 = .ok (.aload_n 0, 1) := by decide +kernel
theorem dX5_isAhead_100 : decode (cr_by Y_X5_isAhead) 100 = .ok (.getfield 29, 3) := by decide +kernel
theorem dX5_isAhead_103 : decode (cr_by Y_X5_isAhead) 103 = .ok (.iload_n 1, 1) := by decide +kernel
theorem dX5_isAhead_104 : decode (cr_by Y_X5_isAhead) 104 = .ok (.iaload, 1) := by decide +kernel
theorem dX5_isAhead_105 : decode (cr_by Y_X5_isAhead) 105 = .ok (.aload_n 0, 1) := by decide +kernel
theorem dX5_isAhead_106 : decode (cr_by Y_X5_isAhead) 106 = .ok (.getfield 29, 3) := by decide +kernel
theorem dX5_isAhead_109 : decode (cr_by Y_X5_isAhead) 109 = .ok (.iload_n 2, 1) := by decide +kernel
theorem dX5_isAhead_110 : decode (cr_by Y_X5_isAhead) 110 = .ok (.iaload, 1) := by decide +kernel
theorem dX5_isAhead_111 : decode (cr_by Y_X5_isAhead) 111 = .ok (.if_icmp .ge 7, 3) := by decide +kernel
theorem dX5_isAhead_114 : decode (cr_by Y_X5_isAhead) 114 = .ok (.iconst 1, 1) := by decide +kernel
theorem dX5_isAhead_115 : decode (cr_by Y_X5_isAhead) 115 = .ok (.goto 4, 3) := by decide +kernel
theorem dX5_isAhead_118 : decode (cr_by Y_X5_isAhead) 118 = .ok (.iconst 0, 1) := by decide +kernel
theorem dX5_isAhead_119 : decode (cr_by Y_X5_isAhead) 119 = .ok (.ireturn, 1) := by decide +kernel
theorem dX5_helperFor_0 : decode (cr_by Y_X5_helperFor) 0 = .ok (.aload_n 0, 1) := by decide +kernel
theorem dX5_helperFor_1 : decode (cr_by Y_X5_helperFor) 1 = .ok (.getfield 56, 3) := by decide +kernel
theorem dX5_helperFor_4 : decode (cr_by Y_X5_helperFor) 4 = .ok (.iload_n 1, 1) := by decide +kernel
theorem dX5_helperFor_5 : decode (cr_by Y_X5_helperFor) 5 = .ok (.iaload, 1) := by decide +kernel
theorem dX5_helperFor_6 : decode (cr_by Y_X5_helperFor) 6 = .ok (.ifCond .lt 24, 3) := by decide +kernel
theorem dX5_helperFor_9 : decode (cr_by Y_X5_helperFor) 9 = .ok (.aload_n 0, 1) := by decide +kernel
theorem dX5_helperFor_10 : decode (cr_by Y_X5_helperFor) 10 = .ok (.aload_n 0, 1) := by decide +kernel
theorem dX5_helperFor_11 : decode (cr_by Y_X5_helperFor) 11 = .ok (.getfield 56, 3) := by decide +kernel
theorem dX5_helperFor_14 : decode (cr_by Y_X5_helperFor) 14 = .ok (.iload_n 1, 1) := by decide +kernel
theorem dX5_helperFor_15 : decode (cr_by Y_X5_helperFor) 15 = .ok (.iaload, 1) := by decide +kernel
theorem dX5_helperFor_16 : decode (cr_by Y_X5_helperFor) 16 = .ok (.iload_n 1, 1) := by decide +kernel
theorem dX5_helperFor_17 : decode (cr_by Y_X5_helperFor) 17 = .ok (.invokevirtual 159, 3) := by decide +kernel
theorem dX5_helperFor_20 : decode (cr_by Y_X5_helperFor) 20 = .ok (.ifCond .eq 10, 3) := by decide +kernel
theorem dX5_helperFor_23 : decode (cr_by Y_X5_helperFor) 23 = .ok (.aload_n 0, 1) := by decide +kernel
theorem dX5_helperFor_24 : decode (cr_by Y_X5_helperFor) 24 = .ok (.getfield 56, 3) := by decide +kernel
theorem dX5_helperFor_27 : decode (cr_by Y_X5_helperFor) 27 = .ok (.iload_n 1, 1) := by decide +kernel
theorem dX5_helperFor_28 : decode (cr_by Y_X5_helperFor) 28 = .ok (.iaload, 1) := by decide +kernel
theorem dX5_helperFor_29 : decode (cr_by Y_X5_helperFor) 29 = .ok (.ireturn, 1) := by decide +kernel
theorem dX5_helperFor_30 : decode (cr_by Y_X5_helperFor) 30 = .ok (.iconst (-1), 1) := by decide +kernel
theorem dX5_helperFor_31 : decode (cr_by Y_X5_helperFor) 31 = .ok (.istore_n 2, 1) := by decide +kernel
theorem dX5_helperFor_32 : decode (cr_by Y_X5_helperFor) 32 = .ok (.iconst 0, 1) := by decide +kernel
theorem dX5_helperFor_33 : decode (cr_by Y_X5_helperFor) 33 = .ok (.istore_n 3, 1) := by decide +kernel
theorem dX5_helperFor_34 : decode (cr_by Y_X5_helperFor) 34 = .ok (.iload_n 3, 1) := by decide +kernel
theorem dX5_helperFor_35 : decode (cr_by Y_X5_helperFor) 35 = .ok (.aload_n 0, 1) := by decide +kernel
theorem dX5_helperFor_36 : decode (cr_by Y_X5_helperFor) 36 = .ok (.getfield 124, 3) := by decide +kernel
theorem dX5_helperFor_39 : decode (cr_by Y_X5_helperFor) 39 = .ok (.if_icmp .ge 39, 3) := by decide +kernel
theorem dX5_helperFor_42 : decode (cr_by Y_X5_helperFor) 42 = .ok (.aload_n 0, 1) := by decide +kernel
theorem dX5_helperFor_43 : decode (cr_by Y_X5_helperFor) 43 = .ok (.iload_n 3, 1) := by decide +kernel
theorem dX5_helperFor_44 : decode (cr_by Y_X5_helperFor) 44 = .ok (.iload_n 1, 1) := by decide +kernel
theorem dX5_helperFor_45 : decode (cr_by Y_X5_helperFor) 45 = .ok (.invokevirtual 159, 3) := by decide +kernel
theorem dX5_helperFor_48 : decode (cr_by Y_X5_helperFor) 48 = .ok (.ifCond .eq 24, 3) := by decide +kernel
theorem dX5_helperFor_51 : decode (cr_by Y_X5_helperFor) 51 = .ok (.iload_n 2, 1) := by decide +kernel
theorem dX5_helperFor_52 : decode (cr_by Y_X5_helperFor) 52 = .ok (.ifCond .lt 18, 3) := by decide +kernel
theorem dX5_helperFor_55 : decode (cr_by Y_X5_helperFor) 55 = .ok (.aload_n 0, 1) := by decide +kernel
theorem dX5_helperFor_56 : decode (cr_by Y_X5_helperFor) 56 = .ok (.iload_n 3, 1) := by decide +kernel
theorem dX5_helperFor_57 : decode (cr_by Y_X5_helperFor) 57 = .ok (.iload_n 2, 1) := by decide +kernel
theorem dX5_helperFor_58 : decode (cr_by Y_X5_helperFor) 58 = .ok (.aload_n 0, 1) := by decide +kernel
theorem dX5_helperFor_59 : decode (cr_by Y_X5_helperFor) 59 = .ok (.getfield 44, 3) := by decide +kernel
theorem dX5_helperFor_62 : decode (cr_by Y_X5_helperFor) 62 = .ok (.iload_n 1, 1) := by decide +kernel
theorem dX5_helperFor_63 : decode (cr_by Y_X5_helperFor) 63 = .ok (.iaload, 1) := by decide +kernel
theorem dX5_helperFor_64 : decode (cr_by Y_X5_helperFor) 64 = .ok (.invokevirtual 174, 3) := by decide +kernel
theorem dX5_helperFor_67 : decode (cr_by Y_X5_helperFor) 67 = .ok (.ifCond .eq 5, 3) := by decide +kernel
theorem dX5_helperFor_70 : decode (cr_by Y_X5_helperFor) 70 = .ok (.iload_n 3, 1) := by decide +kernel
theorem dX5_helperFor_71 : decode (cr_by Y_X5_helperFor) 71 = .ok (.istore_n 2, 1) := by decide +kernel
theorem dX5_helperFor_72 : decode (cr_by Y_X5_helperFor) 72 = .ok (.iinc 3 1, 3) := by decide +kernel
theorem dX5_helperFor_75 : decode (cr_by Y_X5_helperFor) 75 = .ok (.goto (-41), 3) := by decide +kernel
theorem dX5_helperFor_78 : decode (cr_by Y_X5_helperFor) 78 = .ok (.iload_n 2, 1) := by decide +kernel
theorem dX5_helperFor_79 : decode (cr_by Y_X5_helperFor) 79 = .ok (.ireturn, 1) := by decide +kernel
theorem dX5_give_0 : decode (cr_by Y_X5_give) 0 = .ok (.aload_n 0, 1) := by decide +kernel
theorem dX5_give_1 : decode (cr_by Y_X5_give) 1 = .ok (.invokevirtual 178, 3) := by decide +kernel
theorem dX5_give_4 : decode (cr_by Y_X5_give) 4 = .ok (.istore_n 1, 1) := by decide +kernel
theorem dX5_give_5 : decode (cr_by Y_X5_give) 5 = .ok (.iload_n 1, 1) := by decide +kernel
theorem dX5_give_6 : decode (cr_by Y_X5_give) 6 = .ok (.ifCond .lt 137, 3) := by decide +kernel
theorem dX5_give_9 : decode (cr_by Y_X5_give) 9 = .ok (.aload_n 0, 1) := by decide +kernel
theorem dX5_give_10 : decode (cr_by Y_X5_give) 10 = .ok (.iload_n 1, 1) := by decide +kernel
theorem dX5_give_11 : decode (cr_by Y_X5_give) 11 = .ok (.invokevirtual 182, 3) := by decide +kernel
theorem dX5_give_14 : decode (cr_by Y_X5_give) 14 = .ok (.istore_n 2, 1) := by decide +kernel
theorem dX5_give_15 : decode (cr_by Y_X5_give) 15 = .ok (.aload_n 0, 1) := by decide +kernel
theorem dX5_give_16 : decode (cr_by Y_X5_give) 16 = .ok (.getfield 71, 3) := by decide +kernel
theorem dX5_give_19 : decode (cr_by Y_X5_give) 19 = .ok (.iload_n 1, 1) := by decide +kernel
theorem dX5_give_20 : decode (cr_by Y_X5_give) 20 = .ok (.aload_n 0, 1) := by decide +kernel
theorem dX5_give_21 : decode (cr_by Y_X5_give) 21 = .ok (.iload_n 1, 1) := by decide +kernel
theorem dX5_give_22 : decode (cr_by Y_X5_give) 22 = .ok (.invokevirtual 156, 3) := by decide +kernel
theorem dX5_give_25 : decode (cr_by Y_X5_give) 25 = .ok (.iastore, 1) := by decide +kernel
theorem dX5_give_26 : decode (cr_by Y_X5_give) 26 = .ok (.aload_n 0, 1) := by decide +kernel
theorem dX5_give_27 : decode (cr_by Y_X5_give) 27 = .ok (.getfield 74, 3) := by decide +kernel
theorem dX5_give_30 : decode (cr_by Y_X5_give) 30 = .ok (.iload_n 1, 1) := by decide +kernel
theorem dX5_give_31 : decode (cr_by Y_X5_give) 31 = .ok (.iaload, 1) := by decide +kernel
theorem dX5_give_32 : decode (cr_by Y_X5_give) 32 = .ok (.bipush (-9), 2) := by decide +kernel
theorem dX5_give_34 : decode (cr_by Y_X5_give) 34 = .ok (.if_icmp .ne 15, 3) := by decide +kernel
theorem dX5_give_37 : decode (cr_by Y_X5_give) 37 = .ok (.aload_n 0, 1) := by decide +kernel
theorem dX5_give_38 : decode (cr_by Y_X5_give) 38 = .ok (.getfield 74, 3) := by decide +kernel
theorem dX5_give_41 : decode (cr_by Y_X5_give) 41 = .ok (.iload_n 1, 1) := by decide +kernel
theorem dX5_give_42 : decode (cr_by Y_X5_give) 42 = .ok (.aload_n 0, 1) := by decide +kernel
theorem dX5_give_43 : decode (cr_by Y_X5_give) 43 = .ok (.getfield 71, 3) := by decide +kernel
theorem dX5_give_46 : decode (cr_by Y_X5_give) 46 = .ok (.iload_n 1, 1) := by decide +kernel
theorem dX5_give_47 : decode (cr_by Y_X5_give) 47 = .ok (.iaload, 1) := by decide +kernel
theorem dX5_give_48 : decode (cr_by Y_X5_give) 48 = .ok (.iastore, 1) := by decide +kernel
theorem dX5_give_49 : decode (cr_by Y_X5_give) 49 = .ok (.aload_n 0, 1) := by decide +kernel
theorem dX5_give_50 : decode (cr_by Y_X5_give) 50 = .ok (.getfield 59, 3) := by decide +kernel
theorem dX5_give_53 : decode (cr_by Y_X5_give) 53 = .ok (.iload_n 1, 1) := by decide +kernel
theorem dX5_give_54 : decode (cr_by Y_X5_give) 54 = .ok (.iconst 1, 1) := by decide +kernel
theorem dX5_give_55 : decode (cr_by Y_X5_give) 55 = .ok (.iastore, 1) := by decide +kernel
theorem dX5_give_56 : decode (cr_by Y_X5_give) 56 = .ok (.aload_n 0, 1) := by decide +kernel
theorem dX5_give_57 : decode (cr_by Y_X5_give) 57 = .ok (.getfield 65, 3) := by decide +kernel
theorem dX5_give_60 : decode (cr_by Y_X5_give) 60 = .ok (.iload_n 1, 1) := by decide +kernel
theorem dX5_give_61 : decode (cr_by Y_X5_give) 61 = .ok (.iload_n 2, 1) := by decide +kernel
theorem dX5_give_62 : decode (cr_by Y_X5_give) 62 = .ok (.iastore, 1) := by decide +kernel
theorem dX5_give_63 : decode (cr_by Y_X5_give) 63 = .ok (.aload_n 0, 1) := by decide +kernel
theorem dX5_give_64 : decode (cr_by Y_X5_give) 64 = .ok (.getfield 68, 3) := by decide +kernel
theorem dX5_give_67 : decode (cr_by Y_X5_give) 67 = .ok (.iload_n 1, 1) := by decide +kernel
theorem dX5_give_68 : decode (cr_by Y_X5_give) 68 = .ok (.aload_n 0, 1) := by decide +kernel
theorem dX5_give_69 : decode (cr_by Y_X5_give) 69 = .ok (.getfield 127, 3) := by decide +kernel
theorem dX5_give_72 : decode (cr_by Y_X5_give) 72 = .ok (.aload_n 0, 1) := by decide +kernel
theorem dX5_give_73 : decode (cr_by Y_X5_give) 73 = .ok (.getfield 47, 3) := by decide +kernel
theorem dX5_give_76 : decode (cr_by Y_X5_give) 76 = .ok (.iload_n 1, 1) := by decide +kernel
theorem dX5_give_77 : decode (cr_by Y_X5_give) 77 = .ok (.iaload, 1) := by decide +kernel
theorem dX5_give_78 : decode (cr_by Y_X5_give) 78 = .ok (.iconst 5, 1) := by decide +kernel
theorem dX5_give_79 : decode (cr_by Y_X5_give) 79 = .ok (.aload_n 0, 1) := by decide +kernel
theorem dX5_give_80 : decode (cr_by Y_X5_give) 80 = .ok (.iload_n 2, 1) := by decide +kernel
theorem dX5_give_81 : decode (cr_by Y_X5_give) 81 = .ok (.aload_n 0, 1) := by decide +kernel
theorem dX5_give_82 : decode (cr_by Y_X5_give) 82 = .ok (.getfield 44, 3) := by decide +kernel
theorem dX5_give_85 : decode (cr_by Y_X5_give) 85 = .ok (.iload_n 1, 1) := by decide +kernel
theorem dX5_give_86 : decode (cr_by Y_X5_give) 86 = .ok (.iaload, 1) := by decide +kernel
theorem dX5_give_87 : decode (cr_by Y_X5_give) 87 = .ok (.invokevirtual 134, 3) := by decide +kernel
theorem dX5_give_90 : decode (cr_by Y_X5_give) 90 = .ok (.isub, 1) := by decide +kernel
theorem dX5_give_91 : decode (cr_by Y_X5_give) 91 = .ok (.imul, 1) := by decide +kernel
theorem dX5_give_92 : decode (cr_by Y_X5_give) 92 = .ok (.iconst 3, 1) := by decide +kernel
theorem dX5_give_93 : decode (cr_by Y_X5_give) 93 = .ok (.iadd, 1) := by decide +kernel
theorem dX5_give_94 : decode (cr_by Y_X5_give) 94 = .ok (.iconst 4, 1) := by decide +kernel
theorem dX5_give_95 : decode (cr_by Y_X5_give) 95 = .ok (.idiv, 1) := by decide +kernel
theorem dX5_give_96 : decode (cr_by Y_X5_give) 96 = .ok (.iadd, 1) := by decide +kernel
theorem dX5_give_97 : decode (cr_by Y_X5_give) 97 = .ok (.iastore, 1) := by decide +kernel
theorem dX5_give_98 : decode (cr_by Y_X5_give) 98 = .ok (.aload_n 0, 1) := by decide +kernel
theorem dX5_give_99 : decode (cr_by Y_X5_give) 99 = .ok (.getfield 77, 3) := by decide +kernel
theorem dX5_give_102 : decode (cr_by Y_X5_give) 102 = .ok (.iload_n 2, 1) := by decide +kernel
theorem dX5_give_103 : decode (cr_by Y_X5_give) 103 = .ok (.dup2, 1) := by decide +kernel
theorem dX5_give_104 : decode (cr_by Y_X5_give) 104 = .ok (.iaload, 1) := by decide +kernel
theorem dX5_give_105 : decode (cr_by Y_X5_give) 105 = .ok (.iconst 1, 1) := by decide +kernel
theorem dX5_give_106 : decode (cr_by Y_X5_give) 106 = .ok (.iadd, 1) := by decide +kernel
theorem dX5_give_107 : decode (cr_by Y_X5_give) 107 = .ok (.iastore, 1) := by decide +kernel
theorem dX5_give_108 : decode (cr_by Y_X5_give) 108 = .ok (.aload_n 0, 1) := by decide +kernel
theorem dX5_give_109 : decode (cr_by Y_X5_give) 109 = .ok (.getfield 83, 3) := by decide +kernel
theorem dX5_give_112 : decode (cr_by Y_X5_give) 112 = .ok (.iload_n 2, 1) := by decide +kernel
theorem dX5_give_113 : decode (cr_by Y_X5_give) 113 = .ok (.aload_n 0, 1) := by decide +kernel
theorem dX5_give_114 : decode (cr_by Y_X5_give) 114 = .ok (.getfield 41, 3) := by decide +kernel
theorem dX5_give_117 : decode (cr_by Y_X5_give) 117 = .ok (.iload_n 1, 1) := by decide +kernel
theorem dX5_give_118 : decode (cr_by Y_X5_give) 118 = .ok (.iaload, 1) := by decide +kernel
theorem dX5_give_119 : decode (cr_by Y_X5_give) 119 = .ok (.iconst 3, 1) := by decide +kernel
theorem dX5_give_120 : decode (cr_by Y_X5_give) 120 = .ok (.if_icmp .ne 7, 3) := by decide +kernel
theorem dX5_give_123 : decode (cr_by Y_X5_give) 123 = .ok (.iconst 1, 1) := by decide +kernel
theorem dX5_give_124 : decode (cr_by Y_X5_give) 124 = .ok (.goto 4, 3) := by decide +kernel
theorem dX5_give_127 : decode (cr_by Y_X5_give) 127 = .ok (.iconst 0, 1) := by decide +kernel
theorem dX5_give_128 : decode (cr_by Y_X5_give) 128 = .ok (.bastore, 1) := by decide +kernel
theorem dX5_give_129 : decode (cr_by Y_X5_give) 129 = .ok (.aload_n 0, 1) := by decide +kernel
theorem dX5_give_130 : decode (cr_by Y_X5_give) 130 = .ok (.iload_n 2, 1) := by decide +kernel
theorem dX5_give_131 : decode (cr_by Y_X5_give) 131 = .ok (.iconst 2, 1) := by decide +kernel
theorem dX5_give_132 : decode (cr_by Y_X5_give) 132 = .ok (.invokevirtual 138, 3) := by decide +kernel
theorem dX5_give_135 : decode (cr_by Y_X5_give) 135 = .ok (.aload_n 0, 1) := by decide +kernel
theorem dX5_give_136 : decode (cr_by Y_X5_give) 136 = .ok (.invokevirtual 178, 3) := by decide +kernel
theorem dX5_give_139 : decode (cr_by Y_X5_give) 139 = .ok (.istore_n 1, 1) := by decide +kernel
theorem dX5_give_140 : decode (cr_by Y_X5_give) 140 = .ok (.goto (-135), 3) := by decide +kernel
theorem dX5_give_143 : decode (cr_by Y_X5_give) 143 = .ok (.return_, 1) := by decide +kernel
theorem dX5_goesOn_0 : decode (cr_by Y_X5_goesOn) 0 = .ok (.iconst 0, 1) := by decide +kernel
theorem dX5_goesOn_1 : decode (cr_by Y_X5_goesOn) 1 = .ok (.istore_n 1, 1) := by decide +kernel
theorem dX5_goesOn_2 : decode (cr_by Y_X5_goesOn) 2 = .ok (.iconst 0, 1) := by decide +kernel
theorem dX5_goesOn_3 : decode (cr_by Y_X5_goesOn) 3 = .ok (.istore_n 2, 1) := by decide +kernel
theorem dX5_goesOn_4 : decode (cr_by Y_X5_goesOn) 4 = .ok (.iload_n 2, 1) := by decide +kernel
theorem dX5_goesOn_5 : decode (cr_by Y_X5_goesOn) 5 = .ok (.aload_n 0, 1) := by decide +kernel
theorem dX5_goesOn_6 : decode (cr_by Y_X5_goesOn) 6 = .ok (.getfield 124, 3) := by decide +kernel
theorem dX5_goesOn_9 : decode (cr_by Y_X5_goesOn) 9 = .ok (.if_icmp .ge 33, 3) := by decide +kernel
theorem dX5_goesOn_12 : decode (cr_by Y_X5_goesOn) 12 = .ok (.aload_n 0, 1) := by decide +kernel
theorem dX5_goesOn_13 : decode (cr_by Y_X5_goesOn) 13 = .ok (.getfield 38, 3) := by decide +kernel
theorem dX5_goesOn_16 : decode (cr_by Y_X5_goesOn) 16 = .ok (.iload_n 2, 1) := by decide +kernel
theorem dX5_goesOn_17 : decode (cr_by Y_X5_goesOn) 17 = .ok (.dup2, 1) := by decide +kernel
theorem dX5_goesOn_18 : decode (cr_by Y_X5_goesOn) 18 = .ok (.iaload, 1) := by decide +kernel
theorem dX5_goesOn_19 : decode (cr_by Y_X5_goesOn) 19 = .ok (.aload_n 0, 1) := by decide +kernel
theorem dX5_goesOn_20 : decode (cr_by Y_X5_goesOn) 20 = .ok (.getfield 26, 3) := by decide +kernel
theorem dX5_goesOn_23 : decode (cr_by Y_X5_goesOn) 23 = .ok (.iload_n 2, 1) := by decide +kernel
theorem dX5_goesOn_24 : decode (cr_by Y_X5_goesOn) 24 = .ok (.iaload, 1) := by decide +kernel
theorem dX5_goesOn_25 : decode (cr_by Y_X5_goesOn) 25 = .ok (.iconst 2, 1) := by decide +kernel
theorem dX5_goesOn_26 : decode (cr_by Y_X5_goesOn) 26 = .ok (.if_icmp .ne 7, 3) := by decide +kernel
theorem dX5_goesOn_29 : decode (cr_by Y_X5_goesOn) 29 = .ok (.iconst 1, 1) := by decide +kernel
theorem dX5_goesOn_30 : decode (cr_by Y_X5_goesOn) 30 = .ok (.goto 4, 3) := by decide +kernel
theorem dX5_goesOn_33 : decode (cr_by Y_X5_goesOn) 33 = .ok (.iconst 0, 1) := by decide +kernel
theorem dX5_goesOn_34 : decode (cr_by Y_X5_goesOn) 34 = .ok (.iadd, 1) := by decide +kernel
theorem dX5_goesOn_35 : decode (cr_by Y_X5_goesOn) 35 = .ok (.iastore, 1) := by decide +kernel
theorem dX5_goesOn_36 : decode (cr_by Y_X5_goesOn) 36 = .ok (.iinc 2 1, 3) := by decide +kernel
theorem dX5_goesOn_39 : decode (cr_by Y_X5_goesOn) 39 = .ok (.goto (-35), 3) := by decide +kernel
theorem dX5_goesOn_42 : decode (cr_by Y_X5_goesOn) 42 = .ok (.aload_n 0, 1) := by decide +kernel
theorem dX5_goesOn_43 : decode (cr_by Y_X5_goesOn) 43 = .ok (.dup, 1) := by decide +kernel
theorem dX5_goesOn_44 : decode (cr_by Y_X5_goesOn) 44 = .ok (.getfield 127, 3) := by decide +kernel
theorem dX5_goesOn_47 : decode (cr_by Y_X5_goesOn) 47 = .ok (.iconst 1, 1) := by decide +kernel
theorem dX5_goesOn_48 : decode (cr_by Y_X5_goesOn) 48 = .ok (.iadd, 1) := by decide +kernel
theorem dX5_goesOn_49 : decode (cr_by Y_X5_goesOn) 49 = .ok (.putfield 127, 3) := by decide +kernel
theorem dX5_goesOn_52 : decode (cr_by Y_X5_goesOn) 52 = .ok (.iconst 0, 1) := by decide +kernel
theorem dX5_goesOn_53 : decode (cr_by Y_X5_goesOn) 53 = .ok (.istore_n 2, 1) := by decide +kernel
theorem dX5_goesOn_54 : decode (cr_by Y_X5_goesOn) 54 = .ok (.iload_n 2, 1) := by decide +kernel
theorem dX5_goesOn_55 : decode (cr_by Y_X5_goesOn) 55 = .ok (.aload_n 0, 1) := by decide +kernel
theorem dX5_goesOn_56 : decode (cr_by Y_X5_goesOn) 56 = .ok (.getfield 142, 3) := by decide +kernel
theorem dX5_goesOn_59 : decode (cr_by Y_X5_goesOn) 59 = .ok (.if_icmp .ge 78, 3) := by decide +kernel
theorem dX5_goesOn_62 : decode (cr_by Y_X5_goesOn) 62 = .ok (.aload_n 0, 1) := by decide +kernel
theorem dX5_goesOn_63 : decode (cr_by Y_X5_goesOn) 63 = .ok (.getfield 59, 3) := by decide +kernel
theorem dX5_goesOn_66 : decode (cr_by Y_X5_goesOn) 66 = .ok (.iload_n 2, 1) := by decide +kernel
theorem dX5_goesOn_67 : decode (cr_by Y_X5_goesOn) 67 = .ok (.iaload, 1) := by decide +kernel
theorem dX5_goesOn_68 : decode (cr_by Y_X5_goesOn) 68 = .ok (.iconst 1, 1) := by decide +kernel
theorem dX5_goesOn_69 : decode (cr_by Y_X5_goesOn) 69 = .ok (.if_icmp .ne 62, 3) := by decide +kernel
theorem dX5_goesOn_72 : decode (cr_by Y_X5_goesOn) 72 = .ok (.aload_n 0, 1) := by decide +kernel
theorem dX5_goesOn_73 : decode (cr_by Y_X5_goesOn) 73 = .ok (.getfield 68, 3) := by decide +kernel
theorem dX5_goesOn_76 : decode (cr_by Y_X5_goesOn) 76 = .ok (.iload_n 2, 1) := by decide +kernel
theorem dX5_goesOn_77 : decode (cr_by Y_X5_goesOn) 77 = .ok (.iaload, 1) := by decide +kernel
theorem dX5_goesOn_78 : decode (cr_by Y_X5_goesOn) 78 = .ok (.aload_n 0, 1) := by decide +kernel
theorem dX5_goesOn_79 : decode (cr_by Y_X5_goesOn) 79 = .ok (.getfield 127, 3) := by decide +kernel
theorem dX5_goesOn_82 : decode (cr_by Y_X5_goesOn) 82 = .ok (.if_icmp .le 6, 3) := by decide +kernel
theorem dX5_goesOn_85 : decode (cr_by Y_X5_goesOn) 85 = .ok (.goto 46, 3) := by decide +kernel
theorem dX5_goesOn_88 : decode (cr_by Y_X5_goesOn) 88 = .ok (.aload_n 0, 1) := by decide +kernel
theorem dX5_goesOn_89 : decode (cr_by Y_X5_goesOn) 89 = .ok (.getfield 59, 3) := by decide +kernel
theorem dX5_goesOn_92 : decode (cr_by Y_X5_goesOn) 92 = .ok (.iload_n 2, 1) := by decide +kernel
theorem dX5_goesOn_93 : decode (cr_by Y_X5_goesOn) 93 = .ok (.iconst 2, 1) := by decide +kernel
theorem dX5_goesOn_94 : decode (cr_by Y_X5_goesOn) 94 = .ok (.iastore, 1) := by decide +kernel
theorem dX5_goesOn_95 : decode (cr_by Y_X5_goesOn) 95 = .ok (.aload_n 0, 1) := by decide +kernel
theorem dX5_goesOn_96 : decode (cr_by Y_X5_goesOn) 96 = .ok (.getfield 68, 3) := by decide +kernel
theorem dX5_goesOn_99 : decode (cr_by Y_X5_goesOn) 99 = .ok (.iload_n 2, 1) := by decide +kernel
theorem dX5_goesOn_100 : decode (cr_by Y_X5_goesOn) 100 = .ok (.bipush (-9), 2) := by decide +kernel
theorem dX5_goesOn_102 : decode (cr_by Y_X5_goesOn) 102 = .ok (.iastore, 1) := by decide +kernel
theorem dX5_goesOn_103 : decode (cr_by Y_X5_goesOn) 103 = .ok (.aload_n 0, 1) := by decide +kernel
theorem dX5_goesOn_104 : decode (cr_by Y_X5_goesOn) 104 = .ok (.getfield 35, 3) := by decide +kernel
theorem dX5_goesOn_107 : decode (cr_by Y_X5_goesOn) 107 = .ok (.aload_n 0, 1) := by decide +kernel
theorem dX5_goesOn_108 : decode (cr_by Y_X5_goesOn) 108 = .ok (.getfield 65, 3) := by decide +kernel
theorem dX5_goesOn_111 : decode (cr_by Y_X5_goesOn) 111 = .ok (.iload_n 2, 1) := by decide +kernel
theorem dX5_goesOn_112 : decode (cr_by Y_X5_goesOn) 112 = .ok (.iaload, 1) := by decide +kernel
theorem dX5_goesOn_113 : decode (cr_by Y_X5_goesOn) 113 = .ok (.dup2, 1) := by decide +kernel
theorem dX5_goesOn_114 : decode (cr_by Y_X5_goesOn) 114 = .ok (.iaload, 1) := by decide +kernel
theorem dX5_goesOn_115 : decode (cr_by Y_X5_goesOn) 115 = .ok (.iconst 1, 1) := by decide +kernel
theorem dX5_goesOn_116 : decode (cr_by Y_X5_goesOn) 116 = .ok (.iadd, 1) := by decide +kernel
theorem dX5_goesOn_117 : decode (cr_by Y_X5_goesOn) 117 = .ok (.iastore, 1) := by decide +kernel
theorem dX5_goesOn_118 : decode (cr_by Y_X5_goesOn) 118 = .ok (.aload_n 0, 1) := by decide +kernel
theorem dX5_goesOn_119 : decode (cr_by Y_X5_goesOn) 119 = .ok (.aload_n 0, 1) := by decide +kernel
theorem dX5_goesOn_120 : decode (cr_by Y_X5_goesOn) 120 = .ok (.getfield 65, 3) := by decide +kernel
theorem dX5_goesOn_123 : decode (cr_by Y_X5_goesOn) 123 = .ok (.iload_n 2, 1) := by decide +kernel
theorem dX5_goesOn_124 : decode (cr_by Y_X5_goesOn) 124 = .ok (.iaload, 1) := by decide +kernel
theorem dX5_goesOn_125 : decode (cr_by Y_X5_goesOn) 125 = .ok (.invokevirtual 148, 3) := by decide +kernel
theorem dX5_goesOn_128 : decode (cr_by Y_X5_goesOn) 128 = .ok (.iinc 1 1, 3) := by decide +kernel
theorem dX5_goesOn_131 : decode (cr_by Y_X5_goesOn) 131 = .ok (.iinc 2 1, 3) := by decide +kernel
theorem dX5_goesOn_134 : decode (cr_by Y_X5_goesOn) 134 = .ok (.goto (-80), 3) := by decide +kernel
theorem dX5_goesOn_137 : decode (cr_by Y_X5_goesOn) 137 = .ok (.iconst 0, 1) := by decide +kernel
theorem dX5_goesOn_138 : decode (cr_by Y_X5_goesOn) 138 = .ok (.istore_n 2, 1) := by decide +kernel
theorem dX5_goesOn_139 : decode (cr_by Y_X5_goesOn) 139 = .ok (.iload_n 2, 1) := by decide +kernel
theorem dX5_goesOn_140 : decode (cr_by Y_X5_goesOn) 140 = .ok (.aload_n 0, 1) := by decide +kernel
theorem dX5_goesOn_141 : decode (cr_by Y_X5_goesOn) 141 = .ok (.getfield 124, 3) := by decide +kernel
theorem dX5_goesOn_144 : decode (cr_by Y_X5_goesOn) 144 = .ok (.if_icmp .ge 38, 3) := by decide +kernel
theorem dX5_goesOn_147 : decode (cr_by Y_X5_goesOn) 147 = .ok (.aload_n 0, 1) := by decide +kernel
theorem dX5_goesOn_148 : decode (cr_by Y_X5_goesOn) 148 = .ok (.getfield 26, 3) := by decide +kernel
theorem dX5_goesOn_151 : decode (cr_by Y_X5_goesOn) 151 = .ok (.iload_n 2, 1) := by decide +kernel
theorem dX5_goesOn_152 : decode (cr_by Y_X5_goesOn) 152 = .ok (.iaload, 1) := by decide +kernel
theorem dX5_goesOn_153 : decode (cr_by Y_X5_goesOn) 153 = .ok (.iconst 3, 1) := by decide +kernel
theorem dX5_goesOn_154 : decode (cr_by Y_X5_goesOn) 154 = .ok (.if_icmp .ne 22, 3) := by decide +kernel
theorem dX5_goesOn_157 : decode (cr_by Y_X5_goesOn) 157 = .ok (.aload_n 0, 1) := by decide +kernel
theorem dX5_goesOn_158 : decode (cr_by Y_X5_goesOn) 158 = .ok (.getfield 32, 3) := by decide +kernel
theorem dX5_goesOn_161 : decode (cr_by Y_X5_goesOn) 161 = .ok (.iload_n 2, 1) := by decide +kernel
theorem dX5_goesOn_162 : decode (cr_by Y_X5_goesOn) 162 = .ok (.iaload, 1) := by decide +kernel
theorem dX5_goesOn_163 : decode (cr_by Y_X5_goesOn) 163 = .ok (.aload_n 0, 1) := by decide +kernel
theorem dX5_goesOn_164 : decode (cr_by Y_X5_goesOn) 164 = .ok (.getfield 127, 3) := by decide +kernel
theorem dX5_goesOn_167 : decode (cr_by Y_X5_goesOn) 167 = .ok (.if_icmp .gt 9, 3) := by decide +kernel
theorem dX5_goesOn_170 : decode (cr_by Y_X5_goesOn) 170 = .ok (.aload_n 0, 1) := by decide +kernel
theorem dX5_goesOn_171 : decode (cr_by Y_X5_goesOn) 171 = .ok (.iload_n 2, 1) := by decide +kernel
theorem dX5_goesOn_172 : decode (cr_by Y_X5_goesOn) 172 = .ok (.iconst 1, 1) := by decide +kernel
theorem dX5_goesOn_173 : decode (cr_by Y_X5_goesOn) 173 = .ok (.invokevirtual 138, 3) := by decide +kernel
theorem dX5_goesOn_176 : decode (cr_by Y_X5_goesOn) 176 = .ok (.iinc 2 1, 3) := by decide +kernel
theorem dX5_goesOn_179 : decode (cr_by Y_X5_goesOn) 179 = .ok (.goto (-40), 3) := by decide +kernel
theorem dX5_goesOn_182 : decode (cr_by Y_X5_goesOn) 182 = .ok (.iconst 0, 1) := by decide +kernel
theorem dX5_goesOn_183 : decode (cr_by Y_X5_goesOn) 183 = .ok (.istore_n 2, 1) := by decide +kernel
theorem dX5_goesOn_184 : decode (cr_by Y_X5_goesOn) 184 = .ok (.iload_n 2, 1) := by decide +kernel
theorem dX5_goesOn_185 : decode (cr_by Y_X5_goesOn) 185 = .ok (.aload_n 0, 1) := by decide +kernel
theorem dX5_goesOn_186 : decode (cr_by Y_X5_goesOn) 186 = .ok (.getfield 142, 3) := by decide +kernel
theorem dX5_goesOn_189 : decode (cr_by Y_X5_goesOn) 189 = .ok (.if_icmp .ge 60, 3) := by decide +kernel
theorem dX5_goesOn_192 : decode (cr_by Y_X5_goesOn) 192 = .ok (.aload_n 0, 1) := by decide +kernel
theorem dX5_goesOn_193 : decode (cr_by Y_X5_goesOn) 193 = .ok (.getfield 59, 3) := by decide +kernel
theorem dX5_goesOn_196 : decode (cr_by Y_X5_goesOn) 196 = .ok (.iload_n 2, 1) := by decide +kernel
theorem dX5_goesOn_197 : decode (cr_by Y_X5_goesOn) 197 = .ok (.iaload, 1) := by decide +kernel
theorem dX5_goesOn_198 : decode (cr_by Y_X5_goesOn) 198 = .ok (.iconst 4, 1) := by decide +kernel
theorem dX5_goesOn_199 : decode (cr_by Y_X5_goesOn) 199 = .ok (.if_icmp .ne 44, 3) := by decide +kernel
theorem dX5_goesOn_202 : decode (cr_by Y_X5_goesOn) 202 = .ok (.aload_n 0, 1) := by decide +kernel
theorem dX5_goesOn_203 : decode (cr_by Y_X5_goesOn) 203 = .ok (.getfield 68, 3) := by decide +kernel
theorem dX5_goesOn_206 : decode (cr_by Y_X5_goesOn) 206 = .ok (.iload_n 2, 1) := by decide +kernel
theorem dX5_goesOn_207 : decode (cr_by Y_X5_goesOn) 207 = .ok (.iaload, 1) := by decide +kernel
theorem dX5_goesOn_208 : decode (cr_by Y_X5_goesOn) 208 = .ok (.aload_n 0, 1) := by decide +kernel
theorem dX5_goesOn_209 : decode (cr_by Y_X5_goesOn) 209 = .ok (.getfield 127, 3) := by decide +kernel
theorem dX5_goesOn_212 : decode (cr_by Y_X5_goesOn) 212 = .ok (.if_icmp .le 6, 3) := by decide +kernel
theorem dX5_goesOn_215 : decode (cr_by Y_X5_goesOn) 215 = .ok (.goto 28, 3) := by decide +kernel
theorem dX5_goesOn_218 : decode (cr_by Y_X5_goesOn) 218 = .ok (.aload_n 0, 1) := by decide +kernel
theorem dX5_goesOn_219 : decode (cr_by Y_X5_goesOn) 219 = .ok (.getfield 59, 3) := by decide +kernel
theorem dX5_goesOn_222 : decode (cr_by Y_X5_goesOn) 222 = .ok (.iload_n 2, 1) := by decide +kernel
theorem dX5_goesOn_223 : decode (cr_by Y_X5_goesOn) 223 = .ok (.iconst 0, 1) := by decide +kernel
theorem dX5_goesOn_224 : decode (cr_by Y_X5_goesOn) 224 = .ok (.iastore, 1) := by decide +kernel
theorem dX5_goesOn_225 : decode (cr_by Y_X5_goesOn) 225 = .ok (.aload_n 0, 1) := by decide +kernel
theorem dX5_goesOn_226 : decode (cr_by Y_X5_goesOn) 226 = .ok (.getfield 62, 3) := by decide +kernel
theorem dX5_goesOn_229 : decode (cr_by Y_X5_goesOn) 229 = .ok (.iload_n 2, 1) := by decide +kernel
theorem dX5_goesOn_230 : decode (cr_by Y_X5_goesOn) 230 = .ok (.aload_n 0, 1) := by decide +kernel
theorem dX5_goesOn_231 : decode (cr_by Y_X5_goesOn) 231 = .ok (.getfield 127, 3) := by decide +kernel
theorem dX5_goesOn_234 : decode (cr_by Y_X5_goesOn) 234 = .ok (.iastore, 1) := by decide +kernel
theorem dX5_goesOn_235 : decode (cr_by Y_X5_goesOn) 235 = .ok (.aload_n 0, 1) := by decide +kernel
theorem dX5_goesOn_236 : decode (cr_by Y_X5_goesOn) 236 = .ok (.getfield 68, 3) := by decide +kernel
theorem dX5_goesOn_239 : decode (cr_by Y_X5_goesOn) 239 = .ok (.iload_n 2, 1) := by decide +kernel
theorem dX5_goesOn_240 : decode (cr_by Y_X5_goesOn) 240 = .ok (.bipush (-9), 2) := by decide +kernel
theorem dX5_goesOn_242 : decode (cr_by Y_X5_goesOn) 242 = .ok (.iastore, 1) := by decide +kernel
theorem dX5_goesOn_243 : decode (cr_by Y_X5_goesOn) 243 = .ok (.iinc 2 1, 3) := by decide +kernel
theorem dX5_goesOn_246 : decode (cr_by Y_X5_goesOn) 246 = .ok (.goto (-62), 3) := by decide +kernel
theorem dX5_goesOn_249 : decode (cr_by Y_X5_goesOn) 249 = .ok (.iconst 0, 1) := by decide +kernel
theorem dX5_goesOn_250 : decode (cr_by Y_X5_goesOn) 250 = .ok (.istore_n 2, 1) := by decide +kernel
theorem dX5_goesOn_251 : decode (cr_by Y_X5_goesOn) 251 = .ok (.iload_n 2, 1) := by decide +kernel
theorem dX5_goesOn_252 : decode (cr_by Y_X5_goesOn) 252 = .ok (.aload_n 0, 1) := by decide +kernel
theorem dX5_goesOn_253 : decode (cr_by Y_X5_goesOn) 253 = .ok (.getfield 142, 3) := by decide +kernel
theorem dX5_goesOn_256 : decode (cr_by Y_X5_goesOn) 256 = .ok (.if_icmp .ge 39, 3) := by decide +kernel
theorem dX5_goesOn_259 : decode (cr_by Y_X5_goesOn) 259 = .ok (.aload_n 0, 1) := by decide +kernel
theorem dX5_goesOn_260 : decode (cr_by Y_X5_goesOn) 260 = .ok (.getfield 59, 3) := by decide +kernel
theorem dX5_goesOn_263 : decode (cr_by Y_X5_goesOn) 263 = .ok (.iload_n 2, 1) := by decide +kernel
theorem dX5_goesOn_264 : decode (cr_by Y_X5_goesOn) 264 = .ok (.iaload, 1) := by decide +kernel
theorem dX5_goesOn_265 : decode (cr_by Y_X5_goesOn) 265 = .ok (.ifCond .ne 24, 3) := by decide +kernel
theorem dX5_goesOn_268 : decode (cr_by Y_X5_goesOn) 268 = .ok (.aload_n 0, 1) := by decide +kernel
theorem dX5_goesOn_269 : decode (cr_by Y_X5_goesOn) 269 = .ok (.iload_n 2, 1) := by decide +kernel
theorem dX5_goesOn_270 : decode (cr_by Y_X5_goesOn) 270 = .ok (.invokevirtual 156, 3) := by decide +kernel
theorem dX5_goesOn_273 : decode (cr_by Y_X5_goesOn) 273 = .ok (.aload_n 0, 1) := by decide +kernel
theorem dX5_goesOn_274 : decode (cr_by Y_X5_goesOn) 274 = .ok (.getfield 50, 3) := by decide +kernel
theorem dX5_goesOn_277 : decode (cr_by Y_X5_goesOn) 277 = .ok (.iload_n 2, 1) := by decide +kernel
theorem dX5_goesOn_278 : decode (cr_by Y_X5_goesOn) 278 = .ok (.iaload, 1) := by decide +kernel
theorem dX5_goesOn_279 : decode (cr_by Y_X5_goesOn) 279 = .ok (.if_icmp .le 10, 3) := by decide +kernel
theorem dX5_goesOn_282 : decode (cr_by Y_X5_goesOn) 282 = .ok (.aload_n 0, 1) := by decide +kernel
theorem dX5_goesOn_283 : decode (cr_by Y_X5_goesOn) 283 = .ok (.getfield 59, 3) := by decide +kernel
theorem dX5_goesOn_286 : decode (cr_by Y_X5_goesOn) 286 = .ok (.iload_n 2, 1) := by decide +kernel
theorem dX5_goesOn_287 : decode (cr_by Y_X5_goesOn) 287 = .ok (.iconst 3, 1) := by decide +kernel
theorem dX5_goesOn_288 : decode (cr_by Y_X5_goesOn) 288 = .ok (.iastore, 1) := by decide +kernel
theorem dX5_goesOn_289 : decode (cr_by Y_X5_goesOn) 289 = .ok (.iinc 2 1, 3) := by decide +kernel
theorem dX5_goesOn_292 : decode (cr_by Y_X5_goesOn) 292 = .ok (.goto (-41), 3) := by decide +kernel
theorem dX5_goesOn_295 : decode (cr_by Y_X5_goesOn) 295 = .ok (.aload_n 0, 1) := by decide +kernel
theorem dX5_goesOn_296 : decode (cr_by Y_X5_goesOn) 296 = .ok (.invokevirtual 185, 3) := by decide +kernel
theorem dX5_goesOn_299 : decode (cr_by Y_X5_goesOn) 299 = .ok (.iload_n 1, 1) := by decide +kernel
theorem dX5_goesOn_300 : decode (cr_by Y_X5_goesOn) 300 = .ok (.ireturn, 1) := by decide +kernel
theorem dX5_ticks_0 : decode (cr_by Y_X5_ticks) 0 = .ok (.iload_n 1, 1) := by decide +kernel
theorem dX5_ticks_1 : decode (cr_by Y_X5_ticks) 1 = .ok (.iconst 1, 1) := by decide +kernel
theorem dX5_ticks_2 : decode (cr_by Y_X5_ticks) 2 = .ok (.if_icmp .ge 10, 3) := by decide +kernel
theorem dX5_ticks_5 : decode (cr_by Y_X5_ticks) 5 = .ok (.aload_n 0, 1) := by decide +kernel
theorem dX5_ticks_6 : decode (cr_by Y_X5_ticks) 6 = .ok (.bipush (-4), 2) := by decide +kernel
theorem dX5_ticks_8 : decode (cr_by Y_X5_ticks) 8 = .ok (.invokevirtual 120, 3) := by decide +kernel
theorem dX5_ticks_11 : decode (cr_by Y_X5_ticks) 11 = .ok (.ireturn, 1) := by decide +kernel
theorem dX5_ticks_12 : decode (cr_by Y_X5_ticks) 12 = .ok (.iload_n 1, 1) := by decide +kernel
theorem dX5_ticks_13 : decode (cr_by Y_X5_ticks) 13 = .ok (.sipush 20000, 3) := by decide +kernel
theorem dX5_ticks_16 : decode (cr_by Y_X5_ticks) 16 = .ok (.aload_n 0, 1) := by decide +kernel
theorem dX5_ticks_17 : decode (cr_by Y_X5_ticks) 17 = .ok (.getfield 127, 3) := by decide +kernel
theorem dX5_ticks_20 : decode (cr_by Y_X5_ticks) 20 = .ok (.isub, 1) := by decide +kernel
theorem dX5_ticks_21 : decode (cr_by Y_X5_ticks) 21 = .ok (.if_icmp .le 10, 3) := by decide +kernel
theorem dX5_ticks_24 : decode (cr_by Y_X5_ticks) 24 = .ok (.aload_n 0, 1) := by decide +kernel
theorem dX5_ticks_25 : decode (cr_by Y_X5_ticks) 25 = .ok (.bipush (-6), 2) := by decide +kernel
theorem dX5_ticks_27 : decode (cr_by Y_X5_ticks) 27 = .ok (.invokevirtual 120, 3) := by decide +kernel
theorem dX5_ticks_30 : decode (cr_by Y_X5_ticks) 30 = .ok (.ireturn, 1) := by decide +kernel
theorem dX5_ticks_31 : decode (cr_by Y_X5_ticks) 31 = .ok (.iconst 0, 1) := by decide +kernel
theorem dX5_ticks_32 : decode (cr_by Y_X5_ticks) 32 = .ok (.istore_n 2, 1) := by decide +kernel
theorem dX5_ticks_33 : decode (cr_by Y_X5_ticks) 33 = .ok (.iconst 0, 1) := by decide +kernel
theorem dX5_ticks_34 : decode (cr_by Y_X5_ticks) 34 = .ok (.istore_n 3, 1) := by decide +kernel
theorem dX5_ticks_35 : decode (cr_by Y_X5_ticks) 35 = .ok (.iload_n 3, 1) := by decide +kernel
theorem dX5_ticks_36 : decode (cr_by Y_X5_ticks) 36 = .ok (.iload_n 1, 1) := by decide +kernel
theorem dX5_ticks_37 : decode (cr_by Y_X5_ticks) 37 = .ok (.if_icmp .ge 16, 3) := by decide +kernel
theorem dX5_ticks_40 : decode (cr_by Y_X5_ticks) 40 = .ok (.iload_n 2, 1) := by decide +kernel
theorem dX5_ticks_41 : decode (cr_by Y_X5_ticks) 41 = .ok (.aload_n 0, 1) := by decide +kernel
theorem dX5_ticks_42 : decode (cr_by Y_X5_ticks) 42 = .ok (.invokevirtual 188, 3) := by decide +kernel
theorem dX5_ticks_45 : decode (cr_by Y_X5_ticks) 45 = .ok (.iadd, 1) := by decide +kernel
theorem dX5_ticks_46 : decode (cr_by Y_X5_ticks) 46 = .ok (.istore_n 2, 1) := by decide +kernel
theorem dX5_ticks_47 : decode (cr_by Y_X5_ticks) 47 = .ok (.iinc 3 1, 3) := by decide +kernel
theorem dX5_ticks_50 : decode (cr_by Y_X5_ticks) 50 = .ok (.goto (-15), 3) := by decide +kernel
theorem dX5_ticks_53 : decode (cr_by Y_X5_ticks) 53 = .ok (.iload_n 2, 1) := by decide +kernel
theorem dX5_ticks_54 : decode (cr_by Y_X5_ticks) 54 = .ok (.ireturn, 1) := by decide +kernel
theorem dX5_keep_0 : decode (cr_by Y_X5_keep) 0 = .ok (.aload_n 0, 1) := by decide +kernel
theorem dX5_keep_1 : decode (cr_by Y_X5_keep) 1 = .ok (.aload_n 0, 1) := by decide +kernel
theorem dX5_keep_2 : decode (cr_by Y_X5_keep) 2 = .ok (.getfield 127, 3) := by decide +kernel
theorem dX5_keep_5 : decode (cr_by Y_X5_keep) 5 = .ok (.putfield 191, 3) := by decide +kernel
theorem dX5_keep_8 : decode (cr_by Y_X5_keep) 8 = .ok (.iconst 0, 1) := by decide +kernel
theorem dX5_keep_9 : decode (cr_by Y_X5_keep) 9 = .ok (.istore_n 1, 1) := by decide +kernel
theorem dX5_keep_10 : decode (cr_by Y_X5_keep) 10 = .ok (.iload_n 1, 1) := by decide +kernel
theorem dX5_keep_11 : decode (cr_by Y_X5_keep) 11 = .ok (.aload_n 0, 1) := by decide +kernel
theorem dX5_keep_12 : decode (cr_by Y_X5_keep) 12 = .ok (.getfield 124, 3) := by decide +kernel
theorem dX5_keep_15 : decode (cr_by Y_X5_keep) 15 = .ok (.if_icmp .ge 81, 3) := by decide +kernel
theorem dX5_keep_18 : decode (cr_by Y_X5_keep) 18 = .ok (.aload_n 0, 1) := by decide +kernel
theorem dX5_keep_19 : decode (cr_by Y_X5_keep) 19 = .ok (.getfield 90, 3) := by decide +kernel
theorem dX5_keep_22 : decode (cr_by Y_X5_keep) 22 = .ok (.iload_n 1, 1) := by decide +kernel
theorem dX5_keep_23 : decode (cr_by Y_X5_keep) 23 = .ok (.aload_n 0, 1) := by decide +kernel
theorem dX5_keep_24 : decode (cr_by Y_X5_keep) 24 = .ok (.getfield 26, 3) := by decide +kernel
theorem dX5_keep_27 : decode (cr_by Y_X5_keep) 27 = .ok (.iload_n 1, 1) := by decide +kernel
theorem dX5_keep_28 : decode (cr_by Y_X5_keep) 28 = .ok (.iaload, 1) := by decide +kernel
theorem dX5_keep_29 : decode (cr_by Y_X5_keep) 29 = .ok (.iastore, 1) := by decide +kernel
theorem dX5_keep_30 : decode (cr_by Y_X5_keep) 30 = .ok (.aload_n 0, 1) := by decide +kernel
theorem dX5_keep_31 : decode (cr_by Y_X5_keep) 31 = .ok (.getfield 93, 3) := by decide +kernel
theorem dX5_keep_34 : decode (cr_by Y_X5_keep) 34 = .ok (.iload_n 1, 1) := by decide +kernel
theorem dX5_keep_35 : decode (cr_by Y_X5_keep) 35 = .ok (.aload_n 0, 1) := by decide +kernel
theorem dX5_keep_36 : decode (cr_by Y_X5_keep) 36 = .ok (.getfield 29, 3) := by decide +kernel
theorem dX5_keep_39 : decode (cr_by Y_X5_keep) 39 = .ok (.iload_n 1, 1) := by decide +kernel
theorem dX5_keep_40 : decode (cr_by Y_X5_keep) 40 = .ok (.iaload, 1) := by decide +kernel
theorem dX5_keep_41 : decode (cr_by Y_X5_keep) 41 = .ok (.iastore, 1) := by decide +kernel
theorem dX5_keep_42 : decode (cr_by Y_X5_keep) 42 = .ok (.aload_n 0, 1) := by decide +kernel
theorem dX5_keep_43 : decode (cr_by Y_X5_keep) 43 = .ok (.getfield 96, 3) := by decide +kernel
theorem dX5_keep_46 : decode (cr_by Y_X5_keep) 46 = .ok (.iload_n 1, 1) := by decide +kernel
theorem dX5_keep_47 : decode (cr_by Y_X5_keep) 47 = .ok (.aload_n 0, 1) := by decide +kernel
theorem dX5_keep_48 : decode (cr_by Y_X5_keep) 48 = .ok (.getfield 35, 3) := by decide +kernel
theorem dX5_keep_51 : decode (cr_by Y_X5_keep) 51 = .ok (.iload_n 1, 1) := by decide +kernel
theorem dX5_keep_52 : decode (cr_by Y_X5_keep) 52 = .ok (.iaload, 1) := by decide +kernel
theorem dX5_keep_53 : decode (cr_by Y_X5_keep) 53 = .ok (.iastore, 1) := by decide +kernel
theorem dX5_keep_54 : decode (cr_by Y_X5_keep) 54 = .ok (.aload_n 0, 1) := by decide +kernel
theorem dX5_keep_55 : decode (cr_by Y_X5_keep) 55 = .ok (.getfield 99, 3) := by decide +kernel
theorem dX5_keep_58 : decode (cr_by Y_X5_keep) 58 = .ok (.iload_n 1, 1) := by decide +kernel
theorem dX5_keep_59 : decode (cr_by Y_X5_keep) 59 = .ok (.aload_n 0, 1) := by decide +kernel
theorem dX5_keep_60 : decode (cr_by Y_X5_keep) 60 = .ok (.getfield 38, 3) := by decide +kernel
theorem dX5_keep_63 : decode (cr_by Y_X5_keep) 63 = .ok (.iload_n 1, 1) := by decide +kernel
theorem dX5_keep_64 : decode (cr_by Y_X5_keep) 64 = .ok (.iaload, 1) := by decide +kernel
theorem dX5_keep_65 : decode (cr_by Y_X5_keep) 65 = .ok (.iastore, 1) := by decide +kernel
theorem dX5_keep_66 : decode (cr_by Y_X5_keep) 66 = .ok (.aload_n 0, 1) := by decide +kernel
theorem dX5_keep_67 : decode (cr_by Y_X5_keep) 67 = .ok (.getfield 80, 3) := by decide +kernel
theorem dX5_keep_70 : decode (cr_by Y_X5_keep) 70 = .ok (.iload_n 1, 1) := by decide +kernel
theorem dX5_keep_71 : decode (cr_by Y_X5_keep) 71 = .ok (.aload_n 0, 1) := by decide +kernel
theorem dX5_keep_72 : decode (cr_by Y_X5_keep) 72 = .ok (.getfield 77, 3) := by decide +kernel
theorem dX5_keep_75 : decode (cr_by Y_X5_keep) 75 = .ok (.iload_n 1, 1) := by decide +kernel
theorem dX5_keep_76 : decode (cr_by Y_X5_keep) 76 = .ok (.iaload, 1) := by decide +kernel
theorem dX5_keep_77 : decode (cr_by Y_X5_keep) 77 = .ok (.iastore, 1) := by decide +kernel
theorem dX5_keep_78 : decode (cr_by Y_X5_keep) 78 = .ok (.aload_n 0, 1) := by decide +kernel
theorem dX5_keep_79 : decode (cr_by Y_X5_keep) 79 = .ok (.getfield 87, 3) := by decide +kernel
theorem dX5_keep_82 : decode (cr_by Y_X5_keep) 82 = .ok (.iload_n 1, 1) := by decide +kernel
theorem dX5_keep_83 : decode (cr_by Y_X5_keep) 83 = .ok (.aload_n 0, 1) := by decide +kernel
theorem dX5_keep_84 : decode (cr_by Y_X5_keep) 84 = .ok (.getfield 83, 3) := by decide +kernel
theorem dX5_keep_87 : decode (cr_by Y_X5_keep) 87 = .ok (.iload_n 1, 1) := by decide +kernel
theorem dX5_keep_88 : decode (cr_by Y_X5_keep) 88 = .ok (.baload, 1) := by decide +kernel
theorem dX5_keep_89 : decode (cr_by Y_X5_keep) 89 = .ok (.bastore, 1) := by decide +kernel
theorem dX5_keep_90 : decode (cr_by Y_X5_keep) 90 = .ok (.iinc 1 1, 3) := by decide +kernel
theorem dX5_keep_93 : decode (cr_by Y_X5_keep) 93 = .ok (.goto (-83), 3) := by decide +kernel
theorem dX5_keep_96 : decode (cr_by Y_X5_keep) 96 = .ok (.iconst 0, 1) := by decide +kernel
theorem dX5_keep_97 : decode (cr_by Y_X5_keep) 97 = .ok (.istore_n 1, 1) := by decide +kernel
theorem dX5_keep_98 : decode (cr_by Y_X5_keep) 98 = .ok (.iload_n 1, 1) := by decide +kernel
theorem dX5_keep_99 : decode (cr_by Y_X5_keep) 99 = .ok (.aload_n 0, 1) := by decide +kernel
theorem dX5_keep_100 : decode (cr_by Y_X5_keep) 100 = .ok (.getfield 142, 3) := by decide +kernel
theorem dX5_keep_103 : decode (cr_by Y_X5_keep) 103 = .ok (.if_icmp .ge 81, 3) := by decide +kernel
theorem dX5_keep_106 : decode (cr_by Y_X5_keep) 106 = .ok (.aload_n 0, 1) := by decide +kernel
theorem dX5_keep_107 : decode (cr_by Y_X5_keep) 107 = .ok (.getfield 102, 3) := by decide +kernel
theorem dX5_keep_110 : decode (cr_by Y_X5_keep) 110 = .ok (.iload_n 1, 1) := by decide +kernel
theorem dX5_keep_111 : decode (cr_by Y_X5_keep) 111 = .ok (.aload_n 0, 1) := by decide +kernel
theorem dX5_keep_112 : decode (cr_by Y_X5_keep) 112 = .ok (.getfield 59, 3) := by decide +kernel
theorem dX5_keep_115 : decode (cr_by Y_X5_keep) 115 = .ok (.iload_n 1, 1) := by decide +kernel
theorem dX5_keep_116 : decode (cr_by Y_X5_keep) 116 = .ok (.iaload, 1) := by decide +kernel
theorem dX5_keep_117 : decode (cr_by Y_X5_keep) 117 = .ok (.iastore, 1) := by decide +kernel
theorem dX5_keep_118 : decode (cr_by Y_X5_keep) 118 = .ok (.aload_n 0, 1) := by decide +kernel
theorem dX5_keep_119 : decode (cr_by Y_X5_keep) 119 = .ok (.getfield 105, 3) := by decide +kernel
theorem dX5_keep_122 : decode (cr_by Y_X5_keep) 122 = .ok (.iload_n 1, 1) := by decide +kernel
theorem dX5_keep_123 : decode (cr_by Y_X5_keep) 123 = .ok (.aload_n 0, 1) := by decide +kernel
theorem dX5_keep_124 : decode (cr_by Y_X5_keep) 124 = .ok (.getfield 62, 3) := by decide +kernel
theorem dX5_keep_127 : decode (cr_by Y_X5_keep) 127 = .ok (.iload_n 1, 1) := by decide +kernel
theorem dX5_keep_128 : decode (cr_by Y_X5_keep) 128 = .ok (.iaload, 1) := by decide +kernel
theorem dX5_keep_129 : decode (cr_by Y_X5_keep) 129 = .ok (.iastore, 1) := by decide +kernel
theorem dX5_keep_130 : decode (cr_by Y_X5_keep) 130 = .ok (.aload_n 0, 1) := by decide +kernel
theorem dX5_keep_131 : decode (cr_by Y_X5_keep) 131 = .ok (.getfield 108, 3) := by decide +kernel
theorem dX5_keep_134 : decode (cr_by Y_X5_keep) 134 = .ok (.iload_n 1, 1) := by decide +kernel
theorem dX5_keep_135 : decode (cr_by Y_X5_keep) 135 = .ok (.aload_n 0, 1) := by decide +kernel
theorem dX5_keep_136 : decode (cr_by Y_X5_keep) 136 = .ok (.getfield 65, 3) := by decide +kernel
theorem dX5_keep_139 : decode (cr_by Y_X5_keep) 139 = .ok (.iload_n 1, 1) := by decide +kernel
theorem dX5_keep_140 : decode (cr_by Y_X5_keep) 140 = .ok (.iaload, 1) := by decide +kernel
theorem dX5_keep_141 : decode (cr_by Y_X5_keep) 141 = .ok (.iastore, 1) := by decide +kernel
theorem dX5_keep_142 : decode (cr_by Y_X5_keep) 142 = .ok (.aload_n 0, 1) := by decide +kernel
theorem dX5_keep_143 : decode (cr_by Y_X5_keep) 143 = .ok (.getfield 111, 3) := by decide +kernel
theorem dX5_keep_146 : decode (cr_by Y_X5_keep) 146 = .ok (.iload_n 1, 1) := by decide +kernel
theorem dX5_keep_147 : decode (cr_by Y_X5_keep) 147 = .ok (.aload_n 0, 1) := by decide +kernel
theorem dX5_keep_148 : decode (cr_by Y_X5_keep) 148 = .ok (.getfield 68, 3) := by decide +kernel
theorem dX5_keep_151 : decode (cr_by Y_X5_keep) 151 = .ok (.iload_n 1, 1) := by decide +kernel
theorem dX5_keep_152 : decode (cr_by Y_X5_keep) 152 = .ok (.iaload, 1) := by decide +kernel
theorem dX5_keep_153 : decode (cr_by Y_X5_keep) 153 = .ok (.iastore, 1) := by decide +kernel
theorem dX5_keep_154 : decode (cr_by Y_X5_keep) 154 = .ok (.aload_n 0, 1) := by decide +kernel
theorem dX5_keep_155 : decode (cr_by Y_X5_keep) 155 = .ok (.getfield 114, 3) := by decide +kernel
theorem dX5_keep_158 : decode (cr_by Y_X5_keep) 158 = .ok (.iload_n 1, 1) := by decide +kernel
theorem dX5_keep_159 : decode (cr_by Y_X5_keep) 159 = .ok (.aload_n 0, 1) := by decide +kernel
theorem dX5_keep_160 : decode (cr_by Y_X5_keep) 160 = .ok (.getfield 71, 3) := by decide +kernel
theorem dX5_keep_163 : decode (cr_by Y_X5_keep) 163 = .ok (.iload_n 1, 1) := by decide +kernel
theorem dX5_keep_164 : decode (cr_by Y_X5_keep) 164 = .ok (.iaload, 1) := by decide +kernel
theorem dX5_keep_165 : decode (cr_by Y_X5_keep) 165 = .ok (.iastore, 1) := by decide +kernel
theorem dX5_keep_166 : decode (cr_by Y_X5_keep) 166 = .ok (.aload_n 0, 1) := by decide +kernel
theorem dX5_keep_167 : decode (cr_by Y_X5_keep) 167 = .ok (.getfield 117, 3) := by decide +kernel
theorem dX5_keep_170 : decode (cr_by Y_X5_keep) 170 = .ok (.iload_n 1, 1) := by decide +kernel
theorem dX5_keep_171 : decode (cr_by Y_X5_keep) 171 = .ok (.aload_n 0, 1) := by decide +kernel
theorem dX5_keep_172 : decode (cr_by Y_X5_keep) 172 = .ok (.getfield 74, 3) := by decide +kernel
theorem dX5_keep_175 : decode (cr_by Y_X5_keep) 175 = .ok (.iload_n 1, 1) := by decide +kernel
theorem dX5_keep_176 : decode (cr_by Y_X5_keep) 176 = .ok (.iaload, 1) := by decide +kernel
theorem dX5_keep_177 : decode (cr_by Y_X5_keep) 177 = .ok (.iastore, 1) := by decide +kernel
theorem dX5_keep_178 : decode (cr_by Y_X5_keep) 178 = .ok (.iinc 1 1, 3) := by decide +kernel
theorem dX5_keep_181 : decode (cr_by Y_X5_keep) 181 = .ok (.goto (-83), 3) := by decide +kernel
theorem dX5_keep_184 : decode (cr_by Y_X5_keep) 184 = .ok (.return_, 1) := by decide +kernel
theorem dX5_putBack_0 : decode (cr_by Y_X5_putBack) 0 = .ok (.aload_n 0, 1) := by decide +kernel
theorem dX5_putBack_1 : decode (cr_by Y_X5_putBack) 1 = .ok (.aload_n 0, 1) := by decide +kernel
theorem dX5_putBack_2 : decode (cr_by Y_X5_putBack) 2 = .ok (.getfield 191, 3) := by decide +kernel
theorem dX5_putBack_5 : decode (cr_by Y_X5_putBack) 5 = .ok (.putfield 127, 3) := by decide +kernel
theorem dX5_putBack_8 : decode (cr_by Y_X5_putBack) 8 = .ok (.iconst 0, 1) := by decide +kernel
theorem dX5_putBack_9 : decode (cr_by Y_X5_putBack) 9 = .ok (.istore_n 1, 1) := by decide +kernel
theorem dX5_putBack_10 : decode (cr_by Y_X5_putBack) 10 = .ok (.iload_n 1, 1) := by decide +kernel
theorem dX5_putBack_11 : decode (cr_by Y_X5_putBack) 11 = .ok (.aload_n 0, 1) := by decide +kernel
theorem dX5_putBack_12 : decode (cr_by Y_X5_putBack) 12 = .ok (.getfield 124, 3) := by decide +kernel
theorem dX5_putBack_15 : decode (cr_by Y_X5_putBack) 15 = .ok (.if_icmp .ge 81, 3) := by decide +kernel
theorem dX5_putBack_18 : decode (cr_by Y_X5_putBack) 18 = .ok (.aload_n 0, 1) := by decide +kernel
theorem dX5_putBack_19 : decode (cr_by Y_X5_putBack) 19 = .ok (.getfield 26, 3) := by decide +kernel
theorem dX5_putBack_22 : decode (cr_by Y_X5_putBack) 22 = .ok (.iload_n 1, 1) := by decide +kernel
theorem dX5_putBack_23 : decode (cr_by Y_X5_putBack) 23 = .ok (.aload_n 0, 1) := by decide +kernel
theorem dX5_putBack_24 : decode (cr_by Y_X5_putBack) 24 = .ok (.getfield 90, 3) := by decide +kernel
theorem dX5_putBack_27 : decode (cr_by Y_X5_putBack) 27 = .ok (.iload_n 1, 1) := by decide +kernel
theorem dX5_putBack_28 : decode (cr_by Y_X5_putBack) 28 = .ok (.iaload, 1) := by decide +kernel
theorem dX5_putBack_29 : decode (cr_by Y_X5_putBack) 29 = .ok (.iastore, 1) := by decide +kernel
theorem dX5_putBack_30 : decode (cr_by Y_X5_putBack) 30 = .ok (.aload_n 0, 1) := by decide +kernel
theorem dX5_putBack_31 : decode (cr_by Y_X5_putBack) 31 = .ok (.getfield 29, 3) := by decide +kernel
theorem dX5_putBack_34 : decode (cr_by Y_X5_putBack) 34 = .ok (.iload_n 1, 1) := by decide +kernel
theorem dX5_putBack_35 : decode (cr_by Y_X5_putBack) 35 = .ok (.aload_n 0, 1) := by decide +kernel
theorem dX5_putBack_36 : decode (cr_by Y_X5_putBack) 36 = .ok (.getfield 93, 3) := by decide +kernel
theorem dX5_putBack_39 : decode (cr_by Y_X5_putBack) 39 = .ok (.iload_n 1, 1) := by decide +kernel
theorem dX5_putBack_40 : decode (cr_by Y_X5_putBack) 40 = .ok (.iaload, 1) := by decide +kernel
theorem dX5_putBack_41 : decode (cr_by Y_X5_putBack) 41 = .ok (.iastore, 1) := by decide +kernel
theorem dX5_putBack_42 : decode (cr_by Y_X5_putBack) 42 = .ok (.aload_n 0, 1) := by decide +kernel
theorem dX5_putBack_43 : decode (cr_by Y_X5_putBack) 43 = .ok (.getfield 35, 3) := by decide +kernel
theorem dX5_putBack_46 : decode (cr_by Y_X5_putBack) 46 = .ok (.iload_n 1, 1) := by decide +kernel
theorem dX5_putBack_47 : decode (cr_by Y_X5_putBack) 47 = .ok (.aload_n 0, 1) := by decide +kernel
theorem dX5_putBack_48 : decode (cr_by Y_X5_putBack) 48 = .ok (.getfield 96, 3) := by decide +kernel
theorem dX5_putBack_51 : decode (cr_by Y_X5_putBack) 51 = .ok (.iload_n 1, 1) := by decide +kernel
theorem dX5_putBack_52 : decode (cr_by Y_X5_putBack) 52 = .ok (.iaload, 1) := by decide +kernel
theorem dX5_putBack_53 : decode (cr_by Y_X5_putBack) 53 = .ok (.iastore, 1) := by decide +kernel
theorem dX5_putBack_54 : decode (cr_by Y_X5_putBack) 54 = .ok (.aload_n 0, 1) := by decide +kernel
theorem dX5_putBack_55 : decode (cr_by Y_X5_putBack) 55 = .ok (.getfield 38, 3) := by decide +kernel
theorem dX5_putBack_58 : decode (cr_by Y_X5_putBack) 58 = .ok (.iload_n 1, 1) := by decide +kernel
theorem dX5_putBack_59 : decode (cr_by Y_X5_putBack) 59 = .ok (.aload_n 0, 1) := by decide +kernel
theorem dX5_putBack_60 : decode (cr_by Y_X5_putBack) 60 = .ok (.getfield 99, 3) := by decide +kernel
theorem dX5_putBack_63 : decode (cr_by Y_X5_putBack) 63 = .ok (.iload_n 1, 1) := by decide +kernel
theorem dX5_putBack_64 : decode (cr_by Y_X5_putBack) 64 = .ok (.iaload, 1) := by decide +kernel
theorem dX5_putBack_65 : decode (cr_by Y_X5_putBack) 65 = .ok (.iastore, 1) := by decide +kernel
theorem dX5_putBack_66 : decode (cr_by Y_X5_putBack) 66 = .ok (.aload_n 0, 1) := by decide +kernel
theorem dX5_putBack_67 : decode (cr_by Y_X5_putBack) 67 = .ok (.getfield 77, 3) := by decide +kernel
theorem dX5_putBack_70 : decode (cr_by Y_X5_putBack) 70 = .ok (.iload_n 1, 1) := by decide +kernel
theorem dX5_putBack_71 : decode (cr_by Y_X5_putBack) 71 = .ok (.aload_n 0, 1) := by decide +kernel
theorem dX5_putBack_72 : decode (cr_by Y_X5_putBack) 72 = .ok (.getfield 80, 3) := by decide +kernel
theorem dX5_putBack_75 : decode (cr_by Y_X5_putBack) 75 = .ok (.iload_n 1, 1) := by decide +kernel
theorem dX5_putBack_76 : decode (cr_by Y_X5_putBack) 76 = .ok (.iaload, 1) := by decide +kernel
theorem dX5_putBack_77 : decode (cr_by Y_X5_putBack) 77 = .ok (.iastore, 1) := by decide +kernel
theorem dX5_putBack_78 : decode (cr_by Y_X5_putBack) 78 = .ok (.aload_n 0, 1) := by decide +kernel
theorem dX5_putBack_79 : decode (cr_by Y_X5_putBack) 79 = .ok (.getfield 83, 3) := by decide +kernel
theorem dX5_putBack_82 : decode (cr_by Y_X5_putBack) 82 = .ok (.iload_n 1, 1) := by decide +kernel
theorem dX5_putBack_83 : decode (cr_by Y_X5_putBack) 83 = .ok (.aload_n 0, 1) := by decide +kernel
theorem dX5_putBack_84 : decode (cr_by Y_X5_putBack) 84 = .ok (.getfield 87, 3) := by decide +kernel
theorem dX5_putBack_87 : decode (cr_by Y_X5_putBack) 87 = .ok (.iload_n 1, 1) := by decide +kernel
theorem dX5_putBack_88 : decode (cr_by Y_X5_putBack) 88 = .ok (.baload, 1) := by decide +kernel
theorem dX5_putBack_89 : decode (cr_by Y_X5_putBack) 89 = .ok (.bastore, 1) := by decide +kernel
theorem dX5_putBack_90 : decode (cr_by Y_X5_putBack) 90 = .ok (.iinc 1 1, 3) := by decide +kernel
theorem dX5_putBack_93 : decode (cr_by Y_X5_putBack) 93 = .ok (.goto (-83), 3) := by decide +kernel
theorem dX5_putBack_96 : decode (cr_by Y_X5_putBack) 96 = .ok (.iconst 0, 1) := by decide +kernel
theorem dX5_putBack_97 : decode (cr_by Y_X5_putBack) 97 = .ok (.istore_n 1, 1) := by decide +kernel
theorem dX5_putBack_98 : decode (cr_by Y_X5_putBack) 98 = .ok (.iload_n 1, 1) := by decide +kernel
theorem dX5_putBack_99 : decode (cr_by Y_X5_putBack) 99 = .ok (.aload_n 0, 1) := by decide +kernel
theorem dX5_putBack_100 : decode (cr_by Y_X5_putBack) 100 = .ok (.getfield 142, 3) := by decide +kernel
theorem dX5_putBack_103 : decode (cr_by Y_X5_putBack) 103 = .ok (.if_icmp .ge 81, 3) := by decide +kernel
theorem dX5_putBack_106 : decode (cr_by Y_X5_putBack) 106 = .ok (.aload_n 0, 1) := by decide +kernel
theorem dX5_putBack_107 : decode (cr_by Y_X5_putBack) 107 = .ok (.getfield 59, 3) := by decide +kernel
theorem dX5_putBack_110 : decode (cr_by Y_X5_putBack) 110 = .ok (.iload_n 1, 1) := by decide +kernel
theorem dX5_putBack_111 : decode (cr_by Y_X5_putBack) 111 = .ok (.aload_n 0, 1) := by decide +kernel
theorem dX5_putBack_112 : decode (cr_by Y_X5_putBack) 112 = .ok (.getfield 102, 3) := by decide +kernel
theorem dX5_putBack_115 : decode (cr_by Y_X5_putBack) 115 = .ok (.iload_n 1, 1) := by decide +kernel
theorem dX5_putBack_116 : decode (cr_by Y_X5_putBack) 116 = .ok (.iaload, 1) := by decide +kernel
theorem dX5_putBack_117 : decode (cr_by Y_X5_putBack) 117 = .ok (.iastore, 1) := by decide +kernel
theorem dX5_putBack_118 : decode (cr_by Y_X5_putBack) 118 = .ok (.aload_n 0, 1) := by decide +kernel
theorem dX5_putBack_119 : decode (cr_by Y_X5_putBack) 119 = .ok (.getfield 62, 3) := by decide +kernel
theorem dX5_putBack_122 : decode (cr_by Y_X5_putBack) 122 = .ok (.iload_n 1, 1) := by decide +kernel
theorem dX5_putBack_123 : decode (cr_by Y_X5_putBack) 123 = .ok (.aload_n 0, 1) := by decide +kernel
theorem dX5_putBack_124 : decode (cr_by Y_X5_putBack) 124 = .ok (.getfield 105, 3) := by decide +kernel
theorem dX5_putBack_127 : decode (cr_by Y_X5_putBack) 127 = .ok (.iload_n 1, 1) := by decide +kernel
theorem dX5_putBack_128 : decode (cr_by Y_X5_putBack) 128 = .ok (.iaload, 1) := by decide +kernel
theorem dX5_putBack_129 : decode (cr_by Y_X5_putBack) 129 = .ok (.iastore, 1) := by decide +kernel
theorem dX5_putBack_130 : decode (cr_by Y_X5_putBack) 130 = .ok (.aload_n 0, 1) := by decide +kernel
theorem dX5_putBack_131 : decode (cr_by Y_X5_putBack) 131 = .ok (.getfield 65, 3) := by decide +kernel
theorem dX5_putBack_134 : decode (cr_by Y_X5_putBack) 134 = .ok (.iload_n 1, 1) := by decide +kernel
theorem dX5_putBack_135 : decode (cr_by Y_X5_putBack) 135 = .ok (.aload_n 0, 1) := by decide +kernel
theorem dX5_putBack_136 : decode (cr_by Y_X5_putBack) 136 = .ok (.getfield 108, 3) := by decide +kernel
theorem dX5_putBack_139 : decode (cr_by Y_X5_putBack) 139 = .ok (.iload_n 1, 1) := by decide +kernel
theorem dX5_putBack_140 : decode (cr_by Y_X5_putBack) 140 = .ok (.iaload, 1) := by decide +kernel
theorem dX5_putBack_141 : decode (cr_by Y_X5_putBack) 141 = .ok (.iastore, 1) := by decide +kernel
theorem dX5_putBack_142 : decode (cr_by Y_X5_putBack) 142 = .ok (.aload_n 0, 1) := by decide +kernel
theorem dX5_putBack_143 : decode (cr_by Y_X5_putBack) 143 = .ok (.getfield 68, 3) := by decide +kernel
theorem dX5_putBack_146 : decode (cr_by Y_X5_putBack) 146 = .ok (.iload_n 1, 1) := by decide +kernel
theorem dX5_putBack_147 : decode (cr_by Y_X5_putBack) 147 = .ok (.aload_n 0, 1) := by decide +kernel
theorem dX5_putBack_148 : decode (cr_by Y_X5_putBack) 148 = .ok (.getfield 111, 3) := by decide +kernel
theorem dX5_putBack_151 : decode (cr_by Y_X5_putBack) 151 = .ok (.iload_n 1, 1) := by decide +kernel
theorem dX5_putBack_152 : decode (cr_by Y_X5_putBack) 152 = .ok (.iaload, 1) := by decide +kernel
theorem dX5_putBack_153 : decode (cr_by Y_X5_putBack) 153 = .ok (.iastore, 1) := by decide +kernel
theorem dX5_putBack_154 : decode (cr_by Y_X5_putBack) 154 = .ok (.aload_n 0, 1) := by decide +kernel
theorem dX5_putBack_155 : decode (cr_by Y_X5_putBack) 155 = .ok (.getfield 71, 3) := by decide +kernel
theorem dX5_putBack_158 : decode (cr_by Y_X5_putBack) 158 = .ok (.iload_n 1, 1) := by decide +kernel
theorem dX5_putBack_159 : decode (cr_by Y_X5_putBack) 159 = .ok (.aload_n 0, 1) := by decide +kernel
theorem dX5_putBack_160 : decode (cr_by Y_X5_putBack) 160 = .ok (.getfield 114, 3) := by decide +kernel
theorem dX5_putBack_163 : decode (cr_by Y_X5_putBack) 163 = .ok (.iload_n 1, 1) := by decide +kernel
theorem dX5_putBack_164 : decode (cr_by Y_X5_putBack) 164 = .ok (.iaload, 1) := by decide +kernel
theorem dX5_putBack_165 : decode (cr_by Y_X5_putBack) 165 = .ok (.iastore, 1) := by decide +kernel
theorem dX5_putBack_166 : decode (cr_by Y_X5_putBack) 166 = .ok (.aload_n 0, 1) := by decide +kernel
theorem dX5_putBack_167 : decode (cr_by Y_X5_putBack) 167 = .ok (.getfield 74, 3) := by decide +kernel
theorem dX5_putBack_170 : decode (cr_by Y_X5_putBack) 170 = .ok (.iload_n 1, 1) := by decide +kernel
theorem dX5_putBack_171 : decode (cr_by Y_X5_putBack) 171 = .ok (.aload_n 0, 1) := by decide +kernel
theorem dX5_putBack_172 : decode (cr_by Y_X5_putBack) 172 = .ok (.getfield 117, 3) := by decide +kernel
theorem dX5_putBack_175 : decode (cr_by Y_X5_putBack) 175 = .ok (.iload_n 1, 1) := by decide +kernel
theorem dX5_putBack_176 : decode (cr_by Y_X5_putBack) 176 = .ok (.iaload, 1) := by decide +kernel
theorem dX5_putBack_177 : decode (cr_by Y_X5_putBack) 177 = .ok (.iastore, 1) := by decide +kernel
theorem dX5_putBack_178 : decode (cr_by Y_X5_putBack) 178 = .ok (.iinc 1 1, 3) := by decide +kernel
theorem dX5_putBack_181 : decode (cr_by Y_X5_putBack) 181 = .ok (.goto (-83), 3) := by decide +kernel
theorem dX5_putBack_184 : decode (cr_by Y_X5_putBack) 184 = .ok (.return_, 1) := by decide +kernel
theorem dX5_wait_0 : decode (cr_by Y_X5_wait) 0 = .ok (.iload_n 1, 1) := by decide +kernel
theorem dX5_wait_1 : decode (cr_by Y_X5_wait) 1 = .ok (.aload_n 0, 1) := by decide +kernel
theorem dX5_wait_2 : decode (cr_by Y_X5_wait) 2 = .ok (.getfield 142, 3) := by decide +kernel
theorem dX5_wait_5 : decode (cr_by Y_X5_wait) 5 = .ok (.invokestatic 130, 3) := by decide +kernel
theorem dX5_wait_8 : decode (cr_by Y_X5_wait) 8 = .ok (.ifCond .ne 9, 3) := by decide +kernel
theorem dX5_wait_11 : decode (cr_by Y_X5_wait) 11 = .ok (.aload_n 0, 1) := by decide +kernel
theorem dX5_wait_12 : decode (cr_by Y_X5_wait) 12 = .ok (.iconst (-1), 1) := by decide +kernel
theorem dX5_wait_13 : decode (cr_by Y_X5_wait) 13 = .ok (.invokevirtual 120, 3) := by decide +kernel
theorem dX5_wait_16 : decode (cr_by Y_X5_wait) 16 = .ok (.ireturn, 1) := by decide +kernel
theorem dX5_wait_17 : decode (cr_by Y_X5_wait) 17 = .ok (.aload_n 0, 1) := by decide +kernel
theorem dX5_wait_18 : decode (cr_by Y_X5_wait) 18 = .ok (.getfield 59, 3) := by decide +kernel
theorem dX5_wait_21 : decode (cr_by Y_X5_wait) 21 = .ok (.iload_n 1, 1) := by decide +kernel
theorem dX5_wait_22 : decode (cr_by Y_X5_wait) 22 = .ok (.iaload, 1) := by decide +kernel
theorem dX5_wait_23 : decode (cr_by Y_X5_wait) 23 = .ok (.ifCond .eq 10, 3) := by decide +kernel
theorem dX5_wait_26 : decode (cr_by Y_X5_wait) 26 = .ok (.aload_n 0, 1) := by decide +kernel
theorem dX5_wait_27 : decode (cr_by Y_X5_wait) 27 = .ok (.bipush (-2), 2) := by decide +kernel
theorem dX5_wait_29 : decode (cr_by Y_X5_wait) 29 = .ok (.invokevirtual 120, 3) := by decide +kernel
theorem dX5_wait_32 : decode (cr_by Y_X5_wait) 32 = .ok (.ireturn, 1) := by decide +kernel
theorem dX5_wait_33 : decode (cr_by Y_X5_wait) 33 = .ok (.aload_n 0, 1) := by decide +kernel
theorem dX5_wait_34 : decode (cr_by Y_X5_wait) 34 = .ok (.invokevirtual 194, 3) := by decide +kernel
theorem dX5_wait_37 : decode (cr_by Y_X5_wait) 37 = .ok (.iconst 0, 1) := by decide +kernel
theorem dX5_wait_38 : decode (cr_by Y_X5_wait) 38 = .ok (.istore_n 2, 1) := by decide +kernel
theorem dX5_wait_39 : decode (cr_by Y_X5_wait) 39 = .ok (.iload_n 2, 1) := by decide +kernel
theorem dX5_wait_40 : decode (cr_by Y_X5_wait) 40 = .ok (.sipush 1000, 3) := by decide +kernel
theorem dX5_wait_43 : decode (cr_by Y_X5_wait) 43 = .ok (.if_icmp .ge 23, 3) := by decide +kernel
theorem dX5_wait_46 : decode (cr_by Y_X5_wait) 46 = .ok (.aload_n 0, 1) := by decide +kernel
theorem dX5_wait_47 : decode (cr_by Y_X5_wait) 47 = .ok (.getfield 59, 3) := by decide +kernel
theorem dX5_wait_50 : decode (cr_by Y_X5_wait) 50 = .ok (.iload_n 1, 1) := by decide +kernel
theorem dX5_wait_51 : decode (cr_by Y_X5_wait) 51 = .ok (.iaload, 1) := by decide +kernel
theorem dX5_wait_52 : decode (cr_by Y_X5_wait) 52 = .ok (.ifCond .ne 14, 3) := by decide +kernel
theorem dX5_wait_55 : decode (cr_by Y_X5_wait) 55 = .ok (.aload_n 0, 1) := by decide +kernel
theorem dX5_wait_56 : decode (cr_by Y_X5_wait) 56 = .ok (.invokevirtual 188, 3) := by decide +kernel
theorem dX5_wait_59 : decode (cr_by Y_X5_wait) 59 = .ok (.istore_n 3, 1) := by decide +kernel
theorem dX5_wait_60 : decode (cr_by Y_X5_wait) 60 = .ok (.iinc 2 1, 3) := by decide +kernel
theorem dX5_wait_63 : decode (cr_by Y_X5_wait) 63 = .ok (.goto (-24), 3) := by decide +kernel
theorem dX5_wait_66 : decode (cr_by Y_X5_wait) 66 = .ok (.aload_n 0, 1) := by decide +kernel
theorem dX5_wait_67 : decode (cr_by Y_X5_wait) 67 = .ok (.getfield 59, 3) := by decide +kernel
theorem dX5_wait_70 : decode (cr_by Y_X5_wait) 70 = .ok (.iload_n 1, 1) := by decide +kernel
theorem dX5_wait_71 : decode (cr_by Y_X5_wait) 71 = .ok (.iaload, 1) := by decide +kernel
theorem dX5_wait_72 : decode (cr_by Y_X5_wait) 72 = .ok (.iconst 1, 1) := by decide +kernel
theorem dX5_wait_73 : decode (cr_by Y_X5_wait) 73 = .ok (.if_icmp .ne 7, 3) := by decide +kernel
theorem dX5_wait_76 : decode (cr_by Y_X5_wait) 76 = .ok (.iload_n 2, 1) := by decide +kernel
theorem dX5_wait_77 : decode (cr_by Y_X5_wait) 77 = .ok (.goto 20, 3) := by decide +kernel
theorem dX5_wait_80 : decode (cr_by Y_X5_wait) 80 = .ok (.aload_n 0, 1) := by decide +kernel
theorem dX5_wait_81 : decode (cr_by Y_X5_wait) 81 = .ok (.getfield 59, 3) := by decide +kernel
theorem dX5_wait_84 : decode (cr_by Y_X5_wait) 84 = .ok (.iload_n 1, 1) := by decide +kernel
theorem dX5_wait_85 : decode (cr_by Y_X5_wait) 85 = .ok (.iaload, 1) := by decide +kernel
theorem dX5_wait_86 : decode (cr_by Y_X5_wait) 86 = .ok (.iconst 3, 1) := by decide +kernel
theorem dX5_wait_87 : decode (cr_by Y_X5_wait) 87 = .ok (.if_icmp .ne 8, 3) := by decide +kernel
theorem dX5_wait_90 : decode (cr_by Y_X5_wait) 90 = .ok (.bipush (-8), 2) := by decide +kernel
theorem dX5_wait_92 : decode (cr_by Y_X5_wait) 92 = .ok (.goto 5, 3) := by decide +kernel
theorem dX5_wait_95 : decode (cr_by Y_X5_wait) 95 = .ok (.bipush (-9), 2) := by decide +kernel
theorem dX5_wait_97 : decode (cr_by Y_X5_wait) 97 = .ok (.istore_n 3, 1) := by decide +kernel
theorem dX5_wait_98 : decode (cr_by Y_X5_wait) 98 = .ok (.aload_n 0, 1) := by decide +kernel
theorem dX5_wait_99 : decode (cr_by Y_X5_wait) 99 = .ok (.invokevirtual 197, 3) := by decide +kernel
theorem dX5_wait_102 : decode (cr_by Y_X5_wait) 102 = .ok (.iload_n 3, 1) := by decide +kernel
theorem dX5_wait_103 : decode (cr_by Y_X5_wait) 103 = .ok (.ireturn, 1) := by decide +kernel
theorem dX5_whoOf_0 : decode (cr_by Y_X5_whoOf) 0 = .ok (.aload_n 0, 1) := by decide +kernel
theorem dX5_whoOf_1 : decode (cr_by Y_X5_whoOf) 1 = .ok (.invokevirtual 194, 3) := by decide +kernel
theorem dX5_whoOf_4 : decode (cr_by Y_X5_whoOf) 4 = .ok (.aload_n 0, 1) := by decide +kernel
theorem dX5_whoOf_5 : decode (cr_by Y_X5_whoOf) 5 = .ok (.invokevirtual 185, 3) := by decide +kernel
theorem dX5_whoOf_8 : decode (cr_by Y_X5_whoOf) 8 = .ok (.aload_n 0, 1) := by decide +kernel
theorem dX5_whoOf_9 : decode (cr_by Y_X5_whoOf) 9 = .ok (.getfield 65, 3) := by decide +kernel
theorem dX5_whoOf_12 : decode (cr_by Y_X5_whoOf) 12 = .ok (.iload_n 1, 1) := by decide +kernel
theorem dX5_whoOf_13 : decode (cr_by Y_X5_whoOf) 13 = .ok (.iaload, 1) := by decide +kernel
theorem dX5_whoOf_14 : decode (cr_by Y_X5_whoOf) 14 = .ok (.istore_n 2, 1) := by decide +kernel
theorem dX5_whoOf_15 : decode (cr_by Y_X5_whoOf) 15 = .ok (.aload_n 0, 1) := by decide +kernel
theorem dX5_whoOf_16 : decode (cr_by Y_X5_whoOf) 16 = .ok (.invokevirtual 197, 3) := by decide +kernel
theorem dX5_whoOf_19 : decode (cr_by Y_X5_whoOf) 19 = .ok (.iload_n 2, 1) := by decide +kernel
theorem dX5_whoOf_20 : decode (cr_by Y_X5_whoOf) 20 = .ok (.ireturn, 1) := by decide +kernel
theorem dX5_who_0 : decode (cr_by Y_X5_who) 0 = .ok (.iload_n 1, 1) := by decide +kernel
theorem dX5_who_1 : decode (cr_by Y_X5_who) 1 = .ok (.aload_n 0, 1) := by decide +kernel
theorem dX5_who_2 : decode (cr_by Y_X5_who) 2 = .ok (.getfield 142, 3) := by decide +kernel
theorem dX5_who_5 : decode (cr_by Y_X5_who) 5 = .ok (.invokestatic 130, 3) := by decide +kernel
theorem dX5_who_8 : decode (cr_by Y_X5_who) 8 = .ok (.ifCond .ne 9, 3) := by decide +kernel
theorem dX5_who_11 : decode (cr_by Y_X5_who) 11 = .ok (.aload_n 0, 1) := by decide +kernel
theorem dX5_who_12 : decode (cr_by Y_X5_who) 12 = .ok (.iconst (-1), 1) := by decide +kernel
theorem dX5_who_13 : decode (cr_by Y_X5_who) 13 = .ok (.invokevirtual 120, 3) := by decide +kernel
theorem dX5_who_16 : decode (cr_by Y_X5_who) 16 = .ok (.ireturn, 1) := by decide +kernel
theorem dX5_who_17 : decode (cr_by Y_X5_who) 17 = .ok (.aload_n 0, 1) := by decide +kernel
theorem dX5_who_18 : decode (cr_by Y_X5_who) 18 = .ok (.getfield 59, 3) := by decide +kernel
theorem dX5_who_21 : decode (cr_by Y_X5_who) 21 = .ok (.iload_n 1, 1) := by decide +kernel
theorem dX5_who_22 : decode (cr_by Y_X5_who) 22 = .ok (.iaload, 1) := by decide +kernel
theorem dX5_who_23 : decode (cr_by Y_X5_who) 23 = .ok (.ifCond .ne 11, 3) := by decide +kernel
theorem dX5_who_26 : decode (cr_by Y_X5_who) 26 = .ok (.aload_n 0, 1) := by decide +kernel
theorem dX5_who_27 : decode (cr_by Y_X5_who) 27 = .ok (.iload_n 1, 1) := by decide +kernel
theorem dX5_who_28 : decode (cr_by Y_X5_who) 28 = .ok (.invokevirtual 200, 3) := by decide +kernel
theorem dX5_who_31 : decode (cr_by Y_X5_who) 31 = .ok (.goto 9, 3) := by decide +kernel
theorem dX5_who_34 : decode (cr_by Y_X5_who) 34 = .ok (.aload_n 0, 1) := by decide +kernel
theorem dX5_who_35 : decode (cr_by Y_X5_who) 35 = .ok (.bipush (-2), 2) := by decide +kernel
theorem dX5_who_37 : decode (cr_by Y_X5_who) 37 = .ok (.invokevirtual 120, 3) := by decide +kernel
theorem dX5_who_40 : decode (cr_by Y_X5_who) 40 = .ok (.ireturn, 1) := by decide +kernel
theorem dX5_why_0 : decode (cr_by Y_X5_why) 0 = .ok (.iload_n 1, 1) := by decide +kernel
theorem dX5_why_1 : decode (cr_by Y_X5_why) 1 = .ok (.aload_n 0, 1) := by decide +kernel
theorem dX5_why_2 : decode (cr_by Y_X5_why) 2 = .ok (.getfield 142, 3) := by decide +kernel
theorem dX5_why_5 : decode (cr_by Y_X5_why) 5 = .ok (.invokestatic 130, 3) := by decide +kernel
theorem dX5_why_8 : decode (cr_by Y_X5_why) 8 = .ok (.ifCond .ne 9, 3) := by decide +kernel
theorem dX5_why_11 : decode (cr_by Y_X5_why) 11 = .ok (.aload_n 0, 1) := by decide +kernel
theorem dX5_why_12 : decode (cr_by Y_X5_why) 12 = .ok (.iconst (-1), 1) := by decide +kernel
theorem dX5_why_13 : decode (cr_by Y_X5_why) 13 = .ok (.invokevirtual 120, 3) := by decide +kernel
theorem dX5_why_16 : decode (cr_by Y_X5_why) 16 = .ok (.ireturn, 1) := by decide +kernel
theorem dX5_why_17 : decode (cr_by Y_X5_why) 17 = .ok (.aload_n 0, 1) := by decide +kernel
theorem dX5_why_18 : decode (cr_by Y_X5_why) 18 = .ok (.getfield 59, 3) := by decide +kernel
theorem dX5_why_21 : decode (cr_by Y_X5_why) 21 = .ok (.iload_n 1, 1) := by decide +kernel
theorem dX5_why_22 : decode (cr_by Y_X5_why) 22 = .ok (.iaload, 1) := by decide +kernel
theorem dX5_why_23 : decode (cr_by Y_X5_why) 23 = .ok (.ifCond .eq 10, 3) := by decide +kernel
theorem dX5_why_26 : decode (cr_by Y_X5_why) 26 = .ok (.aload_n 0, 1) := by decide +kernel
theorem dX5_why_27 : decode (cr_by Y_X5_why) 27 = .ok (.bipush (-2), 2) := by decide +kernel
theorem dX5_why_29 : decode (cr_by Y_X5_why) 29 = .ok (.invokevirtual 120, 3) := by decide +kernel
theorem dX5_why_32 : decode (cr_by Y_X5_why) 32 = .ok (.ireturn, 1) := by decide +kernel
theorem dX5_why_33 : decode (cr_by Y_X5_why) 33 = .ok (.aload_n 0, 1) := by decide +kernel
theorem dX5_why_34 : decode (cr_by Y_X5_why) 34 = .ok (.iload_n 1, 1) := by decide +kernel
theorem dX5_why_35 : decode (cr_by Y_X5_why) 35 = .ok (.invokevirtual 200, 3) := by decide +kernel
theorem dX5_why_38 : decode (cr_by Y_X5_why) 38 = .ok (.ifCond .lt 5, 3) := by decide +kernel
theorem dX5_why_41 : decode (cr_by Y_X5_why) 41 = .ok (.iconst 0, 1) := by decide +kernel
theorem dX5_why_42 : decode (cr_by Y_X5_why) 42 = .ok (.ireturn, 1) := by decide +kernel
theorem dX5_why_43 : decode (cr_by Y_X5_why) 43 = .ok (.iconst 0, 1) := by decide +kernel
theorem dX5_why_44 : decode (cr_by Y_X5_why) 44 = .ok (.istore_n 2, 1) := by decide +kernel
theorem dX5_why_45 : decode (cr_by Y_X5_why) 45 = .ok (.iconst 0, 1) := by decide +kernel
theorem dX5_why_46 : decode (cr_by Y_X5_why) 46 = .ok (.istore_n 3, 1) := by decide +kernel
theorem dX5_why_47 : decode (cr_by Y_X5_why) 47 = .ok (.iconst 0, 1) := by decide +kernel
theorem dX5_why_48 : decode (cr_by Y_X5_why) 48 = .ok (.istore 4, 2) := by decide +kernel
theorem dX5_why_50 : decode (cr_by Y_X5_why) 50 = .ok (.iload 4, 2) := by decide +kernel
theorem dX5_why_52 : decode (cr_by Y_X5_why) 52 = .ok (.aload_n 0, 1) := by decide +kernel
theorem dX5_why_53 : decode (cr_by Y_X5_why) 53 = .ok (.getfield 124, 3) := by decide +kernel
theorem dX5_why_56 : decode (cr_by Y_X5_why) 56 = .ok (.if_icmp .ge 90, 3) := by decide +kernel
theorem dX5_why_59 : decode (cr_by Y_X5_why) 59 = .ok (.aload_n 0, 1) := by decide +kernel
theorem dX5_why_60 : decode (cr_by Y_X5_why) 60 = .ok (.getfield 26, 3) := by decide +kernel
theorem dX5_why_63 : decode (cr_by Y_X5_why) 63 = .ok (.iload 4, 2) := by decide +kernel
theorem dX5_why_65 : decode (cr_by Y_X5_why) 65 = .ok (.iaload, 1) := by decide +kernel
theorem dX5_why_66 : decode (cr_by Y_X5_why) 66 = .ok (.ifCond .eq 74, 3) := by decide +kernel
theorem dX5_why_69 : decode (cr_by Y_X5_why) 69 = .ok (.aload_n 0, 1) := by decide +kernel
theorem dX5_why_70 : decode (cr_by Y_X5_why) 70 = .ok (.iload 4, 2) := by decide +kernel
theorem dX5_why_72 : decode (cr_by Y_X5_why) 72 = .ok (.aload_n 0, 1) := by decide +kernel
theorem dX5_why_73 : decode (cr_by Y_X5_why) 73 = .ok (.getfield 44, 3) := by decide +kernel
theorem dX5_why_76 : decode (cr_by Y_X5_why) 76 = .ok (.iload_n 1, 1) := by decide +kernel
theorem dX5_why_77 : decode (cr_by Y_X5_why) 77 = .ok (.iaload, 1) := by decide +kernel
theorem dX5_why_78 : decode (cr_by Y_X5_why) 78 = .ok (.invokevirtual 134, 3) := by decide +kernel
theorem dX5_why_81 : decode (cr_by Y_X5_why) 81 = .ok (.ifCond .ne 6, 3) := by decide +kernel
theorem dX5_why_84 : decode (cr_by Y_X5_why) 84 = .ok (.goto 56, 3) := by decide +kernel
theorem dX5_why_87 : decode (cr_by Y_X5_why) 87 = .ok (.iconst 1, 1) := by decide +kernel
theorem dX5_why_88 : decode (cr_by Y_X5_why) 88 = .ok (.istore_n 2, 1) := by decide +kernel
theorem dX5_why_89 : decode (cr_by Y_X5_why) 89 = .ok (.iload_n 3, 1) := by decide +kernel
theorem dX5_why_90 : decode (cr_by Y_X5_why) 90 = .ok (.ifCond .ne 44, 3) := by decide +kernel
theorem dX5_why_93 : decode (cr_by Y_X5_why) 93 = .ok (.aload_n 0, 1) := by decide +kernel
theorem dX5_why_94 : decode (cr_by Y_X5_why) 94 = .ok (.getfield 26, 3) := by decide +kernel
theorem dX5_why_97 : decode (cr_by Y_X5_why) 97 = .ok (.iload 4, 2) := by decide +kernel
theorem dX5_why_99 : decode (cr_by Y_X5_why) 99 = .ok (.iaload, 1) := by decide +kernel
theorem dX5_why_100 : decode (cr_by Y_X5_why) 100 = .ok (.iconst 1, 1) := by decide +kernel
theorem dX5_why_101 : decode (cr_by Y_X5_why) 101 = .ok (.if_icmp .eq 33, 3) := by decide +kernel
theorem dX5_why_104 : decode (cr_by Y_X5_why) 104 = .ok (.aload_n 0, 1) := by decide +kernel
theorem dX5_why_105 : decode (cr_by Y_X5_why) 105 = .ok (.getfield 26, 3) := by decide +kernel
theorem dX5_why_108 : decode (cr_by Y_X5_why) 108 = .ok (.iload 4, 2) := by decide +kernel
theorem dX5_why_110 : decode (cr_by Y_X5_why) 110 = .ok (.iaload, 1) := by decide +kernel
theorem dX5_why_111 : decode (cr_by Y_X5_why) 111 = .ok (.iconst 2, 1) := by decide +kernel
theorem dX5_why_112 : decode (cr_by Y_X5_why) 112 = .ok (.if_icmp .ne 26, 3) := by decide +kernel
theorem dX5_why_115 : decode (cr_by Y_X5_why) 115 = .ok (.aload_n 0, 1) := by decide +kernel
theorem dX5_why_116 : decode (cr_by Y_X5_why) 116 = .ok (.getfield 41, 3) := by decide +kernel
theorem dX5_why_119 : decode (cr_by Y_X5_why) 119 = .ok (.iload_n 1, 1) := by decide +kernel
theorem dX5_why_120 : decode (cr_by Y_X5_why) 120 = .ok (.iaload, 1) := by decide +kernel
theorem dX5_why_121 : decode (cr_by Y_X5_why) 121 = .ok (.iconst 3, 1) := by decide +kernel
theorem dX5_why_122 : decode (cr_by Y_X5_why) 122 = .ok (.if_icmp .ne 16, 3) := by decide +kernel
theorem dX5_why_125 : decode (cr_by Y_X5_why) 125 = .ok (.aload_n 0, 1) := by decide +kernel
theorem dX5_why_126 : decode (cr_by Y_X5_why) 126 = .ok (.iload 4, 2) := by decide +kernel
theorem dX5_why_128 : decode (cr_by Y_X5_why) 128 = .ok (.invokevirtual 152, 3) := by decide +kernel
theorem dX5_why_131 : decode (cr_by Y_X5_why) 131 = .ok (.ifCond .eq 7, 3) := by decide +kernel
theorem dX5_why_134 : decode (cr_by Y_X5_why) 134 = .ok (.iconst 1, 1) := by decide +kernel
theorem dX5_why_135 : decode (cr_by Y_X5_why) 135 = .ok (.goto 4, 3) := by decide +kernel
theorem dX5_why_138 : decode (cr_by Y_X5_why) 138 = .ok (.iconst 0, 1) := by decide +kernel
theorem dX5_why_139 : decode (cr_by Y_X5_why) 139 = .ok (.istore_n 3, 1) := by decide +kernel
theorem dX5_why_140 : decode (cr_by Y_X5_why) 140 = .ok (.iinc 4 1, 3) := by decide +kernel
theorem dX5_why_143 : decode (cr_by Y_X5_why) 143 = .ok (.goto (-93), 3) := by decide +kernel
theorem dX5_why_146 : decode (cr_by Y_X5_why) 146 = .ok (.iload_n 2, 1) := by decide +kernel
theorem dX5_why_147 : decode (cr_by Y_X5_why) 147 = .ok (.ifCond .ne 5, 3) := by decide +kernel
theorem dX5_why_150 : decode (cr_by Y_X5_why) 150 = .ok (.iconst 1, 1) := by decide +kernel
theorem dX5_why_151 : decode (cr_by Y_X5_why) 151 = .ok (.ireturn, 1) := by decide +kernel
theorem dX5_why_152 : decode (cr_by Y_X5_why) 152 = .ok (.iload_n 3, 1) := by decide +kernel
theorem dX5_why_153 : decode (cr_by Y_X5_why) 153 = .ok (.ifCond .ne 5, 3) := by decide +kernel
theorem dX5_why_156 : decode (cr_by Y_X5_why) 156 = .ok (.iconst 2, 1) := by decide +kernel
theorem dX5_why_157 : decode (cr_by Y_X5_why) 157 = .ok (.ireturn, 1) := by decide +kernel
theorem dX5_why_158 : decode (cr_by Y_X5_why) 158 = .ok (.aload_n 0, 1) := by decide +kernel
theorem dX5_why_159 : decode (cr_by Y_X5_why) 159 = .ok (.getfield 41, 3) := by decide +kernel
theorem dX5_why_162 : decode (cr_by Y_X5_why) 162 = .ok (.iload_n 1, 1) := by decide +kernel
theorem dX5_why_163 : decode (cr_by Y_X5_why) 163 = .ok (.iaload, 1) := by decide +kernel
theorem dX5_why_164 : decode (cr_by Y_X5_why) 164 = .ok (.iconst 1, 1) := by decide +kernel
theorem dX5_why_165 : decode (cr_by Y_X5_why) 165 = .ok (.if_icmp .ne 33, 3) := by decide +kernel
theorem dX5_why_168 : decode (cr_by Y_X5_why) 168 = .ok (.aload_n 0, 1) := by decide +kernel
theorem dX5_why_169 : decode (cr_by Y_X5_why) 169 = .ok (.iload_n 1, 1) := by decide +kernel
theorem dX5_why_170 : decode (cr_by Y_X5_why) 170 = .ok (.invokevirtual 156, 3) := by decide +kernel
theorem dX5_why_173 : decode (cr_by Y_X5_why) 173 = .ok (.aload_n 0, 1) := by decide +kernel
theorem dX5_why_174 : decode (cr_by Y_X5_why) 174 = .ok (.getfield 19, 3) := by decide +kernel
theorem dX5_why_177 : decode (cr_by Y_X5_why) 177 = .ok (.if_icmp .ge 21, 3) := by decide +kernel
theorem dX5_why_180 : decode (cr_by Y_X5_why) 180 = .ok (.aload_n 0, 1) := by decide +kernel
theorem dX5_why_181 : decode (cr_by Y_X5_why) 181 = .ok (.aload_n 0, 1) := by decide +kernel
theorem dX5_why_182 : decode (cr_by Y_X5_why) 182 = .ok (.getfield 56, 3) := by decide +kernel
theorem dX5_why_185 : decode (cr_by Y_X5_why) 185 = .ok (.iload_n 1, 1) := by decide +kernel
theorem dX5_why_186 : decode (cr_by Y_X5_why) 186 = .ok (.iaload, 1) := by decide +kernel
theorem dX5_why_187 : decode (cr_by Y_X5_why) 187 = .ok (.iload_n 1, 1) := by decide +kernel
theorem dX5_why_188 : decode (cr_by Y_X5_why) 188 = .ok (.invokevirtual 159, 3) := by decide +kernel
theorem dX5_why_191 : decode (cr_by Y_X5_why) 191 = .ok (.ifCond .ne 7, 3) := by decide +kernel
theorem dX5_why_194 : decode (cr_by Y_X5_why) 194 = .ok (.iconst 3, 1) := by decide +kernel
theorem dX5_why_195 : decode (cr_by Y_X5_why) 195 = .ok (.goto 4, 3) := by decide +kernel
theorem dX5_why_198 : decode (cr_by Y_X5_why) 198 = .ok (.iconst 4, 1) := by decide +kernel
theorem dX5_why_199 : decode (cr_by Y_X5_why) 199 = .ok (.ireturn, 1) := by decide +kernel
theorem dX5_within_0 : decode (cr_by Y_X5_within) 0 = .ok (.iload_n 1, 1) := by decide +kernel
theorem dX5_within_1 : decode (cr_by Y_X5_within) 1 = .ok (.ifCond .ge 10, 3) := by decide +kernel
theorem dX5_within_4 : decode (cr_by Y_X5_within) 4 = .ok (.aload_n 0, 1) := by decide +kernel
theorem dX5_within_5 : decode (cr_by Y_X5_within) 5 = .ok (.bipush (-4), 2) := by decide +kernel
theorem dX5_within_7 : decode (cr_by Y_X5_within) 7 = .ok (.invokevirtual 120, 3) := by decide +kernel
theorem dX5_within_10 : decode (cr_by Y_X5_within) 10 = .ok (.ireturn, 1) := by decide +kernel
theorem dX5_within_11 : decode (cr_by Y_X5_within) 11 = .ok (.iconst 0, 1) := by decide +kernel
theorem dX5_within_12 : decode (cr_by Y_X5_within) 12 = .ok (.istore_n 2, 1) := by decide +kernel
theorem dX5_within_13 : decode (cr_by Y_X5_within) 13 = .ok (.iconst 0, 1) := by decide +kernel
theorem dX5_within_14 : decode (cr_by Y_X5_within) 14 = .ok (.istore_n 3, 1) := by decide +kernel
theorem dX5_within_15 : decode (cr_by Y_X5_within) 15 = .ok (.iload_n 3, 1) := by decide +kernel
theorem dX5_within_16 : decode (cr_by Y_X5_within) 16 = .ok (.aload_n 0, 1) := by decide +kernel
theorem dX5_within_17 : decode (cr_by Y_X5_within) 17 = .ok (.getfield 142, 3) := by decide +kernel
theorem dX5_within_20 : decode (cr_by Y_X5_within) 20 = .ok (.if_icmp .ge 38, 3) := by decide +kernel
theorem dX5_within_23 : decode (cr_by Y_X5_within) 23 = .ok (.iload_n 2, 1) := by decide +kernel
theorem dX5_within_24 : decode (cr_by Y_X5_within) 24 = .ok (.aload_n 0, 1) := by decide +kernel
theorem dX5_within_25 : decode (cr_by Y_X5_within) 25 = .ok (.getfield 74, 3) := by decide +kernel
theorem dX5_within_28 : decode (cr_by Y_X5_within) 28 = .ok (.iload_n 3, 1) := by decide +kernel
theorem dX5_within_29 : decode (cr_by Y_X5_within) 29 = .ok (.iaload, 1) := by decide +kernel
theorem dX5_within_30 : decode (cr_by Y_X5_within) 30 = .ok (.bipush (-9), 2) := by decide +kernel
theorem dX5_within_32 : decode (cr_by Y_X5_within) 32 = .ok (.if_icmp .eq 17, 3) := by decide +kernel
theorem dX5_within_35 : decode (cr_by Y_X5_within) 35 = .ok (.aload_n 0, 1) := by decide +kernel
theorem dX5_within_36 : decode (cr_by Y_X5_within) 36 = .ok (.getfield 74, 3) := by decide +kernel
theorem dX5_within_39 : decode (cr_by Y_X5_within) 39 = .ok (.iload_n 3, 1) := by decide +kernel
theorem dX5_within_40 : decode (cr_by Y_X5_within) 40 = .ok (.iaload, 1) := by decide +kernel
theorem dX5_within_41 : decode (cr_by Y_X5_within) 41 = .ok (.iload_n 1, 1) := by decide +kernel
theorem dX5_within_42 : decode (cr_by Y_X5_within) 42 = .ok (.if_icmp .gt 7, 3) := by decide +kernel
theorem dX5_within_45 : decode (cr_by Y_X5_within) 45 = .ok (.iconst 1, 1) := by decide +kernel
theorem dX5_within_46 : decode (cr_by Y_X5_within) 46 = .ok (.goto 4, 3) := by decide +kernel
theorem dX5_within_49 : decode (cr_by Y_X5_within) 49 = .ok (.iconst 0, 1) := by decide +kernel
theorem dX5_within_50 : decode (cr_by Y_X5_within) 50 = .ok (.iadd, 1) := by decide +kernel
theorem dX5_within_51 : decode (cr_by Y_X5_within) 51 = .ok (.istore_n 2, 1) := by decide +kernel
theorem dX5_within_52 : decode (cr_by Y_X5_within) 52 = .ok (.iinc 3 1, 3) := by decide +kernel
theorem dX5_within_55 : decode (cr_by Y_X5_within) 55 = .ok (.goto (-40), 3) := by decide +kernel
theorem dX5_within_58 : decode (cr_by Y_X5_within) 58 = .ok (.iload_n 2, 1) := by decide +kernel
theorem dX5_within_59 : decode (cr_by Y_X5_within) 59 = .ok (.ireturn, 1) := by decide +kernel
theorem dX5_lossOf_0 : decode (cr_by Y_X5_lossOf) 0 = .ok (.ldc2_w 203, 3) := by decide +kernel
theorem dX5_lossOf_3 : decode (cr_by Y_X5_lossOf) 3 = .ok (.lstore_n 2, 1) := by decide +kernel
theorem dX5_lossOf_4 : decode (cr_by Y_X5_lossOf) 4 = .ok (.iconst 1, 1) := by decide +kernel
theorem dX5_lossOf_5 : decode (cr_by Y_X5_lossOf) 5 = .ok (.istore 4, 2) := by decide +kernel
theorem dX5_lossOf_7 : decode (cr_by Y_X5_lossOf) 7 = .ok (.iload 4, 2) := by decide +kernel
theorem dX5_lossOf_9 : decode (cr_by Y_X5_lossOf) 9 = .ok (.iload_n 1, 1) := by decide +kernel
theorem dX5_lossOf_10 : decode (cr_by Y_X5_lossOf) 10 = .ok (.if_icmp .gt 35, 3) := by decide +kernel
theorem dX5_lossOf_13 : decode (cr_by Y_X5_lossOf) 13 = .ok (.iload_n 0, 1) := by decide +kernel
theorem dX5_lossOf_14 : decode (cr_by Y_X5_lossOf) 14 = .ok (.i2l, 1) := by decide +kernel
theorem dX5_lossOf_15 : decode (cr_by Y_X5_lossOf) 15 = .ok (.lload_n 2, 1) := by decide +kernel
theorem dX5_lossOf_16 : decode (cr_by Y_X5_lossOf) 16 = .ok (.lmul, 1) := by decide +kernel
theorem dX5_lossOf_17 : decode (cr_by Y_X5_lossOf) 17 = .ok (.ldc2_w 203, 3) := by decide +kernel
theorem dX5_lossOf_20 : decode (cr_by Y_X5_lossOf) 20 = .ok (.lmul, 1) := by decide +kernel
theorem dX5_lossOf_21 : decode (cr_by Y_X5_lossOf) 21 = .ok (.ldc2_w 205, 3) := by decide +kernel
theorem dX5_lossOf_24 : decode (cr_by Y_X5_lossOf) 24 = .ok (.iload 4, 2) := by decide +kernel
theorem dX5_lossOf_26 : decode (cr_by Y_X5_lossOf) 26 = .ok (.i2l, 1) := by decide +kernel
theorem dX5_lossOf_27 : decode (cr_by Y_X5_lossOf) 27 = .ok (.lmul, 1) := by decide +kernel
theorem dX5_lossOf_28 : decode (cr_by Y_X5_lossOf) 28 = .ok (.ldc2_w 203, 3) := by decide +kernel
theorem dX5_lossOf_31 : decode (cr_by Y_X5_lossOf) 31 = .ok (.lmul, 1) := by decide +kernel
theorem dX5_lossOf_32 : decode (cr_by Y_X5_lossOf) 32 = .ok (.iload_n 0, 1) := by decide +kernel
theorem dX5_lossOf_33 : decode (cr_by Y_X5_lossOf) 33 = .ok (.i2l, 1) := by decide +kernel
theorem dX5_lossOf_34 : decode (cr_by Y_X5_lossOf) 34 = .ok (.lload_n 2, 1) := by decide +kernel
theorem dX5_lossOf_35 : decode (cr_by Y_X5_lossOf) 35 = .ok (.lmul, 1) := by decide +kernel
theorem dX5_lossOf_36 : decode (cr_by Y_X5_lossOf) 36 = .ok (.ladd, 1) := by decide +kernel
theorem dX5_lossOf_37 : decode (cr_by Y_X5_lossOf) 37 = .ok (.ldiv, 1) := by decide +kernel
theorem dX5_lossOf_38 : decode (cr_by Y_X5_lossOf) 38 = .ok (.lstore_n 2, 1) := by decide +kernel
theorem dX5_lossOf_39 : decode (cr_by Y_X5_lossOf) 39 = .ok (.iinc 4 1, 3) := by decide +kernel
theorem dX5_lossOf_42 : decode (cr_by Y_X5_lossOf) 42 = .ok (.goto (-35), 3) := by decide +kernel
theorem dX5_lossOf_45 : decode (cr_by Y_X5_lossOf) 45 = .ok (.lload_n 2, 1) := by decide +kernel
theorem dX5_lossOf_46 : decode (cr_by Y_X5_lossOf) 46 = .ok (.l2i, 1) := by decide +kernel
theorem dX5_lossOf_47 : decode (cr_by Y_X5_lossOf) 47 = .ok (.ireturn, 1) := by decide +kernel
theorem dX5_loss_0 : decode (cr_by Y_X5_loss) 0 = .ok (.iload_n 1, 1) := by decide +kernel
theorem dX5_loss_1 : decode (cr_by Y_X5_loss) 1 = .ok (.ifCond .lt 7, 3) := by decide +kernel
theorem dX5_loss_4 : decode (cr_by Y_X5_loss) 4 = .ok (.iload_n 2, 1) := by decide +kernel
theorem dX5_loss_5 : decode (cr_by Y_X5_loss) 5 = .ok (.ifCond .ge 10, 3) := by decide +kernel
theorem dX5_loss_8 : decode (cr_by Y_X5_loss) 8 = .ok (.aload_n 0, 1) := by decide +kernel
theorem dX5_loss_9 : decode (cr_by Y_X5_loss) 9 = .ok (.bipush (-4), 2) := by decide +kernel
theorem dX5_loss_11 : decode (cr_by Y_X5_loss) 11 = .ok (.invokevirtual 120, 3) := by decide +kernel
theorem dX5_loss_14 : decode (cr_by Y_X5_loss) 14 = .ok (.ireturn, 1) := by decide +kernel
theorem dX5_loss_15 : decode (cr_by Y_X5_loss) 15 = .ok (.iload_n 1, 1) := by decide +kernel
theorem dX5_loss_16 : decode (cr_by Y_X5_loss) 16 = .ok (.sipush 10000, 3) := by decide +kernel
theorem dX5_loss_19 : decode (cr_by Y_X5_loss) 19 = .ok (.if_icmp .gt 10, 3) := by decide +kernel
theorem dX5_loss_22 : decode (cr_by Y_X5_loss) 22 = .ok (.iload_n 2, 1) := by decide +kernel
theorem dX5_loss_23 : decode (cr_by Y_X5_loss) 23 = .ok (.sipush 200, 3) := by decide +kernel
theorem dX5_loss_26 : decode (cr_by Y_X5_loss) 26 = .ok (.if_icmp .le 12, 3) := by decide +kernel
theorem dX5_loss_29 : decode (cr_by Y_X5_loss) 29 = .ok (.aload_n 0, 1) := by decide +kernel
theorem dX5_loss_30 : decode (cr_by Y_X5_loss) 30 = .ok (.bipush (-6), 2) := by decide +kernel
theorem dX5_loss_32 : decode (cr_by Y_X5_loss) 32 = .ok (.invokevirtual 120, 3) := by decide +kernel
theorem dX5_loss_35 : decode (cr_by Y_X5_loss) 35 = .ok (.goto 8, 3) := by decide +kernel
theorem dX5_loss_38 : decode (cr_by Y_X5_loss) 38 = .ok (.iload_n 1, 1) := by decide +kernel
theorem dX5_loss_39 : decode (cr_by Y_X5_loss) 39 = .ok (.iload_n 2, 1) := by decide +kernel
theorem dX5_loss_40 : decode (cr_by Y_X5_loss) 40 = .ok (.invokestatic 207, 3) := by decide +kernel
theorem dX5_loss_43 : decode (cr_by Y_X5_loss) 43 = .ok (.ireturn, 1) := by decide +kernel
theorem dX5_wanted_0 : decode (cr_by Y_X5_wanted) 0 = .ok (.iload_n 1, 1) := by decide +kernel
theorem dX5_wanted_1 : decode (cr_by Y_X5_wanted) 1 = .ok (.ifCond .lt 7, 3) := by decide +kernel
theorem dX5_wanted_4 : decode (cr_by Y_X5_wanted) 4 = .ok (.iload_n 2, 1) := by decide +kernel
theorem dX5_wanted_5 : decode (cr_by Y_X5_wanted) 5 = .ok (.ifCond .ge 10, 3) := by decide +kernel
theorem dX5_wanted_8 : decode (cr_by Y_X5_wanted) 8 = .ok (.aload_n 0, 1) := by decide +kernel
theorem dX5_wanted_9 : decode (cr_by Y_X5_wanted) 9 = .ok (.bipush (-4), 2) := by decide +kernel
theorem dX5_wanted_11 : decode (cr_by Y_X5_wanted) 11 = .ok (.invokevirtual 120, 3) := by decide +kernel
theorem dX5_wanted_14 : decode (cr_by Y_X5_wanted) 14 = .ok (.ireturn, 1) := by decide +kernel
theorem dX5_wanted_15 : decode (cr_by Y_X5_wanted) 15 = .ok (.iload_n 1, 1) := by decide +kernel
theorem dX5_wanted_16 : decode (cr_by Y_X5_wanted) 16 = .ok (.sipush 10000, 3) := by decide +kernel
theorem dX5_wanted_19 : decode (cr_by Y_X5_wanted) 19 = .ok (.if_icmp .gt 9, 3) := by decide +kernel
theorem dX5_wanted_22 : decode (cr_by Y_X5_wanted) 22 = .ok (.iload_n 2, 1) := by decide +kernel
theorem dX5_wanted_23 : decode (cr_by Y_X5_wanted) 23 = .ok (.ldc 210, 2) := by decide +kernel
theorem dX5_wanted_25 : decode (cr_by Y_X5_wanted) 25 = .ok (.if_icmp .le 10, 3) := by decide +kernel
theorem dX5_wanted_28 : decode (cr_by Y_X5_wanted) 28 = .ok (.aload_n 0, 1) := by decide +kernel
theorem dX5_wanted_29 : decode (cr_by Y_X5_wanted) 29 = .ok (.bipush (-6), 2) := by decide +kernel
theorem dX5_wanted_31 : decode (cr_by Y_X5_wanted) 31 = .ok (.invokevirtual 120, 3) := by decide +kernel
theorem dX5_wanted_34 : decode (cr_by Y_X5_wanted) 34 = .ok (.ireturn, 1) := by decide +kernel
theorem dX5_wanted_35 : decode (cr_by Y_X5_wanted) 35 = .ok (.iconst 0, 1) := by decide +kernel
theorem dX5_wanted_36 : decode (cr_by Y_X5_wanted) 36 = .ok (.istore_n 3, 1) := by decide +kernel
theorem dX5_wanted_37 : decode (cr_by Y_X5_wanted) 37 = .ok (.iload_n 3, 1) := by decide +kernel
theorem dX5_wanted_38 : decode (cr_by Y_X5_wanted) 38 = .ok (.sipush 200, 3) := by decide +kernel
theorem dX5_wanted_41 : decode (cr_by Y_X5_wanted) 41 = .ok (.if_icmp .gt 20, 3) := by decide +kernel
theorem dX5_wanted_44 : decode (cr_by Y_X5_wanted) 44 = .ok (.iload_n 1, 1) := by decide +kernel
theorem dX5_wanted_45 : decode (cr_by Y_X5_wanted) 45 = .ok (.iload_n 3, 1) := by decide +kernel
theorem dX5_wanted_46 : decode (cr_by Y_X5_wanted) 46 = .ok (.invokestatic 207, 3) := by decide +kernel
theorem dX5_wanted_49 : decode (cr_by Y_X5_wanted) 49 = .ok (.iload_n 2, 1) := by decide +kernel
theorem dX5_wanted_50 : decode (cr_by Y_X5_wanted) 50 = .ok (.if_icmp .gt 5, 3) := by decide +kernel
theorem dX5_wanted_53 : decode (cr_by Y_X5_wanted) 53 = .ok (.iload_n 3, 1) := by decide +kernel
theorem dX5_wanted_54 : decode (cr_by Y_X5_wanted) 54 = .ok (.ireturn, 1) := by decide +kernel
theorem dX5_wanted_55 : decode (cr_by Y_X5_wanted) 55 = .ok (.iinc 3 1, 3) := by decide +kernel
theorem dX5_wanted_58 : decode (cr_by Y_X5_wanted) 58 = .ok (.goto (-21), 3) := by decide +kernel
theorem dX5_wanted_61 : decode (cr_by Y_X5_wanted) 61 = .ok (.bipush (-9), 2) := by decide +kernel
theorem dX5_wanted_63 : decode (cr_by Y_X5_wanted) 63 = .ok (.ireturn, 1) := by decide +kernel
theorem dX5_want_0 : decode (cr_by Y_X5_want) 0 = .ok (.iload_n 1, 1) := by decide +kernel
theorem dX5_want_1 : decode (cr_by Y_X5_want) 1 = .ok (.bipush 16, 2) := by decide +kernel
theorem dX5_want_3 : decode (cr_by Y_X5_want) 3 = .ok (.invokestatic 130, 3) := by decide +kernel
theorem dX5_want_6 : decode (cr_by Y_X5_want) 6 = .ok (.ifCond .ne 9, 3) := by decide +kernel
theorem dX5_want_9 : decode (cr_by Y_X5_want) 9 = .ok (.aload_n 0, 1) := by decide +kernel
theorem dX5_want_10 : decode (cr_by Y_X5_want) 10 = .ok (.iconst (-1), 1) := by decide +kernel
theorem dX5_want_11 : decode (cr_by Y_X5_want) 11 = .ok (.invokevirtual 120, 3) := by decide +kernel
theorem dX5_want_14 : decode (cr_by Y_X5_want) 14 = .ok (.ireturn, 1) := by decide +kernel
theorem dX5_want_15 : decode (cr_by Y_X5_want) 15 = .ok (.iload_n 2, 1) := by decide +kernel
theorem dX5_want_16 : decode (cr_by Y_X5_want) 16 = .ok (.ifCond .ge 10, 3) := by decide +kernel
theorem dX5_want_19 : decode (cr_by Y_X5_want) 19 = .ok (.aload_n 0, 1) := by decide +kernel
theorem dX5_want_20 : decode (cr_by Y_X5_want) 20 = .ok (.bipush (-4), 2) := by decide +kernel
theorem dX5_want_22 : decode (cr_by Y_X5_want) 22 = .ok (.invokevirtual 120, 3) := by decide +kernel
theorem dX5_want_25 : decode (cr_by Y_X5_want) 25 = .ok (.ireturn, 1) := by decide +kernel
theorem dX5_want_26 : decode (cr_by Y_X5_want) 26 = .ok (.iload_n 2, 1) := by decide +kernel
theorem dX5_want_27 : decode (cr_by Y_X5_want) 27 = .ok (.bipush 50, 2) := by decide +kernel
theorem dX5_want_29 : decode (cr_by Y_X5_want) 29 = .ok (.if_icmp .le 10, 3) := by decide +kernel
theorem dX5_want_32 : decode (cr_by Y_X5_want) 32 = .ok (.aload_n 0, 1) := by decide +kernel
theorem dX5_want_33 : decode (cr_by Y_X5_want) 33 = .ok (.bipush (-6), 2) := by decide +kernel
theorem dX5_want_35 : decode (cr_by Y_X5_want) 35 = .ok (.invokevirtual 120, 3) := by decide +kernel
theorem dX5_want_38 : decode (cr_by Y_X5_want) 38 = .ok (.ireturn, 1) := by decide +kernel
theorem dX5_want_39 : decode (cr_by Y_X5_want) 39 = .ok (.aload_n 0, 1) := by decide +kernel
theorem dX5_want_40 : decode (cr_by Y_X5_want) 40 = .ok (.getfield 13, 3) := by decide +kernel
theorem dX5_want_43 : decode (cr_by Y_X5_want) 43 = .ok (.iload_n 1, 1) := by decide +kernel
theorem dX5_want_44 : decode (cr_by Y_X5_want) 44 = .ok (.iaload, 1) := by decide +kernel
theorem dX5_want_45 : decode (cr_by Y_X5_want) 45 = .ok (.istore_n 3, 1) := by decide +kernel
theorem dX5_want_46 : decode (cr_by Y_X5_want) 46 = .ok (.aload_n 0, 1) := by decide +kernel
theorem dX5_want_47 : decode (cr_by Y_X5_want) 47 = .ok (.getfield 13, 3) := by decide +kernel
theorem dX5_want_50 : decode (cr_by Y_X5_want) 50 = .ok (.iload_n 1, 1) := by decide +kernel
theorem dX5_want_51 : decode (cr_by Y_X5_want) 51 = .ok (.iload_n 2, 1) := by decide +kernel
theorem dX5_want_52 : decode (cr_by Y_X5_want) 52 = .ok (.iastore, 1) := by decide +kernel
theorem dX5_want_53 : decode (cr_by Y_X5_want) 53 = .ok (.iload_n 3, 1) := by decide +kernel
theorem dX5_want_54 : decode (cr_by Y_X5_want) 54 = .ok (.ireturn, 1) := by decide +kernel
theorem dX5_cover_0 : decode (cr_by Y_X5_cover) 0 = .ok (.iload_n 1, 1) := by decide +kernel
theorem dX5_cover_1 : decode (cr_by Y_X5_cover) 1 = .ok (.iconst 1, 1) := by decide +kernel
theorem dX5_cover_2 : decode (cr_by Y_X5_cover) 2 = .ok (.if_icmp .ge 10, 3) := by decide +kernel
theorem dX5_cover_5 : decode (cr_by Y_X5_cover) 5 = .ok (.aload_n 0, 1) := by decide +kernel
theorem dX5_cover_6 : decode (cr_by Y_X5_cover) 6 = .ok (.bipush (-4), 2) := by decide +kernel
theorem dX5_cover_8 : decode (cr_by Y_X5_cover) 8 = .ok (.invokevirtual 120, 3) := by decide +kernel
theorem dX5_cover_11 : decode (cr_by Y_X5_cover) 11 = .ok (.ireturn, 1) := by decide +kernel
theorem dX5_cover_12 : decode (cr_by Y_X5_cover) 12 = .ok (.iload_n 1, 1) := by decide +kernel
theorem dX5_cover_13 : decode (cr_by Y_X5_cover) 13 = .ok (.bipush 16, 2) := by decide +kernel
theorem dX5_cover_15 : decode (cr_by Y_X5_cover) 15 = .ok (.if_icmp .le 10, 3) := by decide +kernel
theorem dX5_cover_18 : decode (cr_by Y_X5_cover) 18 = .ok (.aload_n 0, 1) := by decide +kernel
theorem dX5_cover_19 : decode (cr_by Y_X5_cover) 19 = .ok (.bipush (-6), 2) := by decide +kernel
theorem dX5_cover_21 : decode (cr_by Y_X5_cover) 21 = .ok (.invokevirtual 120, 3) := by decide +kernel
theorem dX5_cover_24 : decode (cr_by Y_X5_cover) 24 = .ok (.ireturn, 1) := by decide +kernel
theorem dX5_cover_25 : decode (cr_by Y_X5_cover) 25 = .ok (.iconst 0, 1) := by decide +kernel
theorem dX5_cover_26 : decode (cr_by Y_X5_cover) 26 = .ok (.istore_n 2, 1) := by decide +kernel
theorem dX5_cover_27 : decode (cr_by Y_X5_cover) 27 = .ok (.iconst 0, 1) := by decide +kernel
theorem dX5_cover_28 : decode (cr_by Y_X5_cover) 28 = .ok (.istore_n 3, 1) := by decide +kernel
theorem dX5_cover_29 : decode (cr_by Y_X5_cover) 29 = .ok (.iload_n 3, 1) := by decide +kernel
theorem dX5_cover_30 : decode (cr_by Y_X5_cover) 30 = .ok (.bipush 16, 2) := by decide +kernel
theorem dX5_cover_32 : decode (cr_by Y_X5_cover) 32 = .ok (.if_icmp .ge 16, 3) := by decide +kernel
theorem dX5_cover_35 : decode (cr_by Y_X5_cover) 35 = .ok (.aload_n 0, 1) := by decide +kernel
theorem dX5_cover_36 : decode (cr_by Y_X5_cover) 36 = .ok (.getfield 16, 3) := by decide +kernel
theorem dX5_cover_39 : decode (cr_by Y_X5_cover) 39 = .ok (.iload_n 3, 1) := by decide +kernel
theorem dX5_cover_40 : decode (cr_by Y_X5_cover) 40 = .ok (.iconst 0, 1) := by decide +kernel
theorem dX5_cover_41 : decode (cr_by Y_X5_cover) 41 = .ok (.iastore, 1) := by decide +kernel
theorem dX5_cover_42 : decode (cr_by Y_X5_cover) 42 = .ok (.iinc 3 1, 3) := by decide +kernel
theorem dX5_cover_45 : decode (cr_by Y_X5_cover) 45 = .ok (.goto (-16), 3) := by decide +kernel
theorem dX5_cover_48 : decode (cr_by Y_X5_cover) 48 = .ok (.iconst 0, 1) := by decide +kernel
theorem dX5_cover_49 : decode (cr_by Y_X5_cover) 49 = .ok (.istore_n 3, 1) := by decide +kernel
theorem dX5_cover_50 : decode (cr_by Y_X5_cover) 50 = .ok (.iload_n 3, 1) := by decide +kernel
theorem dX5_cover_51 : decode (cr_by Y_X5_cover) 51 = .ok (.bipush 16, 2) := by decide +kernel
theorem dX5_cover_53 : decode (cr_by Y_X5_cover) 53 = .ok (.if_icmp .ge 85, 3) := by decide +kernel
theorem dX5_cover_56 : decode (cr_by Y_X5_cover) 56 = .ok (.iconst 0, 1) := by decide +kernel
theorem dX5_cover_57 : decode (cr_by Y_X5_cover) 57 = .ok (.istore 4, 2) := by decide +kernel
theorem dX5_cover_59 : decode (cr_by Y_X5_cover) 59 = .ok (.iconst 0, 1) := by decide +kernel
theorem dX5_cover_60 : decode (cr_by Y_X5_cover) 60 = .ok (.iload_n 3, 1) := by decide +kernel
theorem dX5_cover_61 : decode (cr_by Y_X5_cover) 61 = .ok (.iload_n 1, 1) := by decide +kernel
theorem dX5_cover_62 : decode (cr_by Y_X5_cover) 62 = .ok (.isub, 1) := by decide +kernel
theorem dX5_cover_63 : decode (cr_by Y_X5_cover) 63 = .ok (.iconst 1, 1) := by decide +kernel
theorem dX5_cover_64 : decode (cr_by Y_X5_cover) 64 = .ok (.iadd, 1) := by decide +kernel
theorem dX5_cover_65 : decode (cr_by Y_X5_cover) 65 = .ok (.invokestatic 211, 3) := by decide +kernel
theorem dX5_cover_68 : decode (cr_by Y_X5_cover) 68 = .ok (.istore 5, 2) := by decide +kernel
theorem dX5_cover_70 : decode (cr_by Y_X5_cover) 70 = .ok (.iload 5, 2) := by decide +kernel
theorem dX5_cover_72 : decode (cr_by Y_X5_cover) 72 = .ok (.iload_n 3, 1) := by decide +kernel
theorem dX5_cover_73 : decode (cr_by Y_X5_cover) 73 = .ok (.if_icmp .gt 21, 3) := by decide +kernel
theorem dX5_cover_76 : decode (cr_by Y_X5_cover) 76 = .ok (.iload 4, 2) := by decide +kernel
theorem dX5_cover_78 : decode (cr_by Y_X5_cover) 78 = .ok (.aload_n 0, 1) := by decide +kernel
theorem dX5_cover_79 : decode (cr_by Y_X5_cover) 79 = .ok (.getfield 16, 3) := by decide +kernel
theorem dX5_cover_82 : decode (cr_by Y_X5_cover) 82 = .ok (.iload 5, 2) := by decide +kernel
theorem dX5_cover_84 : decode (cr_by Y_X5_cover) 84 = .ok (.iaload, 1) := by decide +kernel
theorem dX5_cover_85 : decode (cr_by Y_X5_cover) 85 = .ok (.iadd, 1) := by decide +kernel
theorem dX5_cover_86 : decode (cr_by Y_X5_cover) 86 = .ok (.istore 4, 2) := by decide +kernel
theorem dX5_cover_88 : decode (cr_by Y_X5_cover) 88 = .ok (.iinc 5 1, 3) := by decide +kernel
theorem dX5_cover_91 : decode (cr_by Y_X5_cover) 91 = .ok (.goto (-21), 3) := by decide +kernel
theorem dX5_cover_94 : decode (cr_by Y_X5_cover) 94 = .ok (.iconst 0, 1) := by decide +kernel
theorem dX5_cover_95 : decode (cr_by Y_X5_cover) 95 = .ok (.aload_n 0, 1) := by decide +kernel
theorem dX5_cover_96 : decode (cr_by Y_X5_cover) 96 = .ok (.getfield 13, 3) := by decide +kernel
theorem dX5_cover_99 : decode (cr_by Y_X5_cover) 99 = .ok (.iload_n 3, 1) := by decide +kernel
theorem dX5_cover_100 : decode (cr_by Y_X5_cover) 100 = .ok (.iaload, 1) := by decide +kernel
theorem dX5_cover_101 : decode (cr_by Y_X5_cover) 101 = .ok (.iload 4, 2) := by decide +kernel
theorem dX5_cover_103 : decode (cr_by Y_X5_cover) 103 = .ok (.isub, 1) := by decide +kernel
theorem dX5_cover_104 : decode (cr_by Y_X5_cover) 104 = .ok (.invokestatic 211, 3) := by decide +kernel
theorem dX5_cover_107 : decode (cr_by Y_X5_cover) 107 = .ok (.istore 5, 2) := by decide +kernel
theorem dX5_cover_109 : decode (cr_by Y_X5_cover) 109 = .ok (.aload_n 0, 1) := by decide +kernel
theorem dX5_cover_110 : decode (cr_by Y_X5_cover) 110 = .ok (.getfield 16, 3) := by decide +kernel
theorem dX5_cover_113 : decode (cr_by Y_X5_cover) 113 = .ok (.iload_n 3, 1) := by decide +kernel
theorem dX5_cover_114 : decode (cr_by Y_X5_cover) 114 = .ok (.bipush 16, 2) := by decide +kernel
theorem dX5_cover_116 : decode (cr_by Y_X5_cover) 116 = .ok (.iload_n 1, 1) := by decide +kernel
theorem dX5_cover_117 : decode (cr_by Y_X5_cover) 117 = .ok (.isub, 1) := by decide +kernel
theorem dX5_cover_118 : decode (cr_by Y_X5_cover) 118 = .ok (.invokestatic 216, 3) := by decide +kernel
theorem dX5_cover_121 : decode (cr_by Y_X5_cover) 121 = .ok (.dup2, 1) := by decide +kernel
theorem dX5_cover_122 : decode (cr_by Y_X5_cover) 122 = .ok (.iaload, 1) := by decide +kernel
theorem dX5_cover_123 : decode (cr_by Y_X5_cover) 123 = .ok (.iload 5, 2) := by decide +kernel
theorem dX5_cover_125 : decode (cr_by Y_X5_cover) 125 = .ok (.iadd, 1) := by decide +kernel
theorem dX5_cover_126 : decode (cr_by Y_X5_cover) 126 = .ok (.iastore, 1) := by decide +kernel
theorem dX5_cover_127 : decode (cr_by Y_X5_cover) 127 = .ok (.iload_n 2, 1) := by decide +kernel
theorem dX5_cover_128 : decode (cr_by Y_X5_cover) 128 = .ok (.iload 5, 2) := by decide +kernel
theorem dX5_cover_130 : decode (cr_by Y_X5_cover) 130 = .ok (.iadd, 1) := by decide +kernel
theorem dX5_cover_131 : decode (cr_by Y_X5_cover) 131 = .ok (.istore_n 2, 1) := by decide +kernel
theorem dX5_cover_132 : decode (cr_by Y_X5_cover) 132 = .ok (.iinc 3 1, 3) := by decide +kernel
theorem dX5_cover_135 : decode (cr_by Y_X5_cover) 135 = .ok (.goto (-85), 3) := by decide +kernel
theorem dX5_cover_138 : decode (cr_by Y_X5_cover) 138 = .ok (.iload_n 2, 1) := by decide +kernel
theorem dX5_cover_139 : decode (cr_by Y_X5_cover) 139 = .ok (.ireturn, 1) := by decide +kernel
theorem dX5_begins_0 : decode (cr_by Y_X5_begins) 0 = .ok (.iload_n 1, 1) := by decide +kernel
theorem dX5_begins_1 : decode (cr_by Y_X5_begins) 1 = .ok (.bipush 16, 2) := by decide +kernel
theorem dX5_begins_3 : decode (cr_by Y_X5_begins) 3 = .ok (.invokestatic 130, 3) := by decide +kernel
theorem dX5_begins_6 : decode (cr_by Y_X5_begins) 6 = .ok (.ifCond .eq 12, 3) := by decide +kernel
theorem dX5_begins_9 : decode (cr_by Y_X5_begins) 9 = .ok (.aload_n 0, 1) := by decide +kernel
theorem dX5_begins_10 : decode (cr_by Y_X5_begins) 10 = .ok (.getfield 16, 3) := by decide +kernel
theorem dX5_begins_13 : decode (cr_by Y_X5_begins) 13 = .ok (.iload_n 1, 1) := by decide +kernel
theorem dX5_begins_14 : decode (cr_by Y_X5_begins) 14 = .ok (.iaload, 1) := by decide +kernel
theorem dX5_begins_15 : decode (cr_by Y_X5_begins) 15 = .ok (.goto 8, 3) := by decide +kernel
theorem dX5_begins_18 : decode (cr_by Y_X5_begins) 18 = .ok (.aload_n 0, 1) := by decide +kernel
theorem dX5_begins_19 : decode (cr_by Y_X5_begins) 19 = .ok (.iconst (-1), 1) := by decide +kernel
theorem dX5_begins_20 : decode (cr_by Y_X5_begins) 20 = .ok (.invokevirtual 120, 3) := by decide +kernel
theorem dX5_begins_23 : decode (cr_by Y_X5_begins) 23 = .ok (.ireturn, 1) := by decide +kernel
theorem dX5_helperOf_0 : decode (cr_by Y_X5_helperOf) 0 = .ok (.iload_n 1, 1) := by decide +kernel
theorem dX5_helperOf_1 : decode (cr_by Y_X5_helperOf) 1 = .ok (.aload_n 0, 1) := by decide +kernel
theorem dX5_helperOf_2 : decode (cr_by Y_X5_helperOf) 2 = .ok (.getfield 124, 3) := by decide +kernel
theorem dX5_helperOf_5 : decode (cr_by Y_X5_helperOf) 5 = .ok (.invokestatic 130, 3) := by decide +kernel
theorem dX5_helperOf_8 : decode (cr_by Y_X5_helperOf) 8 = .ok (.ifCond .ne 9, 3) := by decide +kernel
theorem dX5_helperOf_11 : decode (cr_by Y_X5_helperOf) 11 = .ok (.aload_n 0, 1) := by decide +kernel
theorem dX5_helperOf_12 : decode (cr_by Y_X5_helperOf) 12 = .ok (.iconst (-1), 1) := by decide +kernel
theorem dX5_helperOf_13 : decode (cr_by Y_X5_helperOf) 13 = .ok (.invokevirtual 120, 3) := by decide +kernel
theorem dX5_helperOf_16 : decode (cr_by Y_X5_helperOf) 16 = .ok (.ireturn, 1) := by decide +kernel
theorem dX5_helperOf_17 : decode (cr_by Y_X5_helperOf) 17 = .ok (.iload_n 2, 1) := by decide +kernel
theorem dX5_helperOf_18 : decode (cr_by Y_X5_helperOf) 18 = .ok (.tableswitch 140 0 6 #[42, 49, 56, 97, 104, 111, 118], 42) := by decide +kernel
theorem dX5_helperOf_60 : decode (cr_by Y_X5_helperOf) 60 = .ok (.aload_n 0, 1) := by decide +kernel
theorem dX5_helperOf_61 : decode (cr_by Y_X5_helperOf) 61 = .ok (.getfield 26, 3) := by decide +kernel
theorem dX5_helperOf_64 : decode (cr_by Y_X5_helperOf) 64 = .ok (.iload_n 1, 1) := by decide +kernel
theorem dX5_helperOf_65 : decode (cr_by Y_X5_helperOf) 65 = .ok (.iaload, 1) := by decide +kernel
theorem dX5_helperOf_66 : decode (cr_by Y_X5_helperOf) 66 = .ok (.ireturn, 1) := by decide +kernel
theorem dX5_helperOf_67 : decode (cr_by Y_X5_helperOf) 67 = .ok (.aload_n 0, 1) := by decide +kernel
theorem dX5_helperOf_68 : decode (cr_by Y_X5_helperOf) 68 = .ok (.getfield 77, 3) := by decide +kernel
theorem dX5_helperOf_71 : decode (cr_by Y_X5_helperOf) 71 = .ok (.iload_n 1, 1) := by decide +kernel
theorem dX5_helperOf_72 : decode (cr_by Y_X5_helperOf) 72 = .ok (.iaload, 1) := by decide +kernel
theorem dX5_helperOf_73 : decode (cr_by Y_X5_helperOf) 73 = .ok (.ireturn, 1) := by decide +kernel
theorem dX5_helperOf_74 : decode (cr_by Y_X5_helperOf) 74 = .ok (.iconst 0, 1) := by decide +kernel
theorem dX5_helperOf_75 : decode (cr_by Y_X5_helperOf) 75 = .ok (.istore_n 3, 1) := by decide +kernel
theorem dX5_helperOf_76 : decode (cr_by Y_X5_helperOf) 76 = .ok (.iload_n 3, 1) := by decide +kernel
theorem dX5_helperOf_77 : decode (cr_by Y_X5_helperOf) 77 = .ok (.aload_n 0, 1) := by decide +kernel
theorem dX5_helperOf_78 : decode (cr_by Y_X5_helperOf) 78 = .ok (.getfield 142, 3) := by decide +kernel
theorem dX5_helperOf_81 : decode (cr_by Y_X5_helperOf) 81 = .ok (.if_icmp .ge 31, 3) := by decide +kernel
theorem dX5_helperOf_84 : decode (cr_by Y_X5_helperOf) 84 = .ok (.aload_n 0, 1) := by decide +kernel
theorem dX5_helperOf_85 : decode (cr_by Y_X5_helperOf) 85 = .ok (.getfield 59, 3) := by decide +kernel
theorem dX5_helperOf_88 : decode (cr_by Y_X5_helperOf) 88 = .ok (.iload_n 3, 1) := by decide +kernel
theorem dX5_helperOf_89 : decode (cr_by Y_X5_helperOf) 89 = .ok (.iaload, 1) := by decide +kernel
theorem dX5_helperOf_90 : decode (cr_by Y_X5_helperOf) 90 = .ok (.iconst 1, 1) := by decide +kernel
theorem dX5_helperOf_91 : decode (cr_by Y_X5_helperOf) 91 = .ok (.if_icmp .ne 15, 3) := by decide +kernel
theorem dX5_helperOf_94 : decode (cr_by Y_X5_helperOf) 94 = .ok (.aload_n 0, 1) := by decide +kernel
theorem dX5_helperOf_95 : decode (cr_by Y_X5_helperOf) 95 = .ok (.getfield 65, 3) := by decide +kernel
theorem dX5_helperOf_98 : decode (cr_by Y_X5_helperOf) 98 = .ok (.iload_n 3, 1) := by decide +kernel
theorem dX5_helperOf_99 : decode (cr_by Y_X5_helperOf) 99 = .ok (.iaload, 1) := by decide +kernel
theorem dX5_helperOf_100 : decode (cr_by Y_X5_helperOf) 100 = .ok (.iload_n 1, 1) := by decide +kernel
theorem dX5_helperOf_101 : decode (cr_by Y_X5_helperOf) 101 = .ok (.if_icmp .ne 5, 3) := by decide +kernel
theorem dX5_helperOf_104 : decode (cr_by Y_X5_helperOf) 104 = .ok (.iload_n 3, 1) := by decide +kernel
theorem dX5_helperOf_105 : decode (cr_by Y_X5_helperOf) 105 = .ok (.ireturn, 1) := by decide +kernel
theorem dX5_helperOf_106 : decode (cr_by Y_X5_helperOf) 106 = .ok (.iinc 3 1, 3) := by decide +kernel
theorem dX5_helperOf_109 : decode (cr_by Y_X5_helperOf) 109 = .ok (.goto (-33), 3) := by decide +kernel
theorem dX5_helperOf_112 : decode (cr_by Y_X5_helperOf) 112 = .ok (.bipush (-9), 2) := by decide +kernel
theorem dX5_helperOf_114 : decode (cr_by Y_X5_helperOf) 114 = .ok (.ireturn, 1) := by decide +kernel
theorem dX5_helperOf_115 : decode (cr_by Y_X5_helperOf) 115 = .ok (.aload_n 0, 1) := by decide +kernel
theorem dX5_helperOf_116 : decode (cr_by Y_X5_helperOf) 116 = .ok (.getfield 29, 3) := by decide +kernel
theorem dX5_helperOf_119 : decode (cr_by Y_X5_helperOf) 119 = .ok (.iload_n 1, 1) := by decide +kernel
theorem dX5_helperOf_120 : decode (cr_by Y_X5_helperOf) 120 = .ok (.iaload, 1) := by decide +kernel
theorem dX5_helperOf_121 : decode (cr_by Y_X5_helperOf) 121 = .ok (.ireturn, 1) := by decide +kernel
theorem dX5_helperOf_122 : decode (cr_by Y_X5_helperOf) 122 = .ok (.aload_n 0, 1) := by decide +kernel
theorem dX5_helperOf_123 : decode (cr_by Y_X5_helperOf) 123 = .ok (.getfield 35, 3) := by decide +kernel
theorem dX5_helperOf_126 : decode (cr_by Y_X5_helperOf) 126 = .ok (.iload_n 1, 1) := by decide +kernel
theorem dX5_helperOf_127 : decode (cr_by Y_X5_helperOf) 127 = .ok (.iaload, 1) := by decide +kernel
theorem dX5_helperOf_128 : decode (cr_by Y_X5_helperOf) 128 = .ok (.ireturn, 1) := by decide +kernel
theorem dX5_helperOf_129 : decode (cr_by Y_X5_helperOf) 129 = .ok (.aload_n 0, 1) := by decide +kernel
theorem dX5_helperOf_130 : decode (cr_by Y_X5_helperOf) 130 = .ok (.getfield 38, 3) := by decide +kernel
theorem dX5_helperOf_133 : decode (cr_by Y_X5_helperOf) 133 = .ok (.iload_n 1, 1) := by decide +kernel
theorem dX5_helperOf_134 : decode (cr_by Y_X5_helperOf) 134 = .ok (.iaload, 1) := by decide +kernel
theorem dX5_helperOf_135 : decode (cr_by Y_X5_helperOf) 135 = .ok (.ireturn, 1) := by decide +kernel
theorem dX5_helperOf_136 : decode (cr_by Y_X5_helperOf) 136 = .ok (.aload_n 0, 1) := by decide +kernel
theorem dX5_helperOf_137 : decode (cr_by Y_X5_helperOf) 137 = .ok (.getfield 26, 3) := by decide +kernel
theorem dX5_helperOf_140 : decode (cr_by Y_X5_helperOf) 140 = .ok (.iload_n 1, 1) := by decide +kernel
theorem dX5_helperOf_141 : decode (cr_by Y_X5_helperOf) 141 = .ok (.iaload, 1) := by decide +kernel
theorem dX5_helperOf_142 : decode (cr_by Y_X5_helperOf) 142 = .ok (.iconst 3, 1) := by decide +kernel
theorem dX5_helperOf_143 : decode (cr_by Y_X5_helperOf) 143 = .ok (.if_icmp .ne 12, 3) := by decide +kernel
theorem dX5_helperOf_146 : decode (cr_by Y_X5_helperOf) 146 = .ok (.aload_n 0, 1) := by decide +kernel
theorem dX5_helperOf_147 : decode (cr_by Y_X5_helperOf) 147 = .ok (.getfield 32, 3) := by decide +kernel
theorem dX5_helperOf_150 : decode (cr_by Y_X5_helperOf) 150 = .ok (.iload_n 1, 1) := by decide +kernel
theorem dX5_helperOf_151 : decode (cr_by Y_X5_helperOf) 151 = .ok (.iaload, 1) := by decide +kernel
theorem dX5_helperOf_152 : decode (cr_by Y_X5_helperOf) 152 = .ok (.goto 5, 3) := by decide +kernel
theorem dX5_helperOf_155 : decode (cr_by Y_X5_helperOf) 155 = .ok (.bipush (-9), 2) := by decide +kernel
theorem dX5_helperOf_157 : decode (cr_by Y_X5_helperOf) 157 = .ok (.ireturn, 1) := by decide +kernel
theorem dX5_helperOf_158 : decode (cr_by Y_X5_helperOf) 158 = .ok (.iload_n 2, 1) := by decide +kernel
theorem dX5_helperOf_159 : decode (cr_by Y_X5_helperOf) 159 = .ok (.bipush 9, 2) := by decide +kernel
theorem dX5_helperOf_161 : decode (cr_by Y_X5_helperOf) 161 = .ok (.if_icmp .le 21, 3) := by decide +kernel
theorem dX5_helperOf_164 : decode (cr_by Y_X5_helperOf) 164 = .ok (.iload_n 2, 1) := by decide +kernel
theorem dX5_helperOf_165 : decode (cr_by Y_X5_helperOf) 165 = .ok (.bipush 14, 2) := by decide +kernel
theorem dX5_helperOf_167 : decode (cr_by Y_X5_helperOf) 167 = .ok (.if_icmp .ge 15, 3) := by decide +kernel
theorem dX5_helperOf_170 : decode (cr_by Y_X5_helperOf) 170 = .ok (.aload_n 0, 1) := by decide +kernel
theorem dX5_helperOf_171 : decode (cr_by Y_X5_helperOf) 171 = .ok (.iload_n 1, 1) := by decide +kernel
theorem dX5_helperOf_172 : decode (cr_by Y_X5_helperOf) 172 = .ok (.iload_n 2, 1) := by decide +kernel
theorem dX5_helperOf_173 : decode (cr_by Y_X5_helperOf) 173 = .ok (.bipush 10, 2) := by decide +kernel
theorem dX5_helperOf_175 : decode (cr_by Y_X5_helperOf) 175 = .ok (.isub, 1) := by decide +kernel
theorem dX5_helperOf_176 : decode (cr_by Y_X5_helperOf) 176 = .ok (.invokevirtual 134, 3) := by decide +kernel
theorem dX5_helperOf_179 : decode (cr_by Y_X5_helperOf) 179 = .ok (.goto 5, 3) := by decide +kernel
theorem dX5_helperOf_182 : decode (cr_by Y_X5_helperOf) 182 = .ok (.bipush (-9), 2) := by decide +kernel
theorem dX5_helperOf_184 : decode (cr_by Y_X5_helperOf) 184 = .ok (.ireturn, 1) := by decide +kernel
theorem dX5_callOf_0 : decode (cr_by Y_X5_callOf) 0 = .ok (.iload_n 1, 1) := by decide +kernel
theorem dX5_callOf_1 : decode (cr_by Y_X5_callOf) 1 = .ok (.aload_n 0, 1) := by decide +kernel
theorem dX5_callOf_2 : decode (cr_by Y_X5_callOf) 2 = .ok (.getfield 142, 3) := by decide +kernel
theorem dX5_callOf_5 : decode (cr_by Y_X5_callOf) 5 = .ok (.invokestatic 130, 3) := by decide +kernel
theorem dX5_callOf_8 : decode (cr_by Y_X5_callOf) 8 = .ok (.ifCond .ne 9, 3) := by decide +kernel
theorem dX5_callOf_11 : decode (cr_by Y_X5_callOf) 11 = .ok (.aload_n 0, 1) := by decide +kernel
theorem dX5_callOf_12 : decode (cr_by Y_X5_callOf) 12 = .ok (.iconst (-1), 1) := by decide +kernel
theorem dX5_callOf_13 : decode (cr_by Y_X5_callOf) 13 = .ok (.invokevirtual 120, 3) := by decide +kernel
theorem dX5_callOf_16 : decode (cr_by Y_X5_callOf) 16 = .ok (.ireturn, 1) := by decide +kernel
theorem dX5_callOf_17 : decode (cr_by Y_X5_callOf) 17 = .ok (.iload_n 2, 1) := by decide +kernel
theorem dX5_callOf_18 : decode (cr_by Y_X5_callOf) 18 = .ok (.tableswitch 166 0 9 #[54, 61, 68, 75, 82, 89, 96, 128, 152, 159], 54) := by decide +kernel
theorem dX5_callOf_72 : decode (cr_by Y_X5_callOf) 72 = .ok (.aload_n 0, 1) := by decide +kernel
theorem dX5_callOf_73 : decode (cr_by Y_X5_callOf) 73 = .ok (.getfield 59, 3) := by decide +kernel
theorem dX5_callOf_76 : decode (cr_by Y_X5_callOf) 76 = .ok (.iload_n 1, 1) := by decide +kernel
theorem dX5_callOf_77 : decode (cr_by Y_X5_callOf) 77 = .ok (.iaload, 1) := by decide +kernel
theorem dX5_callOf_78 : decode (cr_by Y_X5_callOf) 78 = .ok (.ireturn, 1) := by decide +kernel
theorem dX5_callOf_79 : decode (cr_by Y_X5_callOf) 79 = .ok (.aload_n 0, 1) := by decide +kernel
theorem dX5_callOf_80 : decode (cr_by Y_X5_callOf) 80 = .ok (.getfield 41, 3) := by decide +kernel
theorem dX5_callOf_83 : decode (cr_by Y_X5_callOf) 83 = .ok (.iload_n 1, 1) := by decide +kernel
theorem dX5_callOf_84 : decode (cr_by Y_X5_callOf) 84 = .ok (.iaload, 1) := by decide +kernel
theorem dX5_callOf_85 : decode (cr_by Y_X5_callOf) 85 = .ok (.ireturn, 1) := by decide +kernel
theorem dX5_callOf_86 : decode (cr_by Y_X5_callOf) 86 = .ok (.aload_n 0, 1) := by decide +kernel
theorem dX5_callOf_87 : decode (cr_by Y_X5_callOf) 87 = .ok (.getfield 44, 3) := by decide +kernel
theorem dX5_callOf_90 : decode (cr_by Y_X5_callOf) 90 = .ok (.iload_n 1, 1) := by decide +kernel
theorem dX5_callOf_91 : decode (cr_by Y_X5_callOf) 91 = .ok (.iaload, 1) := by decide +kernel
theorem dX5_callOf_92 : decode (cr_by Y_X5_callOf) 92 = .ok (.ireturn, 1) := by decide +kernel
theorem dX5_callOf_93 : decode (cr_by Y_X5_callOf) 93 = .ok (.aload_n 0, 1) := by decide +kernel
theorem dX5_callOf_94 : decode (cr_by Y_X5_callOf) 94 = .ok (.getfield 47, 3) := by decide +kernel
theorem dX5_callOf_97 : decode (cr_by Y_X5_callOf) 97 = .ok (.iload_n 1, 1) := by decide +kernel
theorem dX5_callOf_98 : decode (cr_by Y_X5_callOf) 98 = .ok (.iaload, 1) := by decide +kernel
theorem dX5_callOf_99 : decode (cr_by Y_X5_callOf) 99 = .ok (.ireturn, 1) := by decide +kernel
theorem dX5_callOf_100 : decode (cr_by Y_X5_callOf) 100 = .ok (.aload_n 0, 1) := by decide +kernel
theorem dX5_callOf_101 : decode (cr_by Y_X5_callOf) 101 = .ok (.getfield 50, 3) := by decide +kernel
theorem dX5_callOf_104 : decode (cr_by Y_X5_callOf) 104 = .ok (.iload_n 1, 1) := by decide +kernel
theorem dX5_callOf_105 : decode (cr_by Y_X5_callOf) 105 = .ok (.iaload, 1) := by decide +kernel
theorem dX5_callOf_106 : decode (cr_by Y_X5_callOf) 106 = .ok (.ireturn, 1) := by decide +kernel
theorem dX5_callOf_107 : decode (cr_by Y_X5_callOf) 107 = .ok (.aload_n 0, 1) := by decide +kernel
theorem dX5_callOf_108 : decode (cr_by Y_X5_callOf) 108 = .ok (.getfield 53, 3) := by decide +kernel
theorem dX5_callOf_111 : decode (cr_by Y_X5_callOf) 111 = .ok (.iload_n 1, 1) := by decide +kernel
theorem dX5_callOf_112 : decode (cr_by Y_X5_callOf) 112 = .ok (.iaload, 1) := by decide +kernel
theorem dX5_callOf_113 : decode (cr_by Y_X5_callOf) 113 = .ok (.ireturn, 1) := by decide +kernel
theorem dX5_callOf_114 : decode (cr_by Y_X5_callOf) 114 = .ok (.aload_n 0, 1) := by decide +kernel
theorem dX5_callOf_115 : decode (cr_by Y_X5_callOf) 115 = .ok (.getfield 59, 3) := by decide +kernel
theorem dX5_callOf_118 : decode (cr_by Y_X5_callOf) 118 = .ok (.iload_n 1, 1) := by decide +kernel
theorem dX5_callOf_119 : decode (cr_by Y_X5_callOf) 119 = .ok (.iaload, 1) := by decide +kernel
theorem dX5_callOf_120 : decode (cr_by Y_X5_callOf) 120 = .ok (.iconst 1, 1) := by decide +kernel
theorem dX5_callOf_121 : decode (cr_by Y_X5_callOf) 121 = .ok (.if_icmp .eq 13, 3) := by decide +kernel
theorem dX5_callOf_124 : decode (cr_by Y_X5_callOf) 124 = .ok (.aload_n 0, 1) := by decide +kernel
theorem dX5_callOf_125 : decode (cr_by Y_X5_callOf) 125 = .ok (.getfield 59, 3) := by decide +kernel
theorem dX5_callOf_128 : decode (cr_by Y_X5_callOf) 128 = .ok (.iload_n 1, 1) := by decide +kernel
theorem dX5_callOf_129 : decode (cr_by Y_X5_callOf) 129 = .ok (.iaload, 1) := by decide +kernel
theorem dX5_callOf_130 : decode (cr_by Y_X5_callOf) 130 = .ok (.iconst 2, 1) := by decide +kernel
theorem dX5_callOf_131 : decode (cr_by Y_X5_callOf) 131 = .ok (.if_icmp .ne 12, 3) := by decide +kernel
theorem dX5_callOf_134 : decode (cr_by Y_X5_callOf) 134 = .ok (.aload_n 0, 1) := by decide +kernel
theorem dX5_callOf_135 : decode (cr_by Y_X5_callOf) 135 = .ok (.getfield 65, 3) := by decide +kernel
theorem dX5_callOf_138 : decode (cr_by Y_X5_callOf) 138 = .ok (.iload_n 1, 1) := by decide +kernel
theorem dX5_callOf_139 : decode (cr_by Y_X5_callOf) 139 = .ok (.iaload, 1) := by decide +kernel
theorem dX5_callOf_140 : decode (cr_by Y_X5_callOf) 140 = .ok (.goto 5, 3) := by decide +kernel
theorem dX5_callOf_143 : decode (cr_by Y_X5_callOf) 143 = .ok (.bipush (-9), 2) := by decide +kernel
theorem dX5_callOf_145 : decode (cr_by Y_X5_callOf) 145 = .ok (.ireturn, 1) := by decide +kernel
theorem dX5_callOf_146 : decode (cr_by Y_X5_callOf) 146 = .ok (.aload_n 0, 1) := by decide +kernel
theorem dX5_callOf_147 : decode (cr_by Y_X5_callOf) 147 = .ok (.getfield 59, 3) := by decide +kernel
theorem dX5_callOf_150 : decode (cr_by Y_X5_callOf) 150 = .ok (.iload_n 1, 1) := by decide +kernel
theorem dX5_callOf_151 : decode (cr_by Y_X5_callOf) 151 = .ok (.iaload, 1) := by decide +kernel
theorem dX5_callOf_152 : decode (cr_by Y_X5_callOf) 152 = .ok (.ifCond .ne 11, 3) := by decide +kernel
theorem dX5_callOf_155 : decode (cr_by Y_X5_callOf) 155 = .ok (.aload_n 0, 1) := by decide +kernel
theorem dX5_callOf_156 : decode (cr_by Y_X5_callOf) 156 = .ok (.iload_n 1, 1) := by decide +kernel
theorem dX5_callOf_157 : decode (cr_by Y_X5_callOf) 157 = .ok (.invokevirtual 156, 3) := by decide +kernel
theorem dX5_callOf_160 : decode (cr_by Y_X5_callOf) 160 = .ok (.goto 9, 3) := by decide +kernel
theorem dX5_callOf_163 : decode (cr_by Y_X5_callOf) 163 = .ok (.aload_n 0, 1) := by decide +kernel
theorem dX5_callOf_164 : decode (cr_by Y_X5_callOf) 164 = .ok (.getfield 71, 3) := by decide +kernel
theorem dX5_callOf_167 : decode (cr_by Y_X5_callOf) 167 = .ok (.iload_n 1, 1) := by decide +kernel
theorem dX5_callOf_168 : decode (cr_by Y_X5_callOf) 168 = .ok (.iaload, 1) := by decide +kernel
theorem dX5_callOf_169 : decode (cr_by Y_X5_callOf) 169 = .ok (.ireturn, 1) := by decide +kernel
theorem dX5_callOf_170 : decode (cr_by Y_X5_callOf) 170 = .ok (.aload_n 0, 1) := by decide +kernel
theorem dX5_callOf_171 : decode (cr_by Y_X5_callOf) 171 = .ok (.getfield 68, 3) := by decide +kernel
theorem dX5_callOf_174 : decode (cr_by Y_X5_callOf) 174 = .ok (.iload_n 1, 1) := by decide +kernel
theorem dX5_callOf_175 : decode (cr_by Y_X5_callOf) 175 = .ok (.iaload, 1) := by decide +kernel
theorem dX5_callOf_176 : decode (cr_by Y_X5_callOf) 176 = .ok (.ireturn, 1) := by decide +kernel
theorem dX5_callOf_177 : decode (cr_by Y_X5_callOf) 177 = .ok (.aload_n 0, 1) := by decide +kernel
theorem dX5_callOf_178 : decode (cr_by Y_X5_callOf) 178 = .ok (.getfield 56, 3) := by decide +kernel
theorem dX5_callOf_181 : decode (cr_by Y_X5_callOf) 181 = .ok (.iload_n 1, 1) := by decide +kernel
theorem dX5_callOf_182 : decode (cr_by Y_X5_callOf) 182 = .ok (.iaload, 1) := by decide +kernel
theorem dX5_callOf_183 : decode (cr_by Y_X5_callOf) 183 = .ok (.ireturn, 1) := by decide +kernel
theorem dX5_callOf_184 : decode (cr_by Y_X5_callOf) 184 = .ok (.bipush (-9), 2) := by decide +kernel
theorem dX5_callOf_186 : decode (cr_by Y_X5_callOf) 186 = .ok (.ireturn, 1) := by decide +kernel
theorem dX5_inState_0 : decode (cr_by Y_X5_inState) 0 = .ok (.iconst 0, 1) := by decide +kernel
theorem dX5_inState_1 : decode (cr_by Y_X5_inState) 1 = .ok (.istore_n 2, 1) := by decide +kernel
theorem dX5_inState_2 : decode (cr_by Y_X5_inState) 2 = .ok (.iconst 0, 1) := by decide +kernel
theorem dX5_inState_3 : decode (cr_by Y_X5_inState) 3 = .ok (.istore_n 3, 1) := by decide +kernel
theorem dX5_inState_4 : decode (cr_by Y_X5_inState) 4 = .ok (.iload_n 3, 1) := by decide +kernel
theorem dX5_inState_5 : decode (cr_by Y_X5_inState) 5 = .ok (.aload_n 0, 1) := by decide +kernel
theorem dX5_inState_6 : decode (cr_by Y_X5_inState) 6 = .ok (.getfield 142, 3) := by decide +kernel
theorem dX5_inState_9 : decode (cr_by Y_X5_inState) 9 = .ok (.if_icmp .ge 27, 3) := by decide +kernel
theorem dX5_inState_12 : decode (cr_by Y_X5_inState) 12 = .ok (.iload_n 2, 1) := by decide +kernel
theorem dX5_inState_13 : decode (cr_by Y_X5_inState) 13 = .ok (.aload_n 0, 1) := by decide +kernel
theorem dX5_inState_14 : decode (cr_by Y_X5_inState) 14 = .ok (.getfield 59, 3) := by decide +kernel
theorem dX5_inState_17 : decode (cr_by Y_X5_inState) 17 = .ok (.iload_n 3, 1) := by decide +kernel
theorem dX5_inState_18 : decode (cr_by Y_X5_inState) 18 = .ok (.iaload, 1) := by decide +kernel
theorem dX5_inState_19 : decode (cr_by Y_X5_inState) 19 = .ok (.iload_n 1, 1) := by decide +kernel
theorem dX5_inState_20 : decode (cr_by Y_X5_inState) 20 = .ok (.if_icmp .ne 7, 3) := by decide +kernel
theorem dX5_inState_23 : decode (cr_by Y_X5_inState) 23 = .ok (.iconst 1, 1) := by decide +kernel
theorem dX5_inState_24 : decode (cr_by Y_X5_inState) 24 = .ok (.goto 4, 3) := by decide +kernel
theorem dX5_inState_27 : decode (cr_by Y_X5_inState) 27 = .ok (.iconst 0, 1) := by decide +kernel
theorem dX5_inState_28 : decode (cr_by Y_X5_inState) 28 = .ok (.iadd, 1) := by decide +kernel
theorem dX5_inState_29 : decode (cr_by Y_X5_inState) 29 = .ok (.istore_n 2, 1) := by decide +kernel
theorem dX5_inState_30 : decode (cr_by Y_X5_inState) 30 = .ok (.iinc 3 1, 3) := by decide +kernel
theorem dX5_inState_33 : decode (cr_by Y_X5_inState) 33 = .ok (.goto (-29), 3) := by decide +kernel
theorem dX5_inState_36 : decode (cr_by Y_X5_inState) 36 = .ok (.iload_n 2, 1) := by decide +kernel
theorem dX5_inState_37 : decode (cr_by Y_X5_inState) 37 = .ok (.ireturn, 1) := by decide +kernel
theorem dX5_count_0 : decode (cr_by Y_X5_count) 0 = .ok (.iload_n 1, 1) := by decide +kernel
theorem dX5_count_1 : decode (cr_by Y_X5_count) 1 = .ok (.bipush 10, 2) := by decide +kernel
theorem dX5_count_3 : decode (cr_by Y_X5_count) 3 = .ok (.if_icmp .le 19, 3) := by decide +kernel
theorem dX5_count_6 : decode (cr_by Y_X5_count) 6 = .ok (.iload_n 1, 1) := by decide +kernel
theorem dX5_count_7 : decode (cr_by Y_X5_count) 7 = .ok (.bipush 17, 2) := by decide +kernel
theorem dX5_count_9 : decode (cr_by Y_X5_count) 9 = .ok (.if_icmp .ge 13, 3) := by decide +kernel
theorem dX5_count_12 : decode (cr_by Y_X5_count) 12 = .ok (.aload_n 0, 1) := by decide +kernel
theorem dX5_count_13 : decode (cr_by Y_X5_count) 13 = .ok (.getfield 7, 3) := by decide +kernel
theorem dX5_count_16 : decode (cr_by Y_X5_count) 16 = .ok (.iload_n 1, 1) := by decide +kernel
theorem dX5_count_17 : decode (cr_by Y_X5_count) 17 = .ok (.bipush 10, 2) := by decide +kernel
theorem dX5_count_19 : decode (cr_by Y_X5_count) 19 = .ok (.isub, 1) := by decide +kernel
theorem dX5_count_20 : decode (cr_by Y_X5_count) 20 = .ok (.iaload, 1) := by decide +kernel
theorem dX5_count_21 : decode (cr_by Y_X5_count) 21 = .ok (.ireturn, 1) := by decide +kernel
theorem dX5_count_22 : decode (cr_by Y_X5_count) 22 = .ok (.iconst 0, 1) := by decide +kernel
theorem dX5_count_23 : decode (cr_by Y_X5_count) 23 = .ok (.istore_n 2, 1) := by decide +kernel
theorem dX5_count_24 : decode (cr_by Y_X5_count) 24 = .ok (.iload_n 1, 1) := by decide +kernel
theorem dX5_count_25 : decode (cr_by Y_X5_count) 25 = .ok (.tableswitch 110 0 8 #[51, 56, 61, 66, 66, 66, 66, 66, 74], 51) := by decide +kernel
theorem dX5_count_76 : decode (cr_by Y_X5_count) 76 = .ok (.aload_n 0, 1) := by decide +kernel
theorem dX5_count_77 : decode (cr_by Y_X5_count) 77 = .ok (.getfield 127, 3) := by decide +kernel
theorem dX5_count_80 : decode (cr_by Y_X5_count) 80 = .ok (.ireturn, 1) := by decide +kernel
theorem dX5_count_81 : decode (cr_by Y_X5_count) 81 = .ok (.aload_n 0, 1) := by decide +kernel
theorem dX5_count_82 : decode (cr_by Y_X5_count) 82 = .ok (.getfield 124, 3) := by decide +kernel
theorem dX5_count_85 : decode (cr_by Y_X5_count) 85 = .ok (.ireturn, 1) := by decide +kernel
theorem dX5_count_86 : decode (cr_by Y_X5_count) 86 = .ok (.aload_n 0, 1) := by decide +kernel
theorem dX5_count_87 : decode (cr_by Y_X5_count) 87 = .ok (.getfield 142, 3) := by decide +kernel
theorem dX5_count_90 : decode (cr_by Y_X5_count) 90 = .ok (.ireturn, 1) := by decide +kernel
theorem dX5_count_91 : decode (cr_by Y_X5_count) 91 = .ok (.aload_n 0, 1) := by decide +kernel
theorem dX5_count_92 : decode (cr_by Y_X5_count) 92 = .ok (.iload_n 1, 1) := by decide +kernel
theorem dX5_count_93 : decode (cr_by Y_X5_count) 93 = .ok (.iconst 3, 1) := by decide +kernel
theorem dX5_count_94 : decode (cr_by Y_X5_count) 94 = .ok (.isub, 1) := by decide +kernel
theorem dX5_count_95 : decode (cr_by Y_X5_count) 95 = .ok (.invokevirtual 219, 3) := by decide +kernel
theorem dX5_count_98 : decode (cr_by Y_X5_count) 98 = .ok (.ireturn, 1) := by decide +kernel
theorem dX5_count_99 : decode (cr_by Y_X5_count) 99 = .ok (.iconst 0, 1) := by decide +kernel
theorem dX5_count_100 : decode (cr_by Y_X5_count) 100 = .ok (.istore_n 3, 1) := by decide +kernel
theorem dX5_count_101 : decode (cr_by Y_X5_count) 101 = .ok (.iload_n 3, 1) := by decide +kernel
theorem dX5_count_102 : decode (cr_by Y_X5_count) 102 = .ok (.aload_n 0, 1) := by decide +kernel
theorem dX5_count_103 : decode (cr_by Y_X5_count) 103 = .ok (.getfield 124, 3) := by decide +kernel
theorem dX5_count_106 : decode (cr_by Y_X5_count) 106 = .ok (.if_icmp .ge 27, 3) := by decide +kernel
theorem dX5_count_109 : decode (cr_by Y_X5_count) 109 = .ok (.iload_n 2, 1) := by decide +kernel
theorem dX5_count_110 : decode (cr_by Y_X5_count) 110 = .ok (.aload_n 0, 1) := by decide +kernel
theorem dX5_count_111 : decode (cr_by Y_X5_count) 111 = .ok (.getfield 26, 3) := by decide +kernel
theorem dX5_count_114 : decode (cr_by Y_X5_count) 114 = .ok (.iload_n 3, 1) := by decide +kernel
theorem dX5_count_115 : decode (cr_by Y_X5_count) 115 = .ok (.iaload, 1) := by decide +kernel
theorem dX5_count_116 : decode (cr_by Y_X5_count) 116 = .ok (.iconst 1, 1) := by decide +kernel
theorem dX5_count_117 : decode (cr_by Y_X5_count) 117 = .ok (.if_icmp .ne 7, 3) := by decide +kernel
theorem dX5_count_120 : decode (cr_by Y_X5_count) 120 = .ok (.iconst 1, 1) := by decide +kernel
theorem dX5_count_121 : decode (cr_by Y_X5_count) 121 = .ok (.goto 4, 3) := by decide +kernel
theorem dX5_count_124 : decode (cr_by Y_X5_count) 124 = .ok (.iconst 0, 1) := by decide +kernel
theorem dX5_count_125 : decode (cr_by Y_X5_count) 125 = .ok (.iadd, 1) := by decide +kernel
theorem dX5_count_126 : decode (cr_by Y_X5_count) 126 = .ok (.istore_n 2, 1) := by decide +kernel
theorem dX5_count_127 : decode (cr_by Y_X5_count) 127 = .ok (.iinc 3 1, 3) := by decide +kernel
theorem dX5_count_130 : decode (cr_by Y_X5_count) 130 = .ok (.goto (-29), 3) := by decide +kernel
theorem dX5_count_133 : decode (cr_by Y_X5_count) 133 = .ok (.iload_n 2, 1) := by decide +kernel
theorem dX5_count_134 : decode (cr_by Y_X5_count) 134 = .ok (.ireturn, 1) := by decide +kernel
theorem dX5_count_135 : decode (cr_by Y_X5_count) 135 = .ok (.bipush (-9), 2) := by decide +kernel
theorem dX5_count_137 : decode (cr_by Y_X5_count) 137 = .ok (.ireturn, 1) := by decide +kernel
end
section
/-! numbers, truth as an int, and rows in the form that the walks use -/
noncomputable def bI (p : Prop) : Int32 := @ite _ p (Classical.propDecidable p) 1 0
theorem bI_t {p : Prop} (h : p) : bI p = 1 := by unfold bI; rw [if_pos h]
theorem bI_f {p : Prop} (h : ¬ p) : bI p = 0 := by unfold bI; rw [if_neg h]
theorem bI_01 (p : Prop) : bI p = 0 ∨ bI p = 1 := by
  by_cases h : p
  · exact Or.inr (bI_t h)
  · exact Or.inl (bI_f h)
theorem bI_eq1 {p : Prop} : bI p = 1 ↔ p := ⟨fun h => Classical.byContradiction fun hn => by rw [bI_f hn] at h; exact absurd h (by decide), bI_t⟩
theorem bI_eq0 {p : Prop} : bI p = 0 ↔ ¬ p := ⟨fun h hp => by rw [bI_t hp] at h; exact absurd h (by decide), bI_f⟩
theorem rt_t {p : Prop} {M : cr_M} (h : p) : ((some (.inl (bI p)), M) : Option cr_AV × cr_M) = (some (.inl 1), M) := by rw [bI_t h]
theorem rt_f {p : Prop} {M : cr_M} (h : ¬ p) : ((some (.inl (bI p)), M) : Option cr_AV × cr_M) = (some (.inl 0), M) := by rw [bI_f h]
theorem rt_i {x y : Int32} {M : cr_M} (h : x = y) : ((some (.inl x), M) : Option cr_AV × cr_M) = (some (.inl y), M) := by rw [h]
theorem e_iinc1 {Y : cr_Y} {pc : Nat} {lv : List (Nat × cr_AV)} {st : List cr_AV} {M : cr_M} {r : Option cr_AV × cr_M} {i j : Nat} (hd : decode (cr_by Y) pc = .ok (.iinc i 1, 3)) (hv : cr_lk lv i = some (.inl (nI j))) (hn : i < cr_ml Y) (k : cr_Ev Y (pc + 3) ((i, .inl (nI (j + 1))) :: cr_s1 lv i) st M r) : cr_Ev Y pc lv st M r :=
  e_iinc hd hv hn (nI_1 j) k
theorem e_ialdN {Y : cr_Y} {pc : Nat} {lv : List (Nat × cr_AV)} {st : List cr_AV} {M : cr_M} {r : Option cr_AV × cr_M} {n q j : Nat} (hd : decode (cr_by Y) pc = .ok (.iaload, 1)) (hsh : (cr_sh Y)[q]? = some (.inr (n, false))) (hj : j < n) (hn : n < 2 ^ 31) (k : cr_Ev Y (pc + 1) lv (.inl (M q j) :: st) M r) : cr_Ev Y pc lv (.inl (nI j) :: .inr (.inr q) :: st) M r :=
  e_iald hd hsh (vp_in_nI hj hn) (by rw [nI_clamp (Nat.lt_trans hj hn)]; exact k)
theorem e_zaldN {Y : cr_Y} {pc : Nat} {lv : List (Nat × cr_AV)} {st : List cr_AV} {M : cr_M} {r : Option cr_AV × cr_M} {n q j : Nat} (hd : decode (cr_by Y) pc = .ok (.baload, 1)) (hsh : (cr_sh Y)[q]? = some (.inr (n, true))) (hj : j < n) (hn : n < 2 ^ 31) (k : cr_Ev Y (pc + 1) lv (.inl (M q j) :: st) M r) : cr_Ev Y pc lv (.inl (nI j) :: .inr (.inr q) :: st) M r :=
  e_zald hd hsh (vp_in_nI hj hn) (by rw [nI_clamp (Nat.lt_trans hj hn)]; exact k)
theorem e_iastN {Y : cr_Y} {pc : Nat} {lv : List (Nat × cr_AV)} {st : List cr_AV} {M : cr_M} {r : Option cr_AV × cr_M} {n q j : Nat} {x : Int32} (hd : decode (cr_by Y) pc = .ok (.iastore, 1)) (hsh : (cr_sh Y)[q]? = some (.inr (n, false))) (hj : j < n) (hn : n < 2 ^ 31) (k : cr_Ev Y (pc + 1) lv st (cr_up M q j x) r) : cr_Ev Y pc lv (.inl x :: .inl (nI j) :: .inr (.inr q) :: st) M r :=
  e_iast hd hsh (vp_in_nI hj hn) (by rw [nI_clamp (Nat.lt_trans hj hn)]; exact k)
theorem e_zastN {Y : cr_Y} {pc : Nat} {lv : List (Nat × cr_AV)} {st : List cr_AV} {M : cr_M} {r : Option cr_AV × cr_M} {n q j : Nat} {x : Int32} (hd : decode (cr_by Y) pc = .ok (.bastore, 1)) (hsh : (cr_sh Y)[q]? = some (.inr (n, true))) (hj : j < n) (hn : n < 2 ^ 31) (k : cr_Ev Y (pc + 1) lv st (cr_up M q j (vp_nar .boolean x)) r) : cr_Ev Y pc lv (.inl x :: .inl (nI j) :: .inr (.inr q) :: st) M r :=
  e_zast hd hsh (vp_in_nI hj hn) (by rw [nI_clamp (Nat.lt_trans hj hn)]; exact k)
theorem e_tsw1 {Y : cr_Y} {pc : Nat} {lv : List (Nat × cr_AV)} {st : List cr_AV} {M : cr_M} {r : Option cr_AV × cr_M} {dflt lo hi : Int} {offs : Array Int} {len : Nat} {x : Int32} {off : Int} {tgt : Nat} (v : Int32) (hd : decode (cr_by Y) pc = .ok (.tableswitch dflt lo hi offs, len)) (h1 : ¬ v.toInt < lo) (h2 : ¬ hi < v.toInt) (ho : offs[(v.toInt - lo).toNat]? = some off) (ht : (pc : Int) + off = (tgt : Int)) (kt : x = v → cr_Ev Y tgt lv st M r) (kf : ¬ x = v → cr_Ev Y pc lv (.inl x :: st) M r) : cr_Ev Y pc lv (.inl x :: st) M r := by
  by_cases h : x = v
  · exact e_tswI v h hd h1 h2 ho ht (kt h)
  · exact kf h
theorem r_iret {Y : cr_Y} {pc : Nat} {lv : List (Nat × cr_AV)} {M : cr_M} {r : Option cr_AV × cr_M} {v : Int32} (hd : decode (cr_by Y) pc = .ok (.ireturn, 1)) (hrt : cr_rt Y = some .int) (he : r = (some (.inl v), M)) : cr_Ev Y pc lv [.inl v] M r := e_iret (st := []) hd hrt he
theorem r_zret {Y : cr_Y} {pc : Nat} {lv : List (Nat × cr_AV)} {M : cr_M} {r : Option cr_AV × cr_M} {v : Int32} (hd : decode (cr_by Y) pc = .ok (.ireturn, 1)) (hrt : cr_rt Y = some .boolean) (hz : v = 0 ∨ v = 1) (he : r = (some (.inl v), M)) : cr_Ev Y pc lv [.inl v] M r := e_zret (st := []) hd hrt hz he
theorem r_lret {Y : cr_Y} {pc : Nat} {lv : List (Nat × cr_AV)} {M : cr_M} {r : Option cr_AV × cr_M} {v : Int64} (hd : decode (cr_by Y) pc = .ok (.lreturn, 1)) (hrt : cr_rt Y = some .long) (he : r = (some (.inr (.inl v)), M)) : cr_Ev Y pc lv [.inr (.inl v)] M r := e_lret (st := []) hd hrt he
theorem r_vret {Y : cr_Y} {pc : Nat} {lv : List (Nat × cr_AV)} {M : cr_M} {r : Option cr_AV × cr_M} (hd : decode (cr_by Y) pc = .ok (.return_, 1)) (hrt : cr_rt Y = none) (he : r = (none, M)) : cr_Ev Y pc lv [] M r := e_vret (st := []) hd hrt he
theorem cr_rd {M : cr_M} {k i k' i' : Nat} {x : Int32} : cr_up M k i x k' i' = if k' = k ∧ i' = i then x else M k' i' := by
  unfold cr_up va_up upd
  by_cases h : k' = k
  · subst h
    by_cases h2 : i' = i <;> simp [h2]
  · simp [h]
/-- an int outside a range of Nats, or one of them -/
theorem cr_ix (x : Int32) {n : Nat} (hn : n < 2 ^ 31) : (¬ (0 ≤ x ∧ x < nI n)) ∨ ∃ j : Nat, j < n ∧ x = nI j := by
  rcases pk_ix x hn with h | h | h
  · exact Or.inl fun q => absurd h (Int32.not_lt.mpr q.1)
  · exact Or.inl fun q => absurd q.2 (Int32.not_lt.mpr h)
  · exact Or.inr h
theorem cr_ix_in {j n : Nat} (h : j < n) (hn : n < 2 ^ 31) : 0 ≤ nI j ∧ nI j < nI n := ⟨nI_pos' (by omega), nI_lt h hn⟩
theorem e_wk {Y : cr_Y} {pc : Nat} {lv lv' : List (Nat × cr_AV)} {st : List cr_AV} {M : cr_M} {r : Option cr_AV × cr_M} (k : cr_Ev Y pc lv' st M r) (h : cr_sub lv' lv) : cr_Ev Y pc lv st M r := e_weak lv' h k
theorem e_iincp {Y : cr_Y} {pc : Nat} {lv : List (Nat × cr_AV)} {st : List cr_AV} {M : cr_M} {r : Option cr_AV × cr_M} {i : Nat} {x : Int32} (hd : decode (cr_by Y) pc = .ok (.iinc i 1, 3)) (hv : cr_lk lv i = some (.inl x)) (hn : i < cr_ml Y) (k : cr_Ev Y (pc + 3) ((i, .inl (x + 1)) :: cr_s1 lv i) st M r) : cr_Ev Y pc lv st M r :=
  e_iinc hd hv hn rfl k
theorem e_getIv {Y : cr_Y} {pc : Nat} {lv : List (Nat × cr_AV)} {st : List cr_AV} {M : cr_M} {r : Option cr_AV × cr_M} {i ci j q : Nat} {fs : List (Option Nat)} (v : Int32) (hd : decode (cr_by Y) pc = .ok (.getfield i, 3)) (hf : cr_fl (cr_nm Y).cls i ci j) (hsh : (cr_sh Y)[q]? = some (.inl (ci, fs))) (hj : fs[j]? = some none) (hv : M q j = v) (k : cr_Ev Y (pc + 3) lv (.inl v :: st) M r) : cr_Ev Y pc lv (.inr (.inr q) :: st) M r := e_getI hd hf hsh hj (hv ▸ k)
end
section
/-! the helpers' picture: the class's rows (cells 0 .. 8) beside the reference's memory N -/
theorem g_get : ∀ g, g < 256 → ∀ s, s < 4 → (nI g >>> (2 * nI s &&& 31)) &&& 3 = nI (g / 4 ^ s % 4) := by decide +kernel
theorem g_set : ∀ g, g < 256 → ∀ s, s < 4 → ∀ v, v < 4 → (nI g &&& (3 <<< (2 * nI s &&& 31) ^^^ -1) ||| nI v <<< (2 * nI s &&& 31)) = nI (g - g / 4 ^ s % 4 * 4 ^ s + v * 4 ^ s) := by decide +kernel
theorem g_set2 : ∀ g, g < 256 → ∀ s, s < 4 → ∀ v, v < 4 → g - g / 4 ^ s % 4 * 4 ^ s + v * 4 ^ s < 256 ∧ ∀ t, t < 4 → (g - g / 4 ^ s % 4 * 4 ^ s + v * 4 ^ s) / 4 ^ t % 4 = if t = s then v else g / 4 ^ t % 4 := by decide +kernel
def f_bit (x : Int32) : Int32 :=
  let a := x - ((x.toUInt32 >>> ((1 : Int32).toUInt32 &&& Int32.toUInt32 31)).toInt32 &&& 1431655765)
  let b := (a &&& 858993459) + ((a.toUInt32 >>> ((2 : Int32).toUInt32 &&& Int32.toUInt32 31)).toInt32 &&& 858993459)
  let c := (b + (b.toUInt32 >>> ((4 : Int32).toUInt32 &&& Int32.toUInt32 31)).toInt32) &&& 252645135
  let d := c + (c.toUInt32 >>> ((8 : Int32).toUInt32 &&& Int32.toUInt32 31)).toInt32
  let e := d + (d.toUInt32 >>> ((16 : Int32).toUInt32 &&& Int32.toUInt32 31)).toInt32
  e &&& 63
def g_cnt (g : Nat) : Nat := (if g % 4 = 0 then 0 else 1) + (if g / 4 % 4 = 0 then 0 else 1) + (if g / 16 % 4 = 0 then 0 else 1) + (if g / 64 % 4 = 0 then 0 else 1)
theorem g_bit : ∀ g, g < 256 → f_bit ((nI g ||| nI g >>> (1 &&& 31)) &&& 85) = nI (g_cnt g) := by decide +kernel
/-- one helper: the class's rows and the reference's -/
def r_h1 (H N : cr_M) (k : Nat) : Prop := (∃ g, g < 256 ∧ H 1 k = nI g ∧ ∀ s, s < 4 → N 4 (4 * k + s) = nI (g / 4 ^ s % 4)) ∧ H 2 k = N 5 k ∧ H 3 k = N 6 k ∧ H 4 k = N 22 k ∧ N 24 k = bI (H 5 k = 3) ∧ H 6 k = N 8 k ∧ H 7 k = N 9 k ∧ H 8 k = N 7 k
def r_H (hn : Nat) (H N : cr_M) : Prop := hn ≤ 10 ∧ H 0 0 = nI hn ∧ ∀ k, k < hn → r_h1 H N k
/-- could helper k take a call of sort s (w: a written one) -/
def s_cT (N : cr_M) (k s : Nat) (w : Int32) : Prop := ¬ N 4 (4 * k + s) = 0 ∧ (N 5 k = 1 ∨ (¬ w = 0 ∧ N 5 k = 2 ∧ ¬ N 24 k = 0 ∧ N 22 k < 3))
/-- of how many sorts a grade -/
noncomputable def s_so (N : cr_M) (k : Nat) : Int32 := bI (0 < N 4 (4 * k)) + bI (0 < N 4 (4 * k + 1)) + bI (0 < N 4 (4 * k + 2)) + bI (0 < N 4 (4 * k + 3))
def s_ah (N : cr_M) (s h o : Nat) : Prop :=
  (¬ N 4 (4 * h + s) = N 4 (4 * o + s) ∧ N 4 (4 * o + s) < N 4 (4 * h + s)) ∨
  (N 4 (4 * h + s) = N 4 (4 * o + s) ∧ ((¬ s_so N h = s_so N o ∧ s_so N h < s_so N o) ∨
   (s_so N h = s_so N o ∧ ((¬ N 5 h = N 5 o ∧ N 5 h = 1) ∨ (N 5 h = N 5 o ∧ N 6 h < N 6 o)))))
theorem g_pos : ∀ g, g < 256 → ∀ s, s < 4 → (0 < nI (g / 4 ^ s % 4) ↔ ¬ g / 4 ^ s % 4 = 0) := by decide +kernel
theorem s_so_g {N : cr_M} {k g : Nat} (hg : g < 256) (h : ∀ s, s < 4 → N 4 (4 * k + s) = nI (g / 4 ^ s % 4)) : s_so N k = nI (g_cnt g) := by
  have b : ∀ s, s < 4 → bI (0 < N 4 (4 * k + s)) = nI (if g / 4 ^ s % 4 = 0 then 0 else 1) := by
    intro s hs
    rw [h s hs]
    by_cases hz : g / 4 ^ s % 4 = 0
    · rw [bI_f (by rw [g_pos g hg s hs]; exact fun q => q hz), if_pos hz]; rfl
    · rw [bI_t ((g_pos g hg s hs).mpr hz), if_neg hz]; rfl
  have b0 := b 0 (by omega)
  have b1 := b 1 (by omega)
  have b2 := b 2 (by omega)
  have b3 := b 3 (by omega)
  unfold s_so g_cnt
  rw [show 4 * k = 4 * k + 0 from rfl, b0, b1, b2, b3, nI_add, nI_add, nI_add]
  simp
theorem g_sub4 : ∀ a, a < 4 → ∀ b, b < 4 → ((nI a - nI b = 0 ↔ nI a = nI b) ∧ (0 < nI a - nI b ↔ nI b < nI a)) := by decide +kernel
theorem g_sub5 : ∀ a, a < 5 → ∀ b, b < 5 → ((nI a - nI b = 0 ↔ nI a = nI b) ∧ (nI a - nI b < 0 ↔ nI a < nI b)) := by decide +kernel
theorem g_cnt5 : ∀ g, g < 256 → g_cnt g < 5 := by decide +kernel
def h_take (M : cr_M) (k : Nat) (w t : Int32) : cr_M := cr_up (cr_up (cr_up (cr_up M 4 k (M 4 k + 1)) 5 k w) 2 k 2) 3 k t
def h_let (M : cr_M) (k : Nat) (t : Int32) : cr_M := cr_up (cr_up (cr_up M 4 k (M 4 k - 1)) 2 k (if 0 < M 4 k - 1 then 2 else 1)) 3 k t
def h_busy (hn : Nat) (x : Int32) (M : cr_M) : cr_M := fun q i => if q = 7 ∧ i < hn ∧ M 2 i = 2 then M 7 i + x else M q i
def h_brk (hn : Nat) (t : Int32) (M : cr_M) : cr_M := fun q i => if q = 2 ∧ i < hn ∧ M 2 i = 3 ∧ M 8 i ≤ t then 1 else if q = 3 ∧ i < hn ∧ M 2 i = 3 ∧ M 8 i ≤ t then t else M q i
def h_nb (M : cr_M) : Nat → Int32
  | 0 => 2147483647
  | j + 1 => if M 2 j = 3 then (if M 8 j < h_nb M j then M 8 j else h_nb M j) else h_nb M j
def h_cf (M : cr_M) : Nat → Int32
  | 0 => 0
  | j + 1 => if M 2 j = 1 then h_cf M j + 1 else h_cf M j
def h_add (M : cr_M) (hn : Nat) (g t : Int32) : cr_M := cr_up (cr_up (cr_up (cr_up M 1 hn g) 2 hn 0) 3 hn t) 0 0 (nI hn + 1)
def h_cpy (hn : Nat) (M : cr_M) : cr_M := fun q i => if q = 0 ∧ i = 0 then M 9 0 else if 1 ≤ q ∧ q ≤ 8 ∧ i < hn then M (9 + q) i else M q i
end
section
set_option maxHeartbeats 1000000 in
theorem ev_X2_has (M : cr_M) (h : Int32) : cr_EvM Y_X2_has [.inr (.inr 0), .inl h] M (some (.inl (bI (0 ≤ h ∧ h < M 0 0))), M) := by
  refine e_iload_n (pc := 0) dX2_has_0 rfl ?_
  refine e_if_lt (pc := 1) (tgt := 16) dX2_has_1 (by decide) (fun hc_1 => ?_) (fun hc_1 => ?_)
  · refine e_iconst (pc := 16) (v := 0) dX2_has_16 (by decide) ?_
    refine r_zret (pc := 17) dX2_has_17 rfl (by first | exact Or.inl rfl | exact Or.inr rfl | exact bI_01 _ | assumption) ?_
    first | exact rt_t (by grind) | exact rt_f (by grind)
  · refine e_iload_n (pc := 4) dX2_has_4 rfl ?_
    refine e_aload_n (pc := 5) dX2_has_5 rfl ?_
    refine e_getI (pc := 6) dX2_has_6 f_2_36 rfl rfl ?_
    refine e_icmp_ge (pc := 9) (tgt := 16) dX2_has_9 (by decide) (fun hc_9 => ?_) (fun hc_9 => ?_)
    · refine e_iconst (pc := 16) (v := 0) dX2_has_16 (by decide) ?_
      refine r_zret (pc := 17) dX2_has_17 rfl (by first | exact Or.inl rfl | exact Or.inr rfl | exact bI_01 _ | assumption) ?_
      first | exact rt_t (by grind) | exact rt_f (by grind)
    · refine e_iconst (pc := 12) (v := 1) dX2_has_12 (by decide) ?_
      refine e_goto (pc := 13) (tgt := 17) dX2_has_13 (by decide) ?_
      refine r_zret (pc := 17) dX2_has_17 rfl (by first | exact Or.inl rfl | exact Or.inr rfl | exact bI_01 _ | assumption) ?_
      first | exact rt_t (by grind) | exact rt_f (by grind)
set_option maxHeartbeats 1000000 in
theorem ev_X2_become (M : cr_M) {k : Nat} (w t : Int32) (hk : k < 10) : cr_EvM Y_X2_become [.inr (.inr 0), .inl (nI k), .inl w, .inl t] M (none, cr_up (cr_up M 2 k w) 3 k t) := by
  refine e_aload_n (pc := 0) dX2_become_0 rfl ?_
  refine e_getA (pc := 1) dX2_become_1 f_2_15 rfl rfl ?_
  refine e_iload_n (pc := 4) dX2_become_4 rfl ?_
  refine e_iload_n (pc := 5) dX2_become_5 rfl ?_
  first | refine e_iastN (pc := 6) dX2_become_6 rfl (by omega) (by decide) ?_ | refine e_iast (pc := 6) dX2_become_6 rfl (by assumption) ?_
  refine e_aload_n (pc := 7) dX2_become_7 rfl ?_
  refine e_getA (pc := 8) dX2_become_8 f_2_18 rfl rfl ?_
  refine e_iload_n (pc := 11) dX2_become_11 rfl ?_
  refine e_iload_n (pc := 12) dX2_become_12 rfl ?_
  first | refine e_iastN (pc := 13) dX2_become_13 rfl (by omega) (by decide) ?_ | refine e_iast (pc := 13) dX2_become_13 rfl (by assumption) ?_
  refine r_vret (pc := 14) dX2_become_14 rfl ?_
  rfl
set_option maxHeartbeats 1000000 in
theorem ev_X2_gradeFor (M : cr_M) {k : Nat} (s : Int32) (hk : k < 10) : cr_EvM Y_X2_gradeFor [.inr (.inr 0), .inl (nI k), .inl s] M (some (.inl ((M 1 k >>> (2 * s &&& 31)) &&& 3)), M) := by
  refine e_aload_n (pc := 0) dX2_gradeFor_0 rfl ?_
  refine e_getA (pc := 1) dX2_gradeFor_1 f_2_9 rfl rfl ?_
  refine e_iload_n (pc := 4) dX2_gradeFor_4 rfl ?_
  first | refine e_ialdN (pc := 5) dX2_gradeFor_5 rfl (by omega) (by decide) ?_ | refine e_iald (pc := 5) dX2_gradeFor_5 rfl (by assumption) ?_
  refine e_iconst (pc := 6) (v := 2) dX2_gradeFor_6 (by decide) ?_
  refine e_iload_n (pc := 7) dX2_gradeFor_7 rfl ?_
  refine e_imul (pc := 8) dX2_gradeFor_8 ?_
  refine e_ishr (pc := 9) dX2_gradeFor_9 ?_
  refine e_iconst (pc := 10) (v := 3) dX2_gradeFor_10 (by decide) ?_
  refine e_iand (pc := 11) dX2_gradeFor_11 ?_
  refine r_iret (pc := 12) dX2_gradeFor_12 rfl ?_
  rfl
theorem ev_X2_gradeForN {hn : Nat} {M N : cr_M} {k s : Nat} (hR : r_H hn M N) (hk : k < hn) (hs : s < 4) : cr_EvM Y_X2_gradeFor [.inr (.inr 0), .inl (nI k), .inl (nI s)] M (some (.inl (N 4 (4 * k + s))), M) := by
  obtain ⟨h10, -, hall⟩ := hR
  obtain ⟨⟨g, hg, e1, e2⟩, -⟩ := hall k hk
  have h := ev_X2_gradeFor M (k := k) (nI s) (by omega)
  rw [e1, g_get g hg s hs, ← e2 s hs] at h
  exact h
set_option maxHeartbeats 1000000 in
theorem ev_X2_setGrade (M : cr_M) {k : Nat} (s g : Int32) (hk : k < 10) : cr_EvM Y_X2_setGrade [.inr (.inr 0), .inl (nI k), .inl s, .inl g] M (none, cr_up M 1 k (M 1 k &&& (3 <<< (2 * s &&& 31) ^^^ -1) ||| g <<< (2 * s &&& 31))) := by
  refine e_aload_n (pc := 0) dX2_setGrade_0 rfl ?_
  refine e_getA (pc := 1) dX2_setGrade_1 f_2_9 rfl rfl ?_
  refine e_iload_n (pc := 4) dX2_setGrade_4 rfl ?_
  refine e_aload_n (pc := 5) dX2_setGrade_5 rfl ?_
  refine e_getA (pc := 6) dX2_setGrade_6 f_2_9 rfl rfl ?_
  refine e_iload_n (pc := 9) dX2_setGrade_9 rfl ?_
  first | refine e_ialdN (pc := 10) dX2_setGrade_10 rfl (by omega) (by decide) ?_ | refine e_iald (pc := 10) dX2_setGrade_10 rfl (by assumption) ?_
  refine e_iconst (pc := 11) (v := 3) dX2_setGrade_11 (by decide) ?_
  refine e_iconst (pc := 12) (v := 2) dX2_setGrade_12 (by decide) ?_
  refine e_iload_n (pc := 13) dX2_setGrade_13 rfl ?_
  refine e_imul (pc := 14) dX2_setGrade_14 ?_
  refine e_ishl (pc := 15) dX2_setGrade_15 ?_
  refine e_iconst (pc := 16) (v := (-1)) dX2_setGrade_16 (by decide) ?_
  refine e_ixor (pc := 17) dX2_setGrade_17 ?_
  refine e_iand (pc := 18) dX2_setGrade_18 ?_
  refine e_iload_n (pc := 19) dX2_setGrade_19 rfl ?_
  refine e_iconst (pc := 20) (v := 2) dX2_setGrade_20 (by decide) ?_
  refine e_iload_n (pc := 21) dX2_setGrade_21 rfl ?_
  refine e_imul (pc := 22) dX2_setGrade_22 ?_
  refine e_ishl (pc := 23) dX2_setGrade_23 ?_
  refine e_ior (pc := 24) dX2_setGrade_24 ?_
  first | refine e_iastN (pc := 25) dX2_setGrade_25 rfl (by omega) (by decide) ?_ | refine e_iast (pc := 25) dX2_setGrade_25 rfl (by assumption) ?_
  refine r_vret (pc := 26) dX2_setGrade_26 rfl ?_
  rfl
set_option maxHeartbeats 1000000 in
theorem ev_J_bit (M : cr_M) (x : Int32) : cr_EvM Y_J_bit [.inl x] M (some (.inl (f_bit x)), M) := by
  refine e_iload_n (pc := 0) dJ_bit_0 rfl ?_
  refine e_iload_n (pc := 1) dJ_bit_1 rfl ?_
  refine e_iconst (pc := 2) (v := 1) dJ_bit_2 (by decide) ?_
  refine e_iushr (pc := 3) dJ_bit_3 rfl ?_
  refine e_ldcw (pc := 4) (v := (1431655765 : Int32)) dJ_bit_4 (cr_in (i := 422) (by decide +kernel) rfl) ?_
  refine e_iand (pc := 7) dJ_bit_7 ?_
  refine e_isub (pc := 8) dJ_bit_8 ?_
  refine e_istore_n (pc := 9) dJ_bit_9 (by decide) ?_
  refine e_iload_n (pc := 10) dJ_bit_10 rfl ?_
  refine e_ldcw (pc := 11) (v := (858993459 : Int32)) dJ_bit_11 (cr_in (i := 423) (by decide +kernel) rfl) ?_
  refine e_iand (pc := 14) dJ_bit_14 ?_
  refine e_iload_n (pc := 15) dJ_bit_15 rfl ?_
  refine e_iconst (pc := 16) (v := 2) dJ_bit_16 (by decide) ?_
  refine e_iushr (pc := 17) dJ_bit_17 rfl ?_
  refine e_ldcw (pc := 18) (v := (858993459 : Int32)) dJ_bit_18 (cr_in (i := 423) (by decide +kernel) rfl) ?_
  refine e_iand (pc := 21) dJ_bit_21 ?_
  refine e_iadd (pc := 22) dJ_bit_22 ?_
  refine e_istore_n (pc := 23) dJ_bit_23 (by decide) ?_
  refine e_iload_n (pc := 24) dJ_bit_24 rfl ?_
  refine e_iload_n (pc := 25) dJ_bit_25 rfl ?_
  refine e_iconst (pc := 26) (v := 4) dJ_bit_26 (by decide) ?_
  refine e_iushr (pc := 27) dJ_bit_27 rfl ?_
  refine e_iadd (pc := 28) dJ_bit_28 ?_
  refine e_ldcw (pc := 29) (v := (252645135 : Int32)) dJ_bit_29 (cr_in (i := 424) (by decide +kernel) rfl) ?_
  refine e_iand (pc := 32) dJ_bit_32 ?_
  refine e_istore_n (pc := 33) dJ_bit_33 (by decide) ?_
  refine e_iload_n (pc := 34) dJ_bit_34 rfl ?_
  refine e_iload_n (pc := 35) dJ_bit_35 rfl ?_
  refine e_bipush (pc := 36) (v := 8) dJ_bit_36 (by decide) ?_
  refine e_iushr (pc := 38) dJ_bit_38 rfl ?_
  refine e_iadd (pc := 39) dJ_bit_39 ?_
  refine e_istore_n (pc := 40) dJ_bit_40 (by decide) ?_
  refine e_iload_n (pc := 41) dJ_bit_41 rfl ?_
  refine e_iload_n (pc := 42) dJ_bit_42 rfl ?_
  refine e_bipush (pc := 43) (v := 16) dJ_bit_43 (by decide) ?_
  refine e_iushr (pc := 45) dJ_bit_45 rfl ?_
  refine e_iadd (pc := 46) dJ_bit_46 ?_
  refine e_istore_n (pc := 47) dJ_bit_47 (by decide) ?_
  refine e_iload_n (pc := 48) dJ_bit_48 rfl ?_
  refine e_bipush (pc := 49) (v := 63) dJ_bit_49 (by decide) ?_
  refine e_iand (pc := 51) dJ_bit_51 ?_
  refine r_iret (pc := 52) dJ_bit_52 rfl ?_
  rfl
set_option maxHeartbeats 1000000 in
theorem ev_X2_sortsOf {hn : Nat} {M N : cr_M} {k : Nat} (hR : r_H hn M N) (hk : k < hn) : cr_EvM Y_X2_sortsOf [.inr (.inr 0), .inl (nI k)] M (some (.inl (s_so N k)), M) := by
  obtain ⟨h10, -, hall⟩ := hR
  obtain ⟨⟨g, hg, e1, e2⟩, -⟩ := hall k hk
  refine e_aload_n (pc := 0) dX2_sortsOf_0 rfl ?_
  refine e_getA (pc := 1) dX2_sortsOf_1 f_2_9 rfl rfl ?_
  refine e_iload_n (pc := 4) dX2_sortsOf_4 rfl ?_
  first | refine e_ialdN (pc := 5) dX2_sortsOf_5 rfl (by omega) (by decide) ?_ | refine e_iald (pc := 5) dX2_sortsOf_5 rfl (by assumption) ?_
  refine e_aload_n (pc := 6) dX2_sortsOf_6 rfl ?_
  refine e_getA (pc := 7) dX2_sortsOf_7 f_2_9 rfl rfl ?_
  refine e_iload_n (pc := 10) dX2_sortsOf_10 rfl ?_
  first | refine e_ialdN (pc := 11) dX2_sortsOf_11 rfl (by omega) (by decide) ?_ | refine e_iald (pc := 11) dX2_sortsOf_11 rfl (by assumption) ?_
  refine e_iconst (pc := 12) (v := 1) dX2_sortsOf_12 (by decide) ?_
  refine e_ishr (pc := 13) dX2_sortsOf_13 ?_
  refine e_ior (pc := 14) dX2_sortsOf_14 ?_
  refine e_bipush (pc := 15) (v := 85) dX2_sortsOf_15 (by decide) ?_
  refine e_iand (pc := 17) dX2_sortsOf_17 ?_
  refine e_stat1i (pc := 18) dX2_sortsOf_18 cs_X2_sortsOf_40 st_J_bit rfl (by decide) (Nat.le_of_ble_eq_true rfl) (ev_J_bit _ _) ?_
  refine r_iret (pc := 21) dX2_sortsOf_21 rfl ?_
  exact rt_i (by rw [s_so_g hg e2, ← g_bit g hg, e1])
set_option maxHeartbeats 1000000 in
theorem ev_X2_canTake {hn : Nat} {M N : cr_M} {k s : Nat} (w : Int32) (hR : r_H hn M N) (hk : k < hn) (hs : s < 4) : cr_EvM Y_X2_canTake [.inr (.inr 0), .inl (nI k), .inl (nI s), .inl w] M (some (.inl (bI (s_cT N k s w))), M) := by
  obtain ⟨h10, hsz, hall⟩ := hR
  obtain ⟨⟨g, hg, e1, e2⟩, e3, -, e5, e6, -⟩ := hall k hk
  have eg : (M 1 k >>> (2 * nI s &&& 31)) &&& 3 = N 4 (4 * k + s) := by rw [e1, g_get g hg s hs, e2 s hs]
  have hlt : nI k < M 0 0 := by rw [hsz]; exact nI_lt hk (by omega)
  have hp : ¬ nI k < 0 := nI_pos (by omega)
  have e7 : (¬ N 24 k = 0) ↔ M 5 k = 3 := by rw [e6, bI_eq0]; exact Classical.not_not
  unfold s_cT
  refine e_iload_n (pc := 0) dX2_canTake_0 rfl ?_
  refine e_if_lt (pc := 1) (tgt := 27) dX2_canTake_1 (by decide) (fun hc_1 => ?_) (fun hc_1 => ?_)
  · refine e_iconst (pc := 27) (v := 0) dX2_canTake_27 (by decide) ?_
    refine r_zret (pc := 28) dX2_canTake_28 rfl (by first | exact Or.inl rfl | exact Or.inr rfl | exact bI_01 _ | assumption) ?_
    first | exact rt_t (by grind) | exact rt_f (by grind)
  · refine e_iload_n (pc := 4) dX2_canTake_4 rfl ?_
    refine e_aload_n (pc := 5) dX2_canTake_5 rfl ?_
    refine e_getI (pc := 6) dX2_canTake_6 f_2_36 rfl rfl ?_
    refine e_icmp_ge (pc := 9) (tgt := 27) dX2_canTake_9 (by decide) (fun hc_9 => ?_) (fun hc_9 => ?_)
    · refine e_iconst (pc := 27) (v := 0) dX2_canTake_27 (by decide) ?_
      refine r_zret (pc := 28) dX2_canTake_28 rfl (by first | exact Or.inl rfl | exact Or.inr rfl | exact bI_01 _ | assumption) ?_
      first | exact rt_t (by grind) | exact rt_f (by grind)
    · refine e_aload_n (pc := 12) dX2_canTake_12 rfl ?_
      refine e_getA (pc := 13) dX2_canTake_13 f_2_9 rfl rfl ?_
      refine e_iload_n (pc := 16) dX2_canTake_16 rfl ?_
      first | refine e_ialdN (pc := 17) dX2_canTake_17 rfl (by omega) (by decide) ?_ | refine e_iald (pc := 17) dX2_canTake_17 rfl (by assumption) ?_
      refine e_iconst (pc := 18) (v := 2) dX2_canTake_18 (by decide) ?_
      refine e_iload_n (pc := 19) dX2_canTake_19 rfl ?_
      refine e_imul (pc := 20) dX2_canTake_20 ?_
      refine e_ishr (pc := 21) dX2_canTake_21 ?_
      refine e_iconst (pc := 22) (v := 3) dX2_canTake_22 (by decide) ?_
      refine e_iand (pc := 23) dX2_canTake_23 ?_
      refine e_if_ne (pc := 24) (tgt := 29) dX2_canTake_24 (by decide) (fun hc_24 => ?_) (fun hc_24 => ?_)
      · refine e_aload_n (pc := 29) dX2_canTake_29 rfl ?_
        refine e_getA (pc := 30) dX2_canTake_30 f_2_15 rfl rfl ?_
        refine e_iload_n (pc := 33) dX2_canTake_33 rfl ?_
        first | refine e_ialdN (pc := 34) dX2_canTake_34 rfl (by omega) (by decide) ?_ | refine e_iald (pc := 34) dX2_canTake_34 rfl (by assumption) ?_
        refine e_iconst (pc := 35) (v := 1) dX2_canTake_35 (by decide) ?_
        refine e_icmp_ne (pc := 36) (tgt := 41) dX2_canTake_36 (by decide) (fun hc_36 => ?_) (fun hc_36 => ?_)
        · refine e_iload_n (pc := 41) dX2_canTake_41 rfl ?_
          refine e_if_eq (pc := 42) (tgt := 79) dX2_canTake_42 (by decide) (fun hc_42 => ?_) (fun hc_42 => ?_)
          · refine e_iconst (pc := 79) (v := 0) dX2_canTake_79 (by decide) ?_
            refine r_zret (pc := 80) dX2_canTake_80 rfl (by first | exact Or.inl rfl | exact Or.inr rfl | exact bI_01 _ | assumption) ?_
            first | exact rt_t (by grind) | exact rt_f (by grind)
          · refine e_aload_n (pc := 45) dX2_canTake_45 rfl ?_
            refine e_getA (pc := 46) dX2_canTake_46 f_2_15 rfl rfl ?_
            refine e_iload_n (pc := 49) dX2_canTake_49 rfl ?_
            first | refine e_ialdN (pc := 50) dX2_canTake_50 rfl (by omega) (by decide) ?_ | refine e_iald (pc := 50) dX2_canTake_50 rfl (by assumption) ?_
            refine e_iconst (pc := 51) (v := 2) dX2_canTake_51 (by decide) ?_
            refine e_icmp_ne (pc := 52) (tgt := 79) dX2_canTake_52 (by decide) (fun hc_52 => ?_) (fun hc_52 => ?_)
            · refine e_iconst (pc := 79) (v := 0) dX2_canTake_79 (by decide) ?_
              refine r_zret (pc := 80) dX2_canTake_80 rfl (by first | exact Or.inl rfl | exact Or.inr rfl | exact bI_01 _ | assumption) ?_
              first | exact rt_t (by grind) | exact rt_f (by grind)
            · refine e_aload_n (pc := 55) dX2_canTake_55 rfl ?_
              refine e_getA (pc := 56) dX2_canTake_56 f_2_24 rfl rfl ?_
              refine e_iload_n (pc := 59) dX2_canTake_59 rfl ?_
              first | refine e_ialdN (pc := 60) dX2_canTake_60 rfl (by omega) (by decide) ?_ | refine e_iald (pc := 60) dX2_canTake_60 rfl (by assumption) ?_
              refine e_iconst (pc := 61) (v := 3) dX2_canTake_61 (by decide) ?_
              refine e_icmp_ne (pc := 62) (tgt := 79) dX2_canTake_62 (by decide) (fun hc_62 => ?_) (fun hc_62 => ?_)
              · refine e_iconst (pc := 79) (v := 0) dX2_canTake_79 (by decide) ?_
                refine r_zret (pc := 80) dX2_canTake_80 rfl (by first | exact Or.inl rfl | exact Or.inr rfl | exact bI_01 _ | assumption) ?_
                first | exact rt_t (by grind) | exact rt_f (by grind)
              · refine e_aload_n (pc := 65) dX2_canTake_65 rfl ?_
                refine e_getA (pc := 66) dX2_canTake_66 f_2_21 rfl rfl ?_
                refine e_iload_n (pc := 69) dX2_canTake_69 rfl ?_
                first | refine e_ialdN (pc := 70) dX2_canTake_70 rfl (by omega) (by decide) ?_ | refine e_iald (pc := 70) dX2_canTake_70 rfl (by assumption) ?_
                refine e_iconst (pc := 71) (v := 3) dX2_canTake_71 (by decide) ?_
                refine e_icmp_ge (pc := 72) (tgt := 79) dX2_canTake_72 (by decide) (fun hc_72 => ?_) (fun hc_72 => ?_)
                · refine e_iconst (pc := 79) (v := 0) dX2_canTake_79 (by decide) ?_
                  refine r_zret (pc := 80) dX2_canTake_80 rfl (by first | exact Or.inl rfl | exact Or.inr rfl | exact bI_01 _ | assumption) ?_
                  first | exact rt_t (by grind) | exact rt_f (by grind)
                · refine e_iconst (pc := 75) (v := 1) dX2_canTake_75 (by decide) ?_
                  refine e_goto (pc := 76) (tgt := 80) dX2_canTake_76 (by decide) ?_
                  refine r_zret (pc := 80) dX2_canTake_80 rfl (by first | exact Or.inl rfl | exact Or.inr rfl | exact bI_01 _ | assumption) ?_
                  first | exact rt_t (by grind) | exact rt_f (by grind)
        · refine e_iconst (pc := 39) (v := 1) dX2_canTake_39 (by decide) ?_
          refine r_zret (pc := 40) dX2_canTake_40 rfl (by first | exact Or.inl rfl | exact Or.inr rfl | exact bI_01 _ | assumption) ?_
          first | exact rt_t (by grind) | exact rt_f (by grind)
      · refine e_iconst (pc := 27) (v := 0) dX2_canTake_27 (by decide) ?_
        refine r_zret (pc := 28) dX2_canTake_28 rfl (by first | exact Or.inl rfl | exact Or.inr rfl | exact bI_01 _ | assumption) ?_
        first | exact rt_t (by grind) | exact rt_f (by grind)
set_option maxHeartbeats 1000000 in
theorem ev_X2_canTake0 (M : cr_M) (h s w : Int32) (hh : h < 0) : cr_EvM Y_X2_canTake [.inr (.inr 0), .inl h, .inl s, .inl w] M (some (.inl 0), M) := by
  refine e_iload_n (pc := 0) dX2_canTake_0 rfl ?_
  refine e_if_lt (pc := 1) (tgt := 27) dX2_canTake_1 (by decide) (fun hc_1 => ?_) (fun hc_1 => ?_)
  · refine e_iconst (pc := 27) (v := 0) dX2_canTake_27 (by decide) ?_
    refine r_zret (pc := 28) dX2_canTake_28 rfl (by first | exact Or.inl rfl | exact Or.inr rfl | exact bI_01 _ | assumption) ?_
    rfl
  · exact absurd hh (by assumption)
set_option maxHeartbeats 1000000 in
theorem lp_X2_someCanTake {hn : Nat} {M N : cr_M} {s : Nat} (w : Int32) (hR : r_H hn M N) (hs : s < 4) : ∀ (n j : Nat), j + n = hn → (∀ i, i < j → ¬ s_cT N i s w) → cr_Ev Y_X2_someCanTake 2 [(3, .inl (nI j)), (0, .inr (.inr 0)), (1, .inl (nI s)), (2, .inl w)] [] M (some (.inl (bI (∃ i, i < hn ∧ s_cT N i s w))), M) := by
  have h10 := hR.1
  have hsz := hR.2.1
  intro n
  induction n with
  | zero =>
    intro j hj hq
    refine e_iload_n (pc := 2) dX2_someCanTake_2 rfl ?_
    refine e_aload_n (pc := 3) dX2_someCanTake_3 rfl ?_
    refine e_getI (pc := 4) dX2_someCanTake_4 f_2_36 rfl rfl ?_
    refine e_icmp_ge (pc := 7) (tgt := 28) dX2_someCanTake_7 (by decide) (fun hc_7 => ?_) (fun hc_7 => ?_)
    · refine e_iconst (pc := 28) (v := 0) dX2_someCanTake_28 (by decide) ?_
      refine r_zret (pc := 29) dX2_someCanTake_29 rfl (by first | exact Or.inl rfl | exact Or.inr rfl | exact bI_01 _ | assumption) ?_
      exact rt_f (by rintro ⟨i, hi, hc⟩; exact hq i (by omega) hc)
    · exact absurd (show M 0 0 ≤ nI j by rw [hsz]; exact nI_le (by omega) (by omega)) (by assumption)
  | succ n ih =>
    intro j hj hq
    refine e_iload_n (pc := 2) dX2_someCanTake_2 rfl ?_
    refine e_aload_n (pc := 3) dX2_someCanTake_3 rfl ?_
    refine e_getI (pc := 4) dX2_someCanTake_4 f_2_36 rfl rfl ?_
    refine e_icmp_ge (pc := 7) (tgt := 28) dX2_someCanTake_7 (by decide) (fun hc_7 => ?_) (fun hc_7 => ?_)
    · exact absurd (show M 0 0 ≤ nI j by assumption) (by rw [hsz]; exact nI_ge (by omega) (by omega))
    · refine e_aload_n (pc := 10) dX2_someCanTake_10 rfl ?_
      refine e_iload_n (pc := 11) dX2_someCanTake_11 rfl ?_
      refine e_iload_n (pc := 12) dX2_someCanTake_12 rfl ?_
      refine e_iload_n (pc := 13) dX2_someCanTake_13 rfl ?_
      refine e_self3i (pc := 14) dX2_someCanTake_14 cs_X2_someCanTake_46 cv_X2_canTake rc_X2_canTake rfl (by decide) (Nat.le_of_ble_eq_true rfl) (ev_X2_canTake w hR (by omega) hs) ?_
      refine e_if_eq (pc := 17) (tgt := 22) dX2_someCanTake_17 (by decide) (fun hc_17 => ?_) (fun hc_17 => ?_)
      · first | refine e_iinc1 (pc := 22) dX2_someCanTake_22 rfl (by decide) ?_ | refine e_iincp (pc := 22) dX2_someCanTake_22 rfl (by decide) ?_
        refine e_goto (pc := 25) (tgt := 2) dX2_someCanTake_25 (by decide) ?_
        exact e_wk (ih (j + 1) (by omega) (fun i hi => by grind [bI_eq0])) ⟨rfl, rfl, rfl, rfl, trivial⟩
      · refine e_iconst (pc := 20) (v := 1) dX2_someCanTake_20 (by decide) ?_
        refine r_zret (pc := 21) dX2_someCanTake_21 rfl (by first | exact Or.inl rfl | exact Or.inr rfl | exact bI_01 _ | assumption) ?_
        exact rt_t ⟨j, by omega, by grind [bI_eq0]⟩
set_option maxHeartbeats 1000000 in
theorem ev_X2_someCanTake {hn : Nat} {M N : cr_M} {s : Nat} (w : Int32) (hR : r_H hn M N) (hs : s < 4) : cr_EvM Y_X2_someCanTake [.inr (.inr 0), .inl (nI s), .inl w] M (some (.inl (bI (∃ i, i < hn ∧ s_cT N i s w))), M) := by
  refine e_iconst (pc := 0) (v := 0) dX2_someCanTake_0 (by decide) ?_
  refine e_istore_n (pc := 1) dX2_someCanTake_1 (by decide) ?_
  exact e_wk (lp_X2_someCanTake w hR hs hn 0 (by omega) (fun i hi => absurd hi (Nat.not_lt_zero _))) ⟨rfl, rfl, rfl, rfl, trivial⟩
set_option maxHeartbeats 1000000 in
theorem lp_X2_someInHasGrade {hn : Nat} {M N : cr_M} {s : Nat} (hR : r_H hn M N) (hs : s < 4) : ∀ (n j : Nat), j + n = hn → (∀ i, i < j → ¬ (¬ N 5 i = 0 ∧ 0 < N 4 (4 * i + s))) → cr_Ev Y_X2_someInHasGrade 2 [(2, .inl (nI j)), (0, .inr (.inr 0)), (1, .inl (nI s))] [] M (some (.inl (bI (∃ i, i < hn ∧ ¬ N 5 i = 0 ∧ 0 < N 4 (4 * i + s)))), M) := by
  have h10 := hR.1
  have hsz := hR.2.1
  intro n
  induction n with
  | zero =>
    intro j hj hq
    refine e_iload_n (pc := 2) dX2_someInHasGrade_2 rfl ?_
    refine e_aload_n (pc := 3) dX2_someInHasGrade_3 rfl ?_
    refine e_getI (pc := 4) dX2_someInHasGrade_4 f_2_36 rfl rfl ?_
    refine e_icmp_ge (pc := 7) (tgt := 36) dX2_someInHasGrade_7 (by decide) (fun hc_7 => ?_) (fun hc_7 => ?_)
    · refine e_iconst (pc := 36) (v := 0) dX2_someInHasGrade_36 (by decide) ?_
      refine r_zret (pc := 37) dX2_someInHasGrade_37 rfl (by first | exact Or.inl rfl | exact Or.inr rfl | exact bI_01 _ | assumption) ?_
      exact rt_f (by rintro ⟨i, hi, hc⟩; exact hq i (by omega) hc)
    · exact absurd (show M 0 0 ≤ nI j by rw [hsz]; exact nI_le (by omega) (by omega)) (by assumption)
  | succ n ih =>
    intro j hj hq
    refine e_iload_n (pc := 2) dX2_someInHasGrade_2 rfl ?_
    refine e_aload_n (pc := 3) dX2_someInHasGrade_3 rfl ?_
    refine e_getI (pc := 4) dX2_someInHasGrade_4 f_2_36 rfl rfl ?_
    refine e_icmp_ge (pc := 7) (tgt := 36) dX2_someInHasGrade_7 (by decide) (fun hc_7 => ?_) (fun hc_7 => ?_)
    · exact absurd (show M 0 0 ≤ nI j by assumption) (by rw [hsz]; exact nI_ge (by omega) (by omega))
    · refine e_aload_n (pc := 10) dX2_someInHasGrade_10 rfl ?_
      refine e_getA (pc := 11) dX2_someInHasGrade_11 f_2_15 rfl rfl ?_
      refine e_iload_n (pc := 14) dX2_someInHasGrade_14 rfl ?_
      first | refine e_ialdN (pc := 15) dX2_someInHasGrade_15 rfl (by omega) (by decide) ?_ | refine e_iald (pc := 15) dX2_someInHasGrade_15 rfl (by assumption) ?_
      refine e_if_eq (pc := 16) (tgt := 30) dX2_someInHasGrade_16 (by decide) (fun hc_16 => ?_) (fun hc_16 => ?_)
      · first | refine e_iinc1 (pc := 30) dX2_someInHasGrade_30 rfl (by decide) ?_ | refine e_iincp (pc := 30) dX2_someInHasGrade_30 rfl (by decide) ?_
        refine e_goto (pc := 33) (tgt := 2) dX2_someInHasGrade_33 (by decide) ?_
        exact e_wk (ih (j + 1) (by omega) (fun i hi => by have q := (hR.2.2 j (by omega)).2.1; grind)) ⟨rfl, rfl, rfl, trivial⟩
      · refine e_aload_n (pc := 19) dX2_someInHasGrade_19 rfl ?_
        refine e_iload_n (pc := 20) dX2_someInHasGrade_20 rfl ?_
        refine e_iload_n (pc := 21) dX2_someInHasGrade_21 rfl ?_
        refine e_self2i (pc := 22) dX2_someInHasGrade_22 cs_X2_someInHasGrade_50 cv_X2_gradeFor rc_X2_gradeFor rfl (by decide) (Nat.le_of_ble_eq_true rfl) (ev_X2_gradeForN hR (by omega) hs) ?_
        refine e_if_le (pc := 25) (tgt := 30) dX2_someInHasGrade_25 (by decide) (fun hc_25 => ?_) (fun hc_25 => ?_)
        · first | refine e_iinc1 (pc := 30) dX2_someInHasGrade_30 rfl (by decide) ?_ | refine e_iincp (pc := 30) dX2_someInHasGrade_30 rfl (by decide) ?_
          refine e_goto (pc := 33) (tgt := 2) dX2_someInHasGrade_33 (by decide) ?_
          exact e_wk (ih (j + 1) (by omega) (fun i hi => by have q := (hR.2.2 j (by omega)).2.1; grind)) ⟨rfl, rfl, rfl, trivial⟩
        · refine e_iconst (pc := 28) (v := 1) dX2_someInHasGrade_28 (by decide) ?_
          refine r_zret (pc := 29) dX2_someInHasGrade_29 rfl (by first | exact Or.inl rfl | exact Or.inr rfl | exact bI_01 _ | assumption) ?_
          exact rt_t ⟨j, by omega, by have q := (hR.2.2 j (by omega)).2.1; grind⟩
set_option maxHeartbeats 1000000 in
theorem ev_X2_someInHasGrade {hn : Nat} {M N : cr_M} {s : Nat} (hR : r_H hn M N) (hs : s < 4) : cr_EvM Y_X2_someInHasGrade [.inr (.inr 0), .inl (nI s)] M (some (.inl (bI (∃ i, i < hn ∧ ¬ N 5 i = 0 ∧ 0 < N 4 (4 * i + s)))), M) := by
  refine e_iconst (pc := 0) (v := 0) dX2_someInHasGrade_0 (by decide) ?_
  refine e_istore_n (pc := 1) dX2_someInHasGrade_1 (by decide) ?_
  exact e_wk (lp_X2_someInHasGrade hR hs hn 0 (by omega) (fun i hi => absurd hi (Nat.not_lt_zero _))) ⟨rfl, rfl, rfl, trivial⟩
set_option maxHeartbeats 1000000 in
theorem ev_X2_isBetter {hn : Nat} {M N : cr_M} {h p s : Nat} (hR : r_H hn M N) (hh : h < hn) (hp : p < hn) (hs : s < 4) : cr_EvM Y_X2_isBetter [.inr (.inr 0), .inl (nI h), .inl (nI p), .inl (nI s)] M (some (.inl (bI (s_ah N s h p))), M) := by
  have h10 := hR.1
  obtain ⟨⟨g, hg, -, a2⟩, a3, a4, -⟩ := hR.2.2 h hh
  obtain ⟨⟨g', hg', -, b2⟩, b3, b4, -⟩ := hR.2.2 p hp
  have q1 := g_sub4 (g / 4 ^ s % 4) (Nat.mod_lt _ (by omega)) (g' / 4 ^ s % 4) (Nat.mod_lt _ (by omega))
  rw [← a2 s hs, ← b2 s hs] at q1
  have q2 := g_sub5 (g_cnt g) (g_cnt5 g hg) (g_cnt g') (g_cnt5 g' hg')
  rw [← s_so_g hg a2, ← s_so_g hg' b2] at q2
  unfold s_ah
  refine e_aload_n (pc := 0) dX2_isBetter_0 rfl ?_
  refine e_iload_n (pc := 1) dX2_isBetter_1 rfl ?_
  refine e_iload_n (pc := 2) dX2_isBetter_2 rfl ?_
  refine e_self2i (pc := 3) dX2_isBetter_3 cs_X2_isBetter_50 cv_X2_gradeFor rc_X2_gradeFor rfl (by decide) (Nat.le_of_ble_eq_true rfl) (ev_X2_gradeForN hR (by assumption) hs) ?_
  refine e_aload_n (pc := 6) dX2_isBetter_6 rfl ?_
  refine e_iload_n (pc := 7) dX2_isBetter_7 rfl ?_
  refine e_iload_n (pc := 8) dX2_isBetter_8 rfl ?_
  refine e_self2i (pc := 9) dX2_isBetter_9 cs_X2_isBetter_50 cv_X2_gradeFor rc_X2_gradeFor rfl (by decide) (Nat.le_of_ble_eq_true rfl) (ev_X2_gradeForN hR (by assumption) hs) ?_
  refine e_isub (pc := 12) dX2_isBetter_12 ?_
  refine e_istore (pc := 13) dX2_isBetter_13 (by decide) ?_
  refine e_iload (pc := 15) dX2_isBetter_15 rfl ?_
  refine e_if_eq (pc := 17) (tgt := 31) dX2_isBetter_17 (by decide) (fun hc_17 => ?_) (fun hc_17 => ?_)
  · refine e_aload_n (pc := 31) dX2_isBetter_31 rfl ?_
    refine e_iload_n (pc := 32) dX2_isBetter_32 rfl ?_
    refine e_self1i (pc := 33) dX2_isBetter_33 cs_X2_isBetter_54 cv_X2_sortsOf rc_X2_sortsOf rfl (by decide) (Nat.le_of_ble_eq_true rfl) (ev_X2_sortsOf hR (by assumption)) ?_
    refine e_aload_n (pc := 36) dX2_isBetter_36 rfl ?_
    refine e_iload_n (pc := 37) dX2_isBetter_37 rfl ?_
    refine e_self1i (pc := 38) dX2_isBetter_38 cs_X2_isBetter_54 cv_X2_sortsOf rc_X2_sortsOf rfl (by decide) (Nat.le_of_ble_eq_true rfl) (ev_X2_sortsOf hR (by assumption)) ?_
    refine e_isub (pc := 41) dX2_isBetter_41 ?_
    refine e_istore (pc := 42) dX2_isBetter_42 (by decide) ?_
    refine e_iload (pc := 44) dX2_isBetter_44 rfl ?_
    refine e_if_eq (pc := 46) (tgt := 60) dX2_isBetter_46 (by decide) (fun hc_46 => ?_) (fun hc_46 => ?_)
    · refine e_aload_n (pc := 60) dX2_isBetter_60 rfl ?_
      refine e_getA (pc := 61) dX2_isBetter_61 f_2_15 rfl rfl ?_
      refine e_iload_n (pc := 64) dX2_isBetter_64 rfl ?_
      first | refine e_ialdN (pc := 65) dX2_isBetter_65 rfl (by omega) (by decide) ?_ | refine e_iald (pc := 65) dX2_isBetter_65 rfl (by assumption) ?_
      refine e_aload_n (pc := 66) dX2_isBetter_66 rfl ?_
      refine e_getA (pc := 67) dX2_isBetter_67 f_2_15 rfl rfl ?_
      refine e_iload_n (pc := 70) dX2_isBetter_70 rfl ?_
      first | refine e_ialdN (pc := 71) dX2_isBetter_71 rfl (by omega) (by decide) ?_ | refine e_iald (pc := 71) dX2_isBetter_71 rfl (by assumption) ?_
      refine e_icmp_eq (pc := 72) (tgt := 91) dX2_isBetter_72 (by decide) (fun hc_72 => ?_) (fun hc_72 => ?_)
      · refine e_aload_n (pc := 91) dX2_isBetter_91 rfl ?_
        refine e_getA (pc := 92) dX2_isBetter_92 f_2_18 rfl rfl ?_
        refine e_iload_n (pc := 95) dX2_isBetter_95 rfl ?_
        first | refine e_ialdN (pc := 96) dX2_isBetter_96 rfl (by omega) (by decide) ?_ | refine e_iald (pc := 96) dX2_isBetter_96 rfl (by assumption) ?_
        refine e_aload_n (pc := 97) dX2_isBetter_97 rfl ?_
        refine e_getA (pc := 98) dX2_isBetter_98 f_2_18 rfl rfl ?_
        refine e_iload_n (pc := 101) dX2_isBetter_101 rfl ?_
        first | refine e_ialdN (pc := 102) dX2_isBetter_102 rfl (by omega) (by decide) ?_ | refine e_iald (pc := 102) dX2_isBetter_102 rfl (by assumption) ?_
        refine e_icmp_ge (pc := 103) (tgt := 110) dX2_isBetter_103 (by decide) (fun hc_103 => ?_) (fun hc_103 => ?_)
        · refine e_iconst (pc := 110) (v := 0) dX2_isBetter_110 (by decide) ?_
          refine r_zret (pc := 111) dX2_isBetter_111 rfl (by first | exact Or.inl rfl | exact Or.inr rfl | exact bI_01 _ | assumption) ?_
          first | exact rt_t (by grind) | exact rt_f (by grind)
        · refine e_iconst (pc := 106) (v := 1) dX2_isBetter_106 (by decide) ?_
          refine e_goto (pc := 107) (tgt := 111) dX2_isBetter_107 (by decide) ?_
          refine r_zret (pc := 111) dX2_isBetter_111 rfl (by first | exact Or.inl rfl | exact Or.inr rfl | exact bI_01 _ | assumption) ?_
          first | exact rt_t (by grind) | exact rt_f (by grind)
      · refine e_aload_n (pc := 75) dX2_isBetter_75 rfl ?_
        refine e_getA (pc := 76) dX2_isBetter_76 f_2_15 rfl rfl ?_
        refine e_iload_n (pc := 79) dX2_isBetter_79 rfl ?_
        first | refine e_ialdN (pc := 80) dX2_isBetter_80 rfl (by omega) (by decide) ?_ | refine e_iald (pc := 80) dX2_isBetter_80 rfl (by assumption) ?_
        refine e_iconst (pc := 81) (v := 1) dX2_isBetter_81 (by decide) ?_
        refine e_icmp_ne (pc := 82) (tgt := 89) dX2_isBetter_82 (by decide) (fun hc_82 => ?_) (fun hc_82 => ?_)
        · refine e_iconst (pc := 89) (v := 0) dX2_isBetter_89 (by decide) ?_
          refine r_zret (pc := 90) dX2_isBetter_90 rfl (by first | exact Or.inl rfl | exact Or.inr rfl | exact bI_01 _ | assumption) ?_
          first | exact rt_t (by grind) | exact rt_f (by grind)
        · refine e_iconst (pc := 85) (v := 1) dX2_isBetter_85 (by decide) ?_
          refine e_goto (pc := 86) (tgt := 90) dX2_isBetter_86 (by decide) ?_
          refine r_zret (pc := 90) dX2_isBetter_90 rfl (by first | exact Or.inl rfl | exact Or.inr rfl | exact bI_01 _ | assumption) ?_
          first | exact rt_t (by grind) | exact rt_f (by grind)
    · refine e_iload (pc := 49) dX2_isBetter_49 rfl ?_
      refine e_if_ge (pc := 51) (tgt := 58) dX2_isBetter_51 (by decide) (fun hc_51 => ?_) (fun hc_51 => ?_)
      · refine e_iconst (pc := 58) (v := 0) dX2_isBetter_58 (by decide) ?_
        refine r_zret (pc := 59) dX2_isBetter_59 rfl (by first | exact Or.inl rfl | exact Or.inr rfl | exact bI_01 _ | assumption) ?_
        first | exact rt_t (by grind) | exact rt_f (by grind)
      · refine e_iconst (pc := 54) (v := 1) dX2_isBetter_54 (by decide) ?_
        refine e_goto (pc := 55) (tgt := 59) dX2_isBetter_55 (by decide) ?_
        refine r_zret (pc := 59) dX2_isBetter_59 rfl (by first | exact Or.inl rfl | exact Or.inr rfl | exact bI_01 _ | assumption) ?_
        first | exact rt_t (by grind) | exact rt_f (by grind)
  · refine e_iload (pc := 20) dX2_isBetter_20 rfl ?_
    refine e_if_le (pc := 22) (tgt := 29) dX2_isBetter_22 (by decide) (fun hc_22 => ?_) (fun hc_22 => ?_)
    · refine e_iconst (pc := 29) (v := 0) dX2_isBetter_29 (by decide) ?_
      refine r_zret (pc := 30) dX2_isBetter_30 rfl (by first | exact Or.inl rfl | exact Or.inr rfl | exact bI_01 _ | assumption) ?_
      first | exact rt_t (by grind) | exact rt_f (by grind)
    · refine e_iconst (pc := 25) (v := 1) dX2_isBetter_25 (by decide) ?_
      refine e_goto (pc := 26) (tgt := 30) dX2_isBetter_26 (by decide) ?_
      refine r_zret (pc := 30) dX2_isBetter_30 rfl (by first | exact Or.inl rfl | exact Or.inr rfl | exact bI_01 _ | assumption) ?_
      first | exact rt_t (by grind) | exact rt_f (by grind)
set_option maxHeartbeats 1000000 in
theorem ev_X2_take (M : cr_M) {k : Nat} (w t : Int32) (hk : k < 10) : cr_EvM Y_X2_take [.inr (.inr 0), .inl (nI k), .inl w, .inl t] M (none, h_take M k w t) := by
  refine e_aload_n (pc := 0) dX2_take_0 rfl ?_
  refine e_getA (pc := 1) dX2_take_1 f_2_21 rfl rfl ?_
  refine e_iload_n (pc := 4) dX2_take_4 rfl ?_
  refine e_dup2 (pc := 5) dX2_take_5 ?_
  first | refine e_ialdN (pc := 6) dX2_take_6 rfl (by omega) (by decide) ?_ | refine e_iald (pc := 6) dX2_take_6 rfl (by assumption) ?_
  refine e_iconst (pc := 7) (v := 1) dX2_take_7 (by decide) ?_
  refine e_iadd (pc := 8) dX2_take_8 ?_
  first | refine e_iastN (pc := 9) dX2_take_9 rfl (by omega) (by decide) ?_ | refine e_iast (pc := 9) dX2_take_9 rfl (by assumption) ?_
  refine e_aload_n (pc := 10) dX2_take_10 rfl ?_
  refine e_getA (pc := 11) dX2_take_11 f_2_24 rfl rfl ?_
  refine e_iload_n (pc := 14) dX2_take_14 rfl ?_
  refine e_iload_n (pc := 15) dX2_take_15 rfl ?_
  first | refine e_iastN (pc := 16) dX2_take_16 rfl (by omega) (by decide) ?_ | refine e_iast (pc := 16) dX2_take_16 rfl (by assumption) ?_
  refine e_aload_n (pc := 17) dX2_take_17 rfl ?_
  refine e_iload_n (pc := 18) dX2_take_18 rfl ?_
  refine e_iconst (pc := 19) (v := 2) dX2_take_19 (by decide) ?_
  refine e_iload_n (pc := 20) dX2_take_20 rfl ?_
  refine e_self3v (pc := 21) dX2_take_21 cs_X2_take_57 cv_X2_become rc_X2_become rfl (by decide) (Nat.le_of_ble_eq_true rfl) (ev_X2_become _ _ _ hk) ?_
  refine r_vret (pc := 24) dX2_take_24 rfl ?_
  rfl
set_option maxHeartbeats 1000000 in
theorem ev_X2_letGo (M : cr_M) {hn k : Nat} (t : Int32) (hsz : M 0 0 = nI hn) (h10 : hn ≤ 10) (hk : k < hn) : cr_EvM Y_X2_letGo [.inr (.inr 0), .inl (nI k), .inl t] M (none, h_let M k t) := by
  refine e_aload_n (pc := 0) dX2_letGo_0 rfl ?_
  refine e_iload_n (pc := 1) dX2_letGo_1 rfl ?_
  refine e_self1i (pc := 2) dX2_letGo_2 cs_X2_letGo_61 cv_X2_has rc_X2_has rfl (by decide) (Nat.le_of_ble_eq_true rfl) (ev_X2_has _ _) ?_
  refine e_if_ne (pc := 5) (tgt := 9) dX2_letGo_5 (by decide) (fun hc_5 => ?_) (fun hc_5 => ?_)
  · refine e_aload_n (pc := 9) dX2_letGo_9 rfl ?_
    refine e_getA (pc := 10) dX2_letGo_10 f_2_21 rfl rfl ?_
    refine e_iload_n (pc := 13) dX2_letGo_13 rfl ?_
    refine e_dup2 (pc := 14) dX2_letGo_14 ?_
    first | refine e_ialdN (pc := 15) dX2_letGo_15 rfl (by omega) (by decide) ?_ | refine e_iald (pc := 15) dX2_letGo_15 rfl (by assumption) ?_
    refine e_iconst (pc := 16) (v := 1) dX2_letGo_16 (by decide) ?_
    refine e_isub (pc := 17) dX2_letGo_17 ?_
    first | refine e_iastN (pc := 18) dX2_letGo_18 rfl (by omega) (by decide) ?_ | refine e_iast (pc := 18) dX2_letGo_18 rfl (by assumption) ?_
    refine e_aload_n (pc := 19) dX2_letGo_19 rfl ?_
    refine e_iload_n (pc := 20) dX2_letGo_20 rfl ?_
    refine e_aload_n (pc := 21) dX2_letGo_21 rfl ?_
    refine e_getA (pc := 22) dX2_letGo_22 f_2_21 rfl rfl ?_
    refine e_iload_n (pc := 25) dX2_letGo_25 rfl ?_
    first | refine e_ialdN (pc := 26) dX2_letGo_26 rfl (by omega) (by decide) ?_ | refine e_iald (pc := 26) dX2_letGo_26 rfl (by assumption) ?_
    refine e_if_le (pc := 27) (tgt := 34) dX2_letGo_27 (by decide) (fun hc_27 => ?_) (fun hc_27 => ?_)
    · refine e_iconst (pc := 34) (v := 1) dX2_letGo_34 (by decide) ?_
      refine e_iload_n (pc := 35) dX2_letGo_35 rfl ?_
      refine e_self3v (pc := 36) dX2_letGo_36 cs_X2_letGo_57 cv_X2_become rc_X2_become rfl (by decide) (Nat.le_of_ble_eq_true rfl) (ev_X2_become _ _ _ (by omega)) ?_
      refine r_vret (pc := 39) dX2_letGo_39 rfl ?_
      unfold h_let
      first | (rw [if_pos (by grind [cr_rd])]; done) | rw [if_neg (by grind [cr_rd])]
    · refine e_iconst (pc := 30) (v := 2) dX2_letGo_30 (by decide) ?_
      refine e_goto (pc := 31) (tgt := 35) dX2_letGo_31 (by decide) ?_
      refine e_iload_n (pc := 35) dX2_letGo_35 rfl ?_
      refine e_self3v (pc := 36) dX2_letGo_36 cs_X2_letGo_57 cv_X2_become rc_X2_become rfl (by decide) (Nat.le_of_ble_eq_true rfl) (ev_X2_become _ _ _ (by omega)) ?_
      refine r_vret (pc := 39) dX2_letGo_39 rfl ?_
      unfold h_let
      first | (rw [if_pos (by grind [cr_rd])]; done) | rw [if_neg (by grind [cr_rd])]
  · refine r_vret (pc := 8) dX2_letGo_8 rfl ?_
    have q := cr_ix_in hk (by omega)
    grind [bI_eq0]
set_option maxHeartbeats 1000000 in
theorem lp_X2_addBusyTicks {hn : Nat} {M : cr_M} {x : Int32} (hsz : M 0 0 = nI hn) (h10 : hn ≤ 10) : ∀ (n j : Nat) (Mc : cr_M), j + n = hn → (Mc = h_busy j x M) → cr_Ev Y_X2_addBusyTicks 2 [(2, .inl (nI j)), (0, .inr (.inr 0)), (1, .inl x)] [] Mc (none, h_busy hn x M) := by
  intro n
  induction n with
  | zero =>
    intro j Mc hj hM
    subst hM
    refine e_iload_n (pc := 2) dX2_addBusyTicks_2 rfl ?_
    refine e_aload_n (pc := 3) dX2_addBusyTicks_3 rfl ?_
    refine e_getI (pc := 4) dX2_addBusyTicks_4 f_2_36 rfl rfl ?_
    refine e_icmp_ge (pc := 7) (tgt := 36) dX2_addBusyTicks_7 (by decide) (fun hc_7 => ?_) (fun hc_7 => ?_)
    · refine r_vret (pc := 36) dX2_addBusyTicks_36 rfl ?_
      rw [show j = hn by omega]
    · exact absurd (show M 0 0 ≤ nI j by rw [hsz]; exact nI_le (by omega) (by omega)) (by assumption)
  | succ n ih =>
    intro j Mc hj hM
    subst hM
    refine e_iload_n (pc := 2) dX2_addBusyTicks_2 rfl ?_
    refine e_aload_n (pc := 3) dX2_addBusyTicks_3 rfl ?_
    refine e_getI (pc := 4) dX2_addBusyTicks_4 f_2_36 rfl rfl ?_
    refine e_icmp_ge (pc := 7) (tgt := 36) dX2_addBusyTicks_7 (by decide) (fun hc_7 => ?_) (fun hc_7 => ?_)
    · exact absurd (show M 0 0 ≤ nI j by assumption) (by rw [hsz]; exact nI_ge (by omega) (by omega))
    · refine e_aload_n (pc := 10) dX2_addBusyTicks_10 rfl ?_
      refine e_getA (pc := 11) dX2_addBusyTicks_11 f_2_15 rfl rfl ?_
      refine e_iload_n (pc := 14) dX2_addBusyTicks_14 rfl ?_
      first | refine e_ialdN (pc := 15) dX2_addBusyTicks_15 rfl (by omega) (by decide) ?_ | refine e_iald (pc := 15) dX2_addBusyTicks_15 rfl (by assumption) ?_
      refine e_iconst (pc := 16) (v := 2) dX2_addBusyTicks_16 (by decide) ?_
      refine e_icmp_ne (pc := 17) (tgt := 30) dX2_addBusyTicks_17 (by decide) (fun hc_17 => ?_) (fun hc_17 => ?_)
      · first | refine e_iinc1 (pc := 30) dX2_addBusyTicks_30 rfl (by decide) ?_ | refine e_iincp (pc := 30) dX2_addBusyTicks_30 rfl (by decide) ?_
        refine e_goto (pc := 33) (tgt := 2) dX2_addBusyTicks_33 (by decide) ?_
        exact e_wk (ih (j + 1) _ (by omega) (by funext q i; simp only [cr_rd, h_busy] at *; grind)) ⟨rfl, rfl, rfl, trivial⟩
      · refine e_aload_n (pc := 20) dX2_addBusyTicks_20 rfl ?_
        refine e_getA (pc := 21) dX2_addBusyTicks_21 f_2_30 rfl rfl ?_
        refine e_iload_n (pc := 24) dX2_addBusyTicks_24 rfl ?_
        refine e_dup2 (pc := 25) dX2_addBusyTicks_25 ?_
        first | refine e_ialdN (pc := 26) dX2_addBusyTicks_26 rfl (by omega) (by decide) ?_ | refine e_iald (pc := 26) dX2_addBusyTicks_26 rfl (by assumption) ?_
        refine e_iload_n (pc := 27) dX2_addBusyTicks_27 rfl ?_
        refine e_iadd (pc := 28) dX2_addBusyTicks_28 ?_
        first | refine e_iastN (pc := 29) dX2_addBusyTicks_29 rfl (by omega) (by decide) ?_ | refine e_iast (pc := 29) dX2_addBusyTicks_29 rfl (by assumption) ?_
        first | refine e_iinc1 (pc := 30) dX2_addBusyTicks_30 rfl (by decide) ?_ | refine e_iincp (pc := 30) dX2_addBusyTicks_30 rfl (by decide) ?_
        refine e_goto (pc := 33) (tgt := 2) dX2_addBusyTicks_33 (by decide) ?_
        exact e_wk (ih (j + 1) _ (by omega) (by funext q i; simp only [cr_rd, h_busy] at *; grind)) ⟨rfl, rfl, rfl, trivial⟩
set_option maxHeartbeats 1000000 in
theorem ev_X2_addBusyTicks {hn : Nat} {M : cr_M} (x : Int32) (hsz : M 0 0 = nI hn) (h10 : hn ≤ 10) : cr_EvM Y_X2_addBusyTicks [.inr (.inr 0), .inl x] M (none, h_busy hn x M) := by
  refine e_iconst (pc := 0) (v := 0) dX2_addBusyTicks_0 (by decide) ?_
  refine e_istore_n (pc := 1) dX2_addBusyTicks_1 (by decide) ?_
  exact e_wk (lp_X2_addBusyTicks hsz h10 hn 0 M (by omega) (by funext q i; simp [h_busy])) ⟨rfl, rfl, rfl, trivial⟩
set_option maxHeartbeats 1000000 in
theorem lp_X2_endBreaks {hn : Nat} {M : cr_M} {x : Int32} (hsz : M 0 0 = nI hn) (h10 : hn ≤ 10) : ∀ (n j : Nat) (Mc : cr_M), j + n = hn → (Mc = h_brk j x M) → cr_Ev Y_X2_endBreaks 2 [(2, .inl (nI j)), (0, .inr (.inr 0)), (1, .inl x)] [] Mc (none, h_brk hn x M) := by
  intro n
  induction n with
  | zero =>
    intro j Mc hj hM
    subst hM
    refine e_iload_n (pc := 2) dX2_endBreaks_2 rfl ?_
    refine e_aload_n (pc := 3) dX2_endBreaks_3 rfl ?_
    refine e_getI (pc := 4) dX2_endBreaks_4 f_2_36 rfl rfl ?_
    refine e_icmp_ge (pc := 7) (tgt := 43) dX2_endBreaks_7 (by decide) (fun hc_7 => ?_) (fun hc_7 => ?_)
    · refine r_vret (pc := 43) dX2_endBreaks_43 rfl ?_
      rw [show j = hn by omega]
    · exact absurd (show M 0 0 ≤ nI j by rw [hsz]; exact nI_le (by omega) (by omega)) (by assumption)
  | succ n ih =>
    intro j Mc hj hM
    subst hM
    refine e_iload_n (pc := 2) dX2_endBreaks_2 rfl ?_
    refine e_aload_n (pc := 3) dX2_endBreaks_3 rfl ?_
    refine e_getI (pc := 4) dX2_endBreaks_4 f_2_36 rfl rfl ?_
    refine e_icmp_ge (pc := 7) (tgt := 43) dX2_endBreaks_7 (by decide) (fun hc_7 => ?_) (fun hc_7 => ?_)
    · exact absurd (show M 0 0 ≤ nI j by assumption) (by rw [hsz]; exact nI_ge (by omega) (by omega))
    · refine e_aload_n (pc := 10) dX2_endBreaks_10 rfl ?_
      refine e_getA (pc := 11) dX2_endBreaks_11 f_2_15 rfl rfl ?_
      refine e_iload_n (pc := 14) dX2_endBreaks_14 rfl ?_
      first | refine e_ialdN (pc := 15) dX2_endBreaks_15 rfl (by omega) (by decide) ?_ | refine e_iald (pc := 15) dX2_endBreaks_15 rfl (by assumption) ?_
      refine e_iconst (pc := 16) (v := 3) dX2_endBreaks_16 (by decide) ?_
      refine e_icmp_ne (pc := 17) (tgt := 37) dX2_endBreaks_17 (by decide) (fun hc_17 => ?_) (fun hc_17 => ?_)
      · first | refine e_iinc1 (pc := 37) dX2_endBreaks_37 rfl (by decide) ?_ | refine e_iincp (pc := 37) dX2_endBreaks_37 rfl (by decide) ?_
        refine e_goto (pc := 40) (tgt := 2) dX2_endBreaks_40 (by decide) ?_
        exact e_wk (ih (j + 1) _ (by omega) (by funext q i; simp only [cr_rd, h_brk] at *; grind)) ⟨rfl, rfl, rfl, trivial⟩
      · refine e_aload_n (pc := 20) dX2_endBreaks_20 rfl ?_
        refine e_getA (pc := 21) dX2_endBreaks_21 f_2_33 rfl rfl ?_
        refine e_iload_n (pc := 24) dX2_endBreaks_24 rfl ?_
        first | refine e_ialdN (pc := 25) dX2_endBreaks_25 rfl (by omega) (by decide) ?_ | refine e_iald (pc := 25) dX2_endBreaks_25 rfl (by assumption) ?_
        refine e_iload_n (pc := 26) dX2_endBreaks_26 rfl ?_
        refine e_icmp_gt (pc := 27) (tgt := 37) dX2_endBreaks_27 (by decide) (fun hc_27 => ?_) (fun hc_27 => ?_)
        · first | refine e_iinc1 (pc := 37) dX2_endBreaks_37 rfl (by decide) ?_ | refine e_iincp (pc := 37) dX2_endBreaks_37 rfl (by decide) ?_
          refine e_goto (pc := 40) (tgt := 2) dX2_endBreaks_40 (by decide) ?_
          exact e_wk (ih (j + 1) _ (by omega) (by funext q i; simp only [cr_rd, h_brk] at *; grind)) ⟨rfl, rfl, rfl, trivial⟩
        · refine e_aload_n (pc := 30) dX2_endBreaks_30 rfl ?_
          refine e_iload_n (pc := 31) dX2_endBreaks_31 rfl ?_
          refine e_iconst (pc := 32) (v := 1) dX2_endBreaks_32 (by decide) ?_
          refine e_iload_n (pc := 33) dX2_endBreaks_33 rfl ?_
          refine e_self3v (pc := 34) dX2_endBreaks_34 cs_X2_endBreaks_57 cv_X2_become rc_X2_become rfl (by decide) (Nat.le_of_ble_eq_true rfl) (ev_X2_become _ _ _ (by omega)) ?_
          first | refine e_iinc1 (pc := 37) dX2_endBreaks_37 rfl (by decide) ?_ | refine e_iincp (pc := 37) dX2_endBreaks_37 rfl (by decide) ?_
          refine e_goto (pc := 40) (tgt := 2) dX2_endBreaks_40 (by decide) ?_
          exact e_wk (ih (j + 1) _ (by omega) (by funext q i; simp only [cr_rd, h_brk] at *; grind)) ⟨rfl, rfl, rfl, trivial⟩
set_option maxHeartbeats 1000000 in
theorem ev_X2_endBreaks {hn : Nat} {M : cr_M} (x : Int32) (hsz : M 0 0 = nI hn) (h10 : hn ≤ 10) : cr_EvM Y_X2_endBreaks [.inr (.inr 0), .inl x] M (none, h_brk hn x M) := by
  refine e_iconst (pc := 0) (v := 0) dX2_endBreaks_0 (by decide) ?_
  refine e_istore_n (pc := 1) dX2_endBreaks_1 (by decide) ?_
  exact e_wk (lp_X2_endBreaks hsz h10 hn 0 M (by omega) (by funext q i; simp [h_brk])) ⟨rfl, rfl, rfl, trivial⟩
set_option maxHeartbeats 1000000 in
theorem lp_X2_nextBreakOver {hn : Nat} {M : cr_M} (hsz : M 0 0 = nI hn) (h10 : hn ≤ 10) : ∀ (n j : Nat) (x : Int32), j + n = hn → (x = h_nb M j) → cr_Ev Y_X2_nextBreakOver 5 [(2, .inl (nI j)), (0, .inr (.inr 0)), (1, .inl x)] [] M (some (.inl (h_nb M hn)), M) := by
  intro n
  induction n with
  | zero =>
    intro j x hj hx
    refine e_iload_n (pc := 5) dX2_nextBreakOver_5 rfl ?_
    refine e_aload_n (pc := 6) dX2_nextBreakOver_6 rfl ?_
    refine e_getI (pc := 7) dX2_nextBreakOver_7 f_2_36 rfl rfl ?_
    refine e_icmp_ge (pc := 10) (tgt := 40) dX2_nextBreakOver_10 (by decide) (fun hc_10 => ?_) (fun hc_10 => ?_)
    · refine e_iload_n (pc := 40) dX2_nextBreakOver_40 rfl ?_
      refine r_iret (pc := 41) dX2_nextBreakOver_41 rfl ?_
      rw [hx, show j = hn by omega]
    · exact absurd (show M 0 0 ≤ nI j by rw [hsz]; exact nI_le (by omega) (by omega)) (by assumption)
  | succ n ih =>
    intro j x hj hx
    refine e_iload_n (pc := 5) dX2_nextBreakOver_5 rfl ?_
    refine e_aload_n (pc := 6) dX2_nextBreakOver_6 rfl ?_
    refine e_getI (pc := 7) dX2_nextBreakOver_7 f_2_36 rfl rfl ?_
    refine e_icmp_ge (pc := 10) (tgt := 40) dX2_nextBreakOver_10 (by decide) (fun hc_10 => ?_) (fun hc_10 => ?_)
    · exact absurd (show M 0 0 ≤ nI j by assumption) (by rw [hsz]; exact nI_ge (by omega) (by omega))
    · refine e_aload_n (pc := 13) dX2_nextBreakOver_13 rfl ?_
      refine e_getA (pc := 14) dX2_nextBreakOver_14 f_2_15 rfl rfl ?_
      refine e_iload_n (pc := 17) dX2_nextBreakOver_17 rfl ?_
      first | refine e_ialdN (pc := 18) dX2_nextBreakOver_18 rfl (by omega) (by decide) ?_ | refine e_iald (pc := 18) dX2_nextBreakOver_18 rfl (by assumption) ?_
      refine e_iconst (pc := 19) (v := 3) dX2_nextBreakOver_19 (by decide) ?_
      refine e_icmp_ne (pc := 20) (tgt := 34) dX2_nextBreakOver_20 (by decide) (fun hc_20 => ?_) (fun hc_20 => ?_)
      · first | refine e_iinc1 (pc := 34) dX2_nextBreakOver_34 rfl (by decide) ?_ | refine e_iincp (pc := 34) dX2_nextBreakOver_34 rfl (by decide) ?_
        refine e_goto (pc := 37) (tgt := 5) dX2_nextBreakOver_37 (by decide) ?_
        exact e_wk (ih (j + 1) _ (by omega) (by subst hx; simp only [h_nb]; grind)) ⟨rfl, rfl, rfl, trivial⟩
      · refine e_iload_n (pc := 23) dX2_nextBreakOver_23 rfl ?_
        refine e_aload_n (pc := 24) dX2_nextBreakOver_24 rfl ?_
        refine e_getA (pc := 25) dX2_nextBreakOver_25 f_2_33 rfl rfl ?_
        refine e_iload_n (pc := 28) dX2_nextBreakOver_28 rfl ?_
        first | refine e_ialdN (pc := 29) dX2_nextBreakOver_29 rfl (by omega) (by decide) ?_ | refine e_iald (pc := 29) dX2_nextBreakOver_29 rfl (by assumption) ?_
        refine e_mmin (pc := 30) dX2_nextBreakOver_30 cm_X2_nextBreakOver_66 cm_min (by decide) (by decide) (Nat.le_of_ble_eq_true rfl) ?_
        refine e_istore_n (pc := 33) dX2_nextBreakOver_33 (by decide) ?_
        first | refine e_iinc1 (pc := 34) dX2_nextBreakOver_34 rfl (by decide) ?_ | refine e_iincp (pc := 34) dX2_nextBreakOver_34 rfl (by decide) ?_
        refine e_goto (pc := 37) (tgt := 5) dX2_nextBreakOver_37 (by decide) ?_
        exact e_wk (ih (j + 1) _ (by omega) (by subst hx; simp only [h_nb]; grind)) ⟨rfl, rfl, rfl, trivial⟩
set_option maxHeartbeats 1000000 in
theorem ev_X2_nextBreakOver {hn : Nat} {M : cr_M} (hsz : M 0 0 = nI hn) (h10 : hn ≤ 10) : cr_EvM Y_X2_nextBreakOver [.inr (.inr 0)] M (some (.inl (h_nb M hn)), M) := by
  refine e_ldc (pc := 0) (v := (2147483647 : Int32)) dX2_nextBreakOver_0 (cr_in (i := 450) (by decide +kernel) rfl) ?_
  refine e_istore_n (pc := 2) dX2_nextBreakOver_2 (by decide) ?_
  refine e_iconst (pc := 3) (v := 0) dX2_nextBreakOver_3 (by decide) ?_
  refine e_istore_n (pc := 4) dX2_nextBreakOver_4 (by decide) ?_
  exact e_wk (lp_X2_nextBreakOver hsz h10 hn 0 _ (by omega) rfl) ⟨rfl, rfl, rfl, trivial⟩
set_option maxHeartbeats 1000000 in
theorem lp_X2_countFree {hn : Nat} {M : cr_M} (hsz : M 0 0 = nI hn) (h10 : hn ≤ 10) : ∀ (n j : Nat) (x : Int32), j + n = hn → (x = h_cf M j) → cr_Ev Y_X2_countFree 4 [(2, .inl (nI j)), (0, .inr (.inr 0)), (1, .inl x)] [] M (some (.inl (h_cf M hn)), M) := by
  intro n
  induction n with
  | zero =>
    intro j x hj hx
    refine e_iload_n (pc := 4) dX2_countFree_4 rfl ?_
    refine e_aload_n (pc := 5) dX2_countFree_5 rfl ?_
    refine e_getI (pc := 6) dX2_countFree_6 f_2_36 rfl rfl ?_
    refine e_icmp_ge (pc := 9) (tgt := 31) dX2_countFree_9 (by decide) (fun hc_9 => ?_) (fun hc_9 => ?_)
    · refine e_iload_n (pc := 31) dX2_countFree_31 rfl ?_
      refine r_iret (pc := 32) dX2_countFree_32 rfl ?_
      rw [hx, show j = hn by omega]
    · exact absurd (show M 0 0 ≤ nI j by rw [hsz]; exact nI_le (by omega) (by omega)) (by assumption)
  | succ n ih =>
    intro j x hj hx
    refine e_iload_n (pc := 4) dX2_countFree_4 rfl ?_
    refine e_aload_n (pc := 5) dX2_countFree_5 rfl ?_
    refine e_getI (pc := 6) dX2_countFree_6 f_2_36 rfl rfl ?_
    refine e_icmp_ge (pc := 9) (tgt := 31) dX2_countFree_9 (by decide) (fun hc_9 => ?_) (fun hc_9 => ?_)
    · exact absurd (show M 0 0 ≤ nI j by assumption) (by rw [hsz]; exact nI_ge (by omega) (by omega))
    · refine e_aload_n (pc := 12) dX2_countFree_12 rfl ?_
      refine e_getA (pc := 13) dX2_countFree_13 f_2_15 rfl rfl ?_
      refine e_iload_n (pc := 16) dX2_countFree_16 rfl ?_
      first | refine e_ialdN (pc := 17) dX2_countFree_17 rfl (by omega) (by decide) ?_ | refine e_iald (pc := 17) dX2_countFree_17 rfl (by assumption) ?_
      refine e_iconst (pc := 18) (v := 1) dX2_countFree_18 (by decide) ?_
      refine e_icmp_ne (pc := 19) (tgt := 25) dX2_countFree_19 (by decide) (fun hc_19 => ?_) (fun hc_19 => ?_)
      · first | refine e_iinc1 (pc := 25) dX2_countFree_25 rfl (by decide) ?_ | refine e_iincp (pc := 25) dX2_countFree_25 rfl (by decide) ?_
        refine e_goto (pc := 28) (tgt := 4) dX2_countFree_28 (by decide) ?_
        exact e_wk (ih (j + 1) _ (by omega) (by subst hx; simp only [h_cf]; grind)) ⟨rfl, rfl, rfl, trivial⟩
      · first | refine e_iinc1 (pc := 22) dX2_countFree_22 rfl (by decide) ?_ | refine e_iincp (pc := 22) dX2_countFree_22 rfl (by decide) ?_
        first | refine e_iinc1 (pc := 25) dX2_countFree_25 rfl (by decide) ?_ | refine e_iincp (pc := 25) dX2_countFree_25 rfl (by decide) ?_
        refine e_goto (pc := 28) (tgt := 4) dX2_countFree_28 (by decide) ?_
        exact e_wk (ih (j + 1) _ (by omega) (by subst hx; simp only [h_cf]; grind)) ⟨rfl, rfl, rfl, trivial⟩
set_option maxHeartbeats 1000000 in
theorem ev_X2_countFree {hn : Nat} {M : cr_M} (hsz : M 0 0 = nI hn) (h10 : hn ≤ 10) : cr_EvM Y_X2_countFree [.inr (.inr 0)] M (some (.inl (h_cf M hn)), M) := by
  refine e_iconst (pc := 0) (v := 0) dX2_countFree_0 (by decide) ?_
  refine e_istore_n (pc := 1) dX2_countFree_1 (by decide) ?_
  refine e_iconst (pc := 2) (v := 0) dX2_countFree_2 (by decide) ?_
  refine e_istore_n (pc := 3) dX2_countFree_3 (by decide) ?_
  exact e_wk (lp_X2_countFree hsz h10 hn 0 _ (by omega) rfl) ⟨rfl, rfl, rfl, trivial⟩
set_option maxHeartbeats 1000000 in
theorem ev_X2_add (M : cr_M) {hn : Nat} (g t : Int32) (hsz : M 0 0 = nI hn) (h10 : hn < 10) : cr_EvM Y_X2_add [.inr (.inr 0), .inl g, .inl t] M (some (.inl (nI hn)), h_add M hn g t) := by
  refine e_aload_n (pc := 0) dX2_add_0 rfl ?_
  refine e_getIv (pc := 1) (nI hn) dX2_add_1 f_2_36 rfl rfl hsz ?_
  refine e_bipush (pc := 4) (v := 10) dX2_add_4 (by decide) ?_
  refine e_icmp_lt (pc := 6) (tgt := 12) dX2_add_6 (by decide) (fun hc_6 => ?_) (fun hc_6 => ?_)
  · refine e_aload_n (pc := 12) dX2_add_12 rfl ?_
    refine e_getA (pc := 13) dX2_add_13 f_2_9 rfl rfl ?_
    refine e_aload_n (pc := 16) dX2_add_16 rfl ?_
    refine e_getIv (pc := 17) (nI hn) dX2_add_17 f_2_36 rfl rfl hsz ?_
    refine e_iload_n (pc := 20) dX2_add_20 rfl ?_
    first | refine e_iastN (pc := 21) dX2_add_21 rfl (by omega) (by decide) ?_ | refine e_iast (pc := 21) dX2_add_21 rfl (by assumption) ?_
    refine e_aload_n (pc := 22) dX2_add_22 rfl ?_
    refine e_getA (pc := 23) dX2_add_23 f_2_15 rfl rfl ?_
    refine e_aload_n (pc := 26) dX2_add_26 rfl ?_
    refine e_getIv (pc := 27) (nI hn) dX2_add_27 f_2_36 rfl rfl hsz ?_
    refine e_iconst (pc := 30) (v := 0) dX2_add_30 (by decide) ?_
    first | refine e_iastN (pc := 31) dX2_add_31 rfl (by omega) (by decide) ?_ | refine e_iast (pc := 31) dX2_add_31 rfl (by assumption) ?_
    refine e_aload_n (pc := 32) dX2_add_32 rfl ?_
    refine e_getA (pc := 33) dX2_add_33 f_2_18 rfl rfl ?_
    refine e_aload_n (pc := 36) dX2_add_36 rfl ?_
    refine e_getIv (pc := 37) (nI hn) dX2_add_37 f_2_36 rfl rfl hsz ?_
    refine e_iload_n (pc := 40) dX2_add_40 rfl ?_
    first | refine e_iastN (pc := 41) dX2_add_41 rfl (by omega) (by decide) ?_ | refine e_iast (pc := 41) dX2_add_41 rfl (by assumption) ?_
    refine e_aload_n (pc := 42) dX2_add_42 rfl ?_
    refine e_dup_a (pc := 43) dX2_add_43 ?_
    refine e_getIv (pc := 44) (nI hn) dX2_add_44 f_2_36 rfl rfl hsz ?_
    refine e_dup_x1 (pc := 47) dX2_add_47 ?_
    refine e_iconst (pc := 48) (v := 1) dX2_add_48 (by decide) ?_
    refine e_iadd (pc := 49) dX2_add_49 ?_
    refine e_put (pc := 50) dX2_add_50 f_2_36 p_2_0 rfl rfl ?_
    refine r_iret (pc := 53) dX2_add_53 rfl ?_
    rfl
  · refine e_bipush (pc := 9) (v := (-9)) dX2_add_9 (by decide) ?_
    refine r_iret (pc := 11) dX2_add_11 rfl ?_
    exact absurd (nI_lt h10 (by decide)) (by assumption)
set_option maxHeartbeats 1000000 in
theorem ev_X2_copyFrom (M : cr_M) {hn : Nat} (hsz : M 9 0 = nI hn) (h10 : hn ≤ 10) : cr_EvM Y_X2_copyFrom [.inr (.inr 0), .inr (.inr 9)] M (none, h_cpy hn M) := by
  have hcl : (M 9 0).toNatClampNeg = hn := by rw [hsz]; exact nI_clamp (by omega)
  have hsz0 : ¬ M 9 0 < 0 := by rw [hsz]; exact nI_pos (by omega)
  have hsz1 : (0 : Int32).toNatClampNeg + (M 9 0).toNatClampNeg ≤ 10 := by rw [hsz, nI_clamp (by omega)]; exact (by simpa using h10)
  refine e_aload_n (pc := 0) dX2_copyFrom_0 rfl ?_
  refine e_aload_n (pc := 1) dX2_copyFrom_1 rfl ?_
  refine e_getI (pc := 2) dX2_copyFrom_2 f_2_36 rfl rfl ?_
  refine e_put (pc := 5) dX2_copyFrom_5 f_2_36 p_2_0 rfl rfl ?_
  refine e_aload_n (pc := 8) dX2_copyFrom_8 rfl ?_
  refine e_getA (pc := 9) dX2_copyFrom_9 f_2_9 rfl rfl ?_
  refine e_iconst (pc := 12) (v := 0) dX2_copyFrom_12 (by decide) ?_
  refine e_aload_n (pc := 13) dX2_copyFrom_13 rfl ?_
  refine e_getA (pc := 14) dX2_copyFrom_14 f_2_9 rfl rfl ?_
  refine e_iconst (pc := 17) (v := 0) dX2_copyFrom_17 (by decide) ?_
  refine e_aload_n (pc := 18) dX2_copyFrom_18 rfl ?_
  refine e_getI (pc := 19) dX2_copyFrom_19 f_2_36 rfl rfl ?_
  refine e_acopy (pc := 22) dX2_copyFrom_22 ac_2_71 (by decide) (Nat.le_of_ble_eq_true rfl) rfl rfl (by decide) (by decide) hsz0 hsz1 hsz1 ?_
  refine e_aload_n (pc := 25) dX2_copyFrom_25 rfl ?_
  refine e_getA (pc := 26) dX2_copyFrom_26 f_2_15 rfl rfl ?_
  refine e_iconst (pc := 29) (v := 0) dX2_copyFrom_29 (by decide) ?_
  refine e_aload_n (pc := 30) dX2_copyFrom_30 rfl ?_
  refine e_getA (pc := 31) dX2_copyFrom_31 f_2_15 rfl rfl ?_
  refine e_iconst (pc := 34) (v := 0) dX2_copyFrom_34 (by decide) ?_
  refine e_aload_n (pc := 35) dX2_copyFrom_35 rfl ?_
  refine e_getI (pc := 36) dX2_copyFrom_36 f_2_36 rfl rfl ?_
  refine e_acopy (pc := 39) dX2_copyFrom_39 ac_2_71 (by decide) (Nat.le_of_ble_eq_true rfl) rfl rfl (by decide) (by decide) hsz0 hsz1 hsz1 ?_
  refine e_aload_n (pc := 42) dX2_copyFrom_42 rfl ?_
  refine e_getA (pc := 43) dX2_copyFrom_43 f_2_18 rfl rfl ?_
  refine e_iconst (pc := 46) (v := 0) dX2_copyFrom_46 (by decide) ?_
  refine e_aload_n (pc := 47) dX2_copyFrom_47 rfl ?_
  refine e_getA (pc := 48) dX2_copyFrom_48 f_2_18 rfl rfl ?_
  refine e_iconst (pc := 51) (v := 0) dX2_copyFrom_51 (by decide) ?_
  refine e_aload_n (pc := 52) dX2_copyFrom_52 rfl ?_
  refine e_getI (pc := 53) dX2_copyFrom_53 f_2_36 rfl rfl ?_
  refine e_acopy (pc := 56) dX2_copyFrom_56 ac_2_71 (by decide) (Nat.le_of_ble_eq_true rfl) rfl rfl (by decide) (by decide) hsz0 hsz1 hsz1 ?_
  refine e_aload_n (pc := 59) dX2_copyFrom_59 rfl ?_
  refine e_getA (pc := 60) dX2_copyFrom_60 f_2_21 rfl rfl ?_
  refine e_iconst (pc := 63) (v := 0) dX2_copyFrom_63 (by decide) ?_
  refine e_aload_n (pc := 64) dX2_copyFrom_64 rfl ?_
  refine e_getA (pc := 65) dX2_copyFrom_65 f_2_21 rfl rfl ?_
  refine e_iconst (pc := 68) (v := 0) dX2_copyFrom_68 (by decide) ?_
  refine e_aload_n (pc := 69) dX2_copyFrom_69 rfl ?_
  refine e_getI (pc := 70) dX2_copyFrom_70 f_2_36 rfl rfl ?_
  refine e_acopy (pc := 73) dX2_copyFrom_73 ac_2_71 (by decide) (Nat.le_of_ble_eq_true rfl) rfl rfl (by decide) (by decide) hsz0 hsz1 hsz1 ?_
  refine e_aload_n (pc := 76) dX2_copyFrom_76 rfl ?_
  refine e_getA (pc := 77) dX2_copyFrom_77 f_2_24 rfl rfl ?_
  refine e_iconst (pc := 80) (v := 0) dX2_copyFrom_80 (by decide) ?_
  refine e_aload_n (pc := 81) dX2_copyFrom_81 rfl ?_
  refine e_getA (pc := 82) dX2_copyFrom_82 f_2_24 rfl rfl ?_
  refine e_iconst (pc := 85) (v := 0) dX2_copyFrom_85 (by decide) ?_
  refine e_aload_n (pc := 86) dX2_copyFrom_86 rfl ?_
  refine e_getI (pc := 87) dX2_copyFrom_87 f_2_36 rfl rfl ?_
  refine e_acopy (pc := 90) dX2_copyFrom_90 ac_2_71 (by decide) (Nat.le_of_ble_eq_true rfl) rfl rfl (by decide) (by decide) hsz0 hsz1 hsz1 ?_
  refine e_aload_n (pc := 93) dX2_copyFrom_93 rfl ?_
  refine e_getA (pc := 94) dX2_copyFrom_94 f_2_27 rfl rfl ?_
  refine e_iconst (pc := 97) (v := 0) dX2_copyFrom_97 (by decide) ?_
  refine e_aload_n (pc := 98) dX2_copyFrom_98 rfl ?_
  refine e_getA (pc := 99) dX2_copyFrom_99 f_2_27 rfl rfl ?_
  refine e_iconst (pc := 102) (v := 0) dX2_copyFrom_102 (by decide) ?_
  refine e_aload_n (pc := 103) dX2_copyFrom_103 rfl ?_
  refine e_getI (pc := 104) dX2_copyFrom_104 f_2_36 rfl rfl ?_
  refine e_acopy (pc := 107) dX2_copyFrom_107 ac_2_71 (by decide) (Nat.le_of_ble_eq_true rfl) rfl rfl (by decide) (by decide) hsz0 hsz1 hsz1 ?_
  refine e_aload_n (pc := 110) dX2_copyFrom_110 rfl ?_
  refine e_getA (pc := 111) dX2_copyFrom_111 f_2_30 rfl rfl ?_
  refine e_iconst (pc := 114) (v := 0) dX2_copyFrom_114 (by decide) ?_
  refine e_aload_n (pc := 115) dX2_copyFrom_115 rfl ?_
  refine e_getA (pc := 116) dX2_copyFrom_116 f_2_30 rfl rfl ?_
  refine e_iconst (pc := 119) (v := 0) dX2_copyFrom_119 (by decide) ?_
  refine e_aload_n (pc := 120) dX2_copyFrom_120 rfl ?_
  refine e_getI (pc := 121) dX2_copyFrom_121 f_2_36 rfl rfl ?_
  refine e_acopy (pc := 124) dX2_copyFrom_124 ac_2_71 (by decide) (Nat.le_of_ble_eq_true rfl) rfl rfl (by decide) (by decide) hsz0 hsz1 hsz1 ?_
  refine e_aload_n (pc := 127) dX2_copyFrom_127 rfl ?_
  refine e_getA (pc := 128) dX2_copyFrom_128 f_2_33 rfl rfl ?_
  refine e_iconst (pc := 131) (v := 0) dX2_copyFrom_131 (by decide) ?_
  refine e_aload_n (pc := 132) dX2_copyFrom_132 rfl ?_
  refine e_getA (pc := 133) dX2_copyFrom_133 f_2_33 rfl rfl ?_
  refine e_iconst (pc := 136) (v := 0) dX2_copyFrom_136 (by decide) ?_
  refine e_aload_n (pc := 137) dX2_copyFrom_137 rfl ?_
  refine e_getI (pc := 138) dX2_copyFrom_138 f_2_36 rfl rfl ?_
  refine e_acopy (pc := 141) dX2_copyFrom_141 ac_2_71 (by decide) (Nat.le_of_ble_eq_true rfl) rfl rfl (by decide) (by decide) hsz0 hsz1 hsz1 ?_
  refine r_vret (pc := 144) dX2_copyFrom_144 rfl ?_
  refine congrArg (fun z => ((none, z) : Option cr_AV × cr_M)) ?_
  funext q i
  rcases q with _ | _ | _ | _ | _ | _ | _ | _ | _ | q <;> simp [h_cpy, va_up, va_cpy, cr_up, upd, hcl]
end
section
/-! the calls' rows: cells 0 .. 12 -/
def c_add (M : cr_M) (cn : Nat) (kd ow : Int32) : cr_M := cr_up (cr_up (cr_up (cr_up (cr_up M 2 cn kd) 3 cn ow) 11 cn (-9)) 12 cn (-9)) 0 0 (nI cn + 1)
def c_desc (M : cr_M) (c : Nat) (s l p : Int32) : cr_M := cr_up (cr_up (cr_up M 4 c s) 5 c l) 6 c p
def c_wait (M : cr_M) (c : Nat) (t : Int32) : cr_M := cr_up (cr_up (cr_up M 1 c 0) 8 c t) 9 c (-9)
def c_back (M : cr_M) (c : Nat) (t : Int32) : cr_M := cr_up (cr_up M 1 c 4) 10 c t
def c_start (M : cr_M) (c : Nat) (h t e : Int32) : cr_M :=
  if M 11 c < 0 then cr_up (cr_up (cr_up (cr_up (cr_up M 1 c 1) 9 c h) 10 c e) 12 c (t - M 8 c)) 11 c (t - M 8 c)
  else cr_up (cr_up (cr_up (cr_up M 1 c 1) 9 c h) 10 c e) 12 c (t - M 8 c)
def c_ring (cn : Nat) (t : Int32) (M : cr_M) : cr_M := fun q i => if q = 1 ∧ i < cn ∧ M 1 i = 4 ∧ M 10 i ≤ t then 0 else if q = 8 ∧ i < cn ∧ M 1 i = 4 ∧ M 10 i ≤ t then t else if q = 9 ∧ i < cn ∧ M 1 i = 4 ∧ M 10 i ≤ t then -9 else M q i
def c_lose (cn : Nat) (t : Int32) (M : cr_M) : cr_M := fun q i => if q = 1 ∧ i < cn ∧ M 1 i = 0 ∧ M 6 i < t - M 8 i then 3 else M q i
def c_nc (M : cr_M) (c : Nat) (t p : Int32) : Int32 :=
  if M 1 c = 1 ∨ M 1 c = 4 then M 10 c else if M 1 c = 0 then
    (if M 2 c = 1 ∧ t < M 8 c + p then (if M 8 c + p < M 8 c + M 6 c + 1 then M 8 c + p else M 8 c + M 6 c + 1) else M 8 c + M 6 c + 1)
  else 2147483647
def c_fw (M : cr_M) (h : Int32) : Nat → Nat → Int32
  | 0, _ => -9
  | n + 1, j => if M 1 j = 1 ∧ M 9 j = h then nI j else c_fw M h n (j + 1)
def c_gw (M : cr_M) (x : Int32) : Nat → Int32
  | 0 => 0
  | j + 1 => if 0 ≤ M 11 j ∧ M 11 j ≤ x then c_gw M x j + 1 else c_gw M x j
def c_cd (M : cr_M) (x : Int32) : Nat → Int32
  | 0 => 0
  | j + 1 => if M 1 j = x then c_cd M x j + 1 else c_cd M x j
def c_cpy (cn : Nat) (M : cr_M) : cr_M := fun q i => if q = 0 ∧ i = 0 then M 13 0 else if 1 ≤ q ∧ q ≤ 12 ∧ i < cn then M (13 + q) i else M q i
end
section
set_option maxHeartbeats 1000000 in
theorem ev_X0_has (M : cr_M) (h : Int32) : cr_EvM Y_X0_has [.inr (.inr 0), .inl h] M (some (.inl (bI (0 ≤ h ∧ h < M 0 0))), M) := by
  refine e_iload_n (pc := 0) dX0_has_0 rfl ?_
  refine e_if_lt (pc := 1) (tgt := 16) dX0_has_1 (by decide) (fun hc_1 => ?_) (fun hc_1 => ?_)
  · refine e_iconst (pc := 16) (v := 0) dX0_has_16 (by decide) ?_
    refine r_zret (pc := 17) dX0_has_17 rfl (by first | exact Or.inl rfl | exact Or.inr rfl | exact bI_01 _ | assumption) ?_
    first | exact rt_t (by grind) | exact rt_f (by grind)
  · refine e_iload_n (pc := 4) dX0_has_4 rfl ?_
    refine e_aload_n (pc := 5) dX0_has_5 rfl ?_
    refine e_getI (pc := 6) dX0_has_6 f_0_48 rfl rfl ?_
    refine e_icmp_ge (pc := 9) (tgt := 16) dX0_has_9 (by decide) (fun hc_9 => ?_) (fun hc_9 => ?_)
    · refine e_iconst (pc := 16) (v := 0) dX0_has_16 (by decide) ?_
      refine r_zret (pc := 17) dX0_has_17 rfl (by first | exact Or.inl rfl | exact Or.inr rfl | exact bI_01 _ | assumption) ?_
      first | exact rt_t (by grind) | exact rt_f (by grind)
    · refine e_iconst (pc := 12) (v := 1) dX0_has_12 (by decide) ?_
      refine e_goto (pc := 13) (tgt := 17) dX0_has_13 (by decide) ?_
      refine r_zret (pc := 17) dX0_has_17 rfl (by first | exact Or.inl rfl | exact Or.inr rfl | exact bI_01 _ | assumption) ?_
      first | exact rt_t (by grind) | exact rt_f (by grind)
set_option maxHeartbeats 1000000 in
theorem ev_X0_add (M : cr_M) {cn : Nat} (g t : Int32) (hsz : M 0 0 = nI cn) (h10 : cn < 200) : cr_EvM Y_X0_add [.inr (.inr 0), .inl g, .inl t] M (some (.inl (nI cn)), c_add M cn g t) := by
  refine e_aload_n (pc := 0) dX0_add_0 rfl ?_
  refine e_getIv (pc := 1) (nI cn) dX0_add_1 f_0_48 rfl rfl hsz ?_
  refine e_sipush (pc := 4) (v := 200) dX0_add_4 (by decide) ?_
  refine e_icmp_lt (pc := 7) (tgt := 13) dX0_add_7 (by decide) (fun hc_7 => ?_) (fun hc_7 => ?_)
  · refine e_aload_n (pc := 13) dX0_add_13 rfl ?_
    refine e_getA (pc := 14) dX0_add_14 f_0_15 rfl rfl ?_
    refine e_aload_n (pc := 17) dX0_add_17 rfl ?_
    refine e_getIv (pc := 18) (nI cn) dX0_add_18 f_0_48 rfl rfl hsz ?_
    refine e_iload_n (pc := 21) dX0_add_21 rfl ?_
    first | refine e_iastN (pc := 22) dX0_add_22 rfl (by omega) (by decide) ?_ | refine e_iast (pc := 22) dX0_add_22 rfl (by assumption) ?_
    refine e_aload_n (pc := 23) dX0_add_23 rfl ?_
    refine e_getA (pc := 24) dX0_add_24 f_0_18 rfl rfl ?_
    refine e_aload_n (pc := 27) dX0_add_27 rfl ?_
    refine e_getIv (pc := 28) (nI cn) dX0_add_28 f_0_48 rfl rfl hsz ?_
    refine e_iload_n (pc := 31) dX0_add_31 rfl ?_
    first | refine e_iastN (pc := 32) dX0_add_32 rfl (by omega) (by decide) ?_ | refine e_iast (pc := 32) dX0_add_32 rfl (by assumption) ?_
    refine e_aload_n (pc := 33) dX0_add_33 rfl ?_
    refine e_getA (pc := 34) dX0_add_34 f_0_42 rfl rfl ?_
    refine e_aload_n (pc := 37) dX0_add_37 rfl ?_
    refine e_getIv (pc := 38) (nI cn) dX0_add_38 f_0_48 rfl rfl hsz ?_
    refine e_bipush (pc := 41) (v := (-9)) dX0_add_41 (by decide) ?_
    first | refine e_iastN (pc := 43) dX0_add_43 rfl (by omega) (by decide) ?_ | refine e_iast (pc := 43) dX0_add_43 rfl (by assumption) ?_
    refine e_aload_n (pc := 44) dX0_add_44 rfl ?_
    refine e_getA (pc := 45) dX0_add_45 f_0_45 rfl rfl ?_
    refine e_aload_n (pc := 48) dX0_add_48 rfl ?_
    refine e_getIv (pc := 49) (nI cn) dX0_add_49 f_0_48 rfl rfl hsz ?_
    refine e_bipush (pc := 52) (v := (-9)) dX0_add_52 (by decide) ?_
    first | refine e_iastN (pc := 54) dX0_add_54 rfl (by omega) (by decide) ?_ | refine e_iast (pc := 54) dX0_add_54 rfl (by assumption) ?_
    refine e_aload_n (pc := 55) dX0_add_55 rfl ?_
    refine e_dup_a (pc := 56) dX0_add_56 ?_
    refine e_getIv (pc := 57) (nI cn) dX0_add_57 f_0_48 rfl rfl hsz ?_
    refine e_dup_x1 (pc := 60) dX0_add_60 ?_
    refine e_iconst (pc := 61) (v := 1) dX0_add_61 (by decide) ?_
    refine e_iadd (pc := 62) dX0_add_62 ?_
    refine e_put (pc := 63) dX0_add_63 f_0_48 p_0_0 rfl rfl ?_
    refine r_iret (pc := 66) dX0_add_66 rfl ?_
    rfl
  · refine e_bipush (pc := 10) (v := (-9)) dX0_add_10 (by decide) ?_
    refine r_iret (pc := 12) dX0_add_12 rfl ?_
    exact absurd (nI_lt h10 (by decide)) (by assumption)
set_option maxHeartbeats 1000000 in
theorem ev_X0_describe (M : cr_M) {k : Nat} (s l p : Int32) (hk : k < 200) : cr_EvM Y_X0_describe [.inr (.inr 0), .inl (nI k), .inl s, .inl l, .inl p] M (none, c_desc M k s l p) := by
  refine e_aload_n (pc := 0) dX0_describe_0 rfl ?_
  refine e_getA (pc := 1) dX0_describe_1 f_0_21 rfl rfl ?_
  refine e_iload_n (pc := 4) dX0_describe_4 rfl ?_
  refine e_iload_n (pc := 5) dX0_describe_5 rfl ?_
  first | refine e_iastN (pc := 6) dX0_describe_6 rfl (by omega) (by decide) ?_ | refine e_iast (pc := 6) dX0_describe_6 rfl (by assumption) ?_
  refine e_aload_n (pc := 7) dX0_describe_7 rfl ?_
  refine e_getA (pc := 8) dX0_describe_8 f_0_24 rfl rfl ?_
  refine e_iload_n (pc := 11) dX0_describe_11 rfl ?_
  refine e_iload_n (pc := 12) dX0_describe_12 rfl ?_
  first | refine e_iastN (pc := 13) dX0_describe_13 rfl (by omega) (by decide) ?_ | refine e_iast (pc := 13) dX0_describe_13 rfl (by assumption) ?_
  refine e_aload_n (pc := 14) dX0_describe_14 rfl ?_
  refine e_getA (pc := 15) dX0_describe_15 f_0_27 rfl rfl ?_
  refine e_iload_n (pc := 18) dX0_describe_18 rfl ?_
  refine e_iload (pc := 19) dX0_describe_19 rfl ?_
  first | refine e_iastN (pc := 21) dX0_describe_21 rfl (by omega) (by decide) ?_ | refine e_iast (pc := 21) dX0_describe_21 rfl (by assumption) ?_
  refine r_vret (pc := 22) dX0_describe_22 rfl ?_
  rfl
set_option maxHeartbeats 1000000 in
theorem ev_X0_waitAgain (M : cr_M) {k : Nat} (t : Int32) (hk : k < 200) : cr_EvM Y_X0_waitAgain [.inr (.inr 0), .inl (nI k), .inl t] M (none, c_wait M k t) := by
  refine e_aload_n (pc := 0) dX0_waitAgain_0 rfl ?_
  refine e_getA (pc := 1) dX0_waitAgain_1 f_0_9 rfl rfl ?_
  refine e_iload_n (pc := 4) dX0_waitAgain_4 rfl ?_
  refine e_iconst (pc := 5) (v := 0) dX0_waitAgain_5 (by decide) ?_
  first | refine e_iastN (pc := 6) dX0_waitAgain_6 rfl (by omega) (by decide) ?_ | refine e_iast (pc := 6) dX0_waitAgain_6 rfl (by assumption) ?_
  refine e_aload_n (pc := 7) dX0_waitAgain_7 rfl ?_
  refine e_getA (pc := 8) dX0_waitAgain_8 f_0_33 rfl rfl ?_
  refine e_iload_n (pc := 11) dX0_waitAgain_11 rfl ?_
  refine e_iload_n (pc := 12) dX0_waitAgain_12 rfl ?_
  first | refine e_iastN (pc := 13) dX0_waitAgain_13 rfl (by omega) (by decide) ?_ | refine e_iast (pc := 13) dX0_waitAgain_13 rfl (by assumption) ?_
  refine e_aload_n (pc := 14) dX0_waitAgain_14 rfl ?_
  refine e_getA (pc := 15) dX0_waitAgain_15 f_0_36 rfl rfl ?_
  refine e_iload_n (pc := 18) dX0_waitAgain_18 rfl ?_
  refine e_bipush (pc := 19) (v := (-9)) dX0_waitAgain_19 (by decide) ?_
  first | refine e_iastN (pc := 21) dX0_waitAgain_21 rfl (by omega) (by decide) ?_ | refine e_iast (pc := 21) dX0_waitAgain_21 rfl (by assumption) ?_
  refine r_vret (pc := 22) dX0_waitAgain_22 rfl ?_
  rfl
set_option maxHeartbeats 1000000 in
theorem ev_X0_arrive (M : cr_M) {k : Nat} (t : Int32) (hk : k < 200) : cr_EvM Y_X0_arrive [.inr (.inr 0), .inl (nI k), .inl t] M (none, c_wait (cr_up M 7 k t) k t) := by
  refine e_aload_n (pc := 0) dX0_arrive_0 rfl ?_
  refine e_getA (pc := 1) dX0_arrive_1 f_0_30 rfl rfl ?_
  refine e_iload_n (pc := 4) dX0_arrive_4 rfl ?_
  refine e_iload_n (pc := 5) dX0_arrive_5 rfl ?_
  first | refine e_iastN (pc := 6) dX0_arrive_6 rfl (by omega) (by decide) ?_ | refine e_iast (pc := 6) dX0_arrive_6 rfl (by assumption) ?_
  refine e_aload_n (pc := 7) dX0_arrive_7 rfl ?_
  refine e_iload_n (pc := 8) dX0_arrive_8 rfl ?_
  refine e_iload_n (pc := 9) dX0_arrive_9 rfl ?_
  refine e_self2v (pc := 10) dX0_arrive_10 cs_X0_arrive_52 cv_X0_waitAgain rc_X0_waitAgain rfl (by decide) (Nat.le_of_ble_eq_true rfl) (ev_X0_waitAgain _ _ hk) ?_
  refine r_vret (pc := 13) dX0_arrive_13 rfl ?_
  rfl
set_option maxHeartbeats 1000000 in
theorem ev_X0_putBack (M : cr_M) {k : Nat} (t : Int32) (hk : k < 200) : cr_EvM Y_X0_putBack [.inr (.inr 0), .inl (nI k), .inl t] M (none, c_back M k t) := by
  refine e_aload_n (pc := 0) dX0_putBack_0 rfl ?_
  refine e_getA (pc := 1) dX0_putBack_1 f_0_9 rfl rfl ?_
  refine e_iload_n (pc := 4) dX0_putBack_4 rfl ?_
  refine e_iconst (pc := 5) (v := 4) dX0_putBack_5 (by decide) ?_
  first | refine e_iastN (pc := 6) dX0_putBack_6 rfl (by omega) (by decide) ?_ | refine e_iast (pc := 6) dX0_putBack_6 rfl (by assumption) ?_
  refine e_aload_n (pc := 7) dX0_putBack_7 rfl ?_
  refine e_getA (pc := 8) dX0_putBack_8 f_0_39 rfl rfl ?_
  refine e_iload_n (pc := 11) dX0_putBack_11 rfl ?_
  refine e_iload_n (pc := 12) dX0_putBack_12 rfl ?_
  first | refine e_iastN (pc := 13) dX0_putBack_13 rfl (by omega) (by decide) ?_ | refine e_iast (pc := 13) dX0_putBack_13 rfl (by assumption) ?_
  refine r_vret (pc := 14) dX0_putBack_14 rfl ?_
  rfl
set_option maxHeartbeats 1000000 in
theorem ev_X0_start (M : cr_M) {k : Nat} (h t e : Int32) (hk : k < 200) : cr_EvM Y_X0_start [.inr (.inr 0), .inl (nI k), .inl h, .inl t, .inl e] M (none, c_start M k h t e) := by
  refine e_aload_n (pc := 0) dX0_start_0 rfl ?_
  refine e_getA (pc := 1) dX0_start_1 f_0_9 rfl rfl ?_
  refine e_iload_n (pc := 4) dX0_start_4 rfl ?_
  refine e_iconst (pc := 5) (v := 1) dX0_start_5 (by decide) ?_
  first | refine e_iastN (pc := 6) dX0_start_6 rfl (by omega) (by decide) ?_ | refine e_iast (pc := 6) dX0_start_6 rfl (by assumption) ?_
  refine e_aload_n (pc := 7) dX0_start_7 rfl ?_
  refine e_getA (pc := 8) dX0_start_8 f_0_36 rfl rfl ?_
  refine e_iload_n (pc := 11) dX0_start_11 rfl ?_
  refine e_iload_n (pc := 12) dX0_start_12 rfl ?_
  first | refine e_iastN (pc := 13) dX0_start_13 rfl (by omega) (by decide) ?_ | refine e_iast (pc := 13) dX0_start_13 rfl (by assumption) ?_
  refine e_aload_n (pc := 14) dX0_start_14 rfl ?_
  refine e_getA (pc := 15) dX0_start_15 f_0_39 rfl rfl ?_
  refine e_iload_n (pc := 18) dX0_start_18 rfl ?_
  refine e_iload (pc := 19) dX0_start_19 rfl ?_
  first | refine e_iastN (pc := 21) dX0_start_21 rfl (by omega) (by decide) ?_ | refine e_iast (pc := 21) dX0_start_21 rfl (by assumption) ?_
  refine e_aload_n (pc := 22) dX0_start_22 rfl ?_
  refine e_getA (pc := 23) dX0_start_23 f_0_45 rfl rfl ?_
  refine e_iload_n (pc := 26) dX0_start_26 rfl ?_
  refine e_iload_n (pc := 27) dX0_start_27 rfl ?_
  refine e_aload_n (pc := 28) dX0_start_28 rfl ?_
  refine e_getA (pc := 29) dX0_start_29 f_0_33 rfl rfl ?_
  refine e_iload_n (pc := 32) dX0_start_32 rfl ?_
  first | refine e_ialdN (pc := 33) dX0_start_33 rfl (by omega) (by decide) ?_ | refine e_iald (pc := 33) dX0_start_33 rfl (by assumption) ?_
  refine e_isub (pc := 34) dX0_start_34 ?_
  first | refine e_iastN (pc := 35) dX0_start_35 rfl (by omega) (by decide) ?_ | refine e_iast (pc := 35) dX0_start_35 rfl (by assumption) ?_
  refine e_aload_n (pc := 36) dX0_start_36 rfl ?_
  refine e_getA (pc := 37) dX0_start_37 f_0_42 rfl rfl ?_
  refine e_iload_n (pc := 40) dX0_start_40 rfl ?_
  first | refine e_ialdN (pc := 41) dX0_start_41 rfl (by omega) (by decide) ?_ | refine e_iald (pc := 41) dX0_start_41 rfl (by assumption) ?_
  refine e_if_ge (pc := 42) (tgt := 57) dX0_start_42 (by decide) (fun hc_42 => ?_) (fun hc_42 => ?_)
  · refine r_vret (pc := 57) dX0_start_57 rfl ?_
    unfold c_start
    first | (rw [if_pos (by grind [cr_rd])]; simp [cr_rd]; done) | (rw [if_neg (by grind [cr_rd])]; simp [cr_rd])
  · refine e_aload_n (pc := 45) dX0_start_45 rfl ?_
    refine e_getA (pc := 46) dX0_start_46 f_0_42 rfl rfl ?_
    refine e_iload_n (pc := 49) dX0_start_49 rfl ?_
    refine e_aload_n (pc := 50) dX0_start_50 rfl ?_
    refine e_getA (pc := 51) dX0_start_51 f_0_45 rfl rfl ?_
    refine e_iload_n (pc := 54) dX0_start_54 rfl ?_
    first | refine e_ialdN (pc := 55) dX0_start_55 rfl (by omega) (by decide) ?_ | refine e_iald (pc := 55) dX0_start_55 rfl (by assumption) ?_
    first | refine e_iastN (pc := 56) dX0_start_56 rfl (by omega) (by decide) ?_ | refine e_iast (pc := 56) dX0_start_56 rfl (by assumption) ?_
    refine r_vret (pc := 57) dX0_start_57 rfl ?_
    unfold c_start
    first | (rw [if_pos (by grind [cr_rd])]; simp [cr_rd]; done) | (rw [if_neg (by grind [cr_rd])]; simp [cr_rd])
set_option maxHeartbeats 1000000 in
theorem ev_X0_nextChange (M : cr_M) {k : Nat} (t p : Int32) (hk : k < 200) : cr_EvM Y_X0_nextChange [.inr (.inr 0), .inl (nI k), .inl t, .inl p] M (some (.inl (c_nc M k t p)), M) := by
  refine e_aload_n (pc := 0) dX0_nextChange_0 rfl ?_
  refine e_getA (pc := 1) dX0_nextChange_1 f_0_9 rfl rfl ?_
  refine e_iload_n (pc := 4) dX0_nextChange_4 rfl ?_
  first | refine e_ialdN (pc := 5) dX0_nextChange_5 rfl (by omega) (by decide) ?_ | refine e_iald (pc := 5) dX0_nextChange_5 rfl (by assumption) ?_
  refine e_iconst (pc := 6) (v := 1) dX0_nextChange_6 (by decide) ?_
  refine e_icmp_eq (pc := 7) (tgt := 20) dX0_nextChange_7 (by decide) (fun hc_7 => ?_) (fun hc_7 => ?_)
  · refine e_aload_n (pc := 20) dX0_nextChange_20 rfl ?_
    refine e_getA (pc := 21) dX0_nextChange_21 f_0_39 rfl rfl ?_
    refine e_iload_n (pc := 24) dX0_nextChange_24 rfl ?_
    first | refine e_ialdN (pc := 25) dX0_nextChange_25 rfl (by omega) (by decide) ?_ | refine e_iald (pc := 25) dX0_nextChange_25 rfl (by assumption) ?_
    refine r_iret (pc := 26) dX0_nextChange_26 rfl ?_
    exact rt_i (by unfold c_nc; grind)
  · refine e_aload_n (pc := 10) dX0_nextChange_10 rfl ?_
    refine e_getA (pc := 11) dX0_nextChange_11 f_0_9 rfl rfl ?_
    refine e_iload_n (pc := 14) dX0_nextChange_14 rfl ?_
    first | refine e_ialdN (pc := 15) dX0_nextChange_15 rfl (by omega) (by decide) ?_ | refine e_iald (pc := 15) dX0_nextChange_15 rfl (by assumption) ?_
    refine e_iconst (pc := 16) (v := 4) dX0_nextChange_16 (by decide) ?_
    refine e_icmp_ne (pc := 17) (tgt := 27) dX0_nextChange_17 (by decide) (fun hc_17 => ?_) (fun hc_17 => ?_)
    · refine e_aload_n (pc := 27) dX0_nextChange_27 rfl ?_
      refine e_getA (pc := 28) dX0_nextChange_28 f_0_9 rfl rfl ?_
      refine e_iload_n (pc := 31) dX0_nextChange_31 rfl ?_
      first | refine e_ialdN (pc := 32) dX0_nextChange_32 rfl (by omega) (by decide) ?_ | refine e_iald (pc := 32) dX0_nextChange_32 rfl (by assumption) ?_
      refine e_if_eq (pc := 33) (tgt := 39) dX0_nextChange_33 (by decide) (fun hc_33 => ?_) (fun hc_33 => ?_)
      · refine e_aload_n (pc := 39) dX0_nextChange_39 rfl ?_
        refine e_getA (pc := 40) dX0_nextChange_40 f_0_33 rfl rfl ?_
        refine e_iload_n (pc := 43) dX0_nextChange_43 rfl ?_
        first | refine e_ialdN (pc := 44) dX0_nextChange_44 rfl (by omega) (by decide) ?_ | refine e_iald (pc := 44) dX0_nextChange_44 rfl (by assumption) ?_
        refine e_aload_n (pc := 45) dX0_nextChange_45 rfl ?_
        refine e_getA (pc := 46) dX0_nextChange_46 f_0_27 rfl rfl ?_
        refine e_iload_n (pc := 49) dX0_nextChange_49 rfl ?_
        first | refine e_ialdN (pc := 50) dX0_nextChange_50 rfl (by omega) (by decide) ?_ | refine e_iald (pc := 50) dX0_nextChange_50 rfl (by assumption) ?_
        refine e_iadd (pc := 51) dX0_nextChange_51 ?_
        refine e_iconst (pc := 52) (v := 1) dX0_nextChange_52 (by decide) ?_
        refine e_iadd (pc := 53) dX0_nextChange_53 ?_
        refine e_istore (pc := 54) dX0_nextChange_54 (by decide) ?_
        refine e_aload_n (pc := 56) dX0_nextChange_56 rfl ?_
        refine e_getA (pc := 57) dX0_nextChange_57 f_0_33 rfl rfl ?_
        refine e_iload_n (pc := 60) dX0_nextChange_60 rfl ?_
        first | refine e_ialdN (pc := 61) dX0_nextChange_61 rfl (by omega) (by decide) ?_ | refine e_iald (pc := 61) dX0_nextChange_61 rfl (by assumption) ?_
        refine e_iload_n (pc := 62) dX0_nextChange_62 rfl ?_
        refine e_iadd (pc := 63) dX0_nextChange_63 ?_
        refine e_istore (pc := 64) dX0_nextChange_64 (by decide) ?_
        refine e_aload_n (pc := 66) dX0_nextChange_66 rfl ?_
        refine e_getA (pc := 67) dX0_nextChange_67 f_0_15 rfl rfl ?_
        refine e_iload_n (pc := 70) dX0_nextChange_70 rfl ?_
        first | refine e_ialdN (pc := 71) dX0_nextChange_71 rfl (by omega) (by decide) ?_ | refine e_iald (pc := 71) dX0_nextChange_71 rfl (by assumption) ?_
        refine e_iconst (pc := 72) (v := 1) dX0_nextChange_72 (by decide) ?_
        refine e_icmp_ne (pc := 73) (tgt := 92) dX0_nextChange_73 (by decide) (fun hc_73 => ?_) (fun hc_73 => ?_)
        · refine e_iload (pc := 92) dX0_nextChange_92 rfl ?_
          refine r_iret (pc := 94) dX0_nextChange_94 rfl ?_
          exact rt_i (by unfold c_nc; grind)
        · refine e_iload (pc := 76) dX0_nextChange_76 rfl ?_
          refine e_iload_n (pc := 78) dX0_nextChange_78 rfl ?_
          refine e_icmp_le (pc := 79) (tgt := 92) dX0_nextChange_79 (by decide) (fun hc_79 => ?_) (fun hc_79 => ?_)
          · refine e_iload (pc := 92) dX0_nextChange_92 rfl ?_
            refine r_iret (pc := 94) dX0_nextChange_94 rfl ?_
            exact rt_i (by unfold c_nc; grind)
          · refine e_iload (pc := 82) dX0_nextChange_82 rfl ?_
            refine e_iload (pc := 84) dX0_nextChange_84 rfl ?_
            refine e_mmin (pc := 86) dX0_nextChange_86 cm_X0_nextChange_57 cm_min (by decide) (by decide) (Nat.le_of_ble_eq_true rfl) ?_
            refine e_goto (pc := 89) (tgt := 94) dX0_nextChange_89 (by decide) ?_
            refine r_iret (pc := 94) dX0_nextChange_94 rfl ?_
            exact rt_i (by unfold c_nc; grind)
      · refine e_ldc (pc := 36) (v := (2147483647 : Int32)) dX0_nextChange_36 (cr_in (i := 458) (by decide +kernel) rfl) ?_
        refine r_iret (pc := 38) dX0_nextChange_38 rfl ?_
        exact rt_i (by unfold c_nc; grind)
    · refine e_aload_n (pc := 20) dX0_nextChange_20 rfl ?_
      refine e_getA (pc := 21) dX0_nextChange_21 f_0_39 rfl rfl ?_
      refine e_iload_n (pc := 24) dX0_nextChange_24 rfl ?_
      first | refine e_ialdN (pc := 25) dX0_nextChange_25 rfl (by omega) (by decide) ?_ | refine e_iald (pc := 25) dX0_nextChange_25 rfl (by assumption) ?_
      refine r_iret (pc := 26) dX0_nextChange_26 rfl ?_
      exact rt_i (by unfold c_nc; grind)
set_option maxHeartbeats 1000000 in
theorem lp_X0_ringBackDue {cn : Nat} {M : cr_M} {x : Int32} (hsz : M 0 0 = nI cn) (h10 : cn ≤ 200) : ∀ (n j : Nat) (Mc : cr_M), j + n = cn → (Mc = c_ring j x M) → cr_Ev Y_X0_ringBackDue 2 [(2, .inl (nI j)), (0, .inr (.inr 0)), (1, .inl x)] [] Mc (none, c_ring cn x M) := by
  intro n
  induction n with
  | zero =>
    intro j Mc hj hM
    subst hM
    refine e_iload_n (pc := 2) dX0_ringBackDue_2 rfl ?_
    refine e_aload_n (pc := 3) dX0_ringBackDue_3 rfl ?_
    refine e_getI (pc := 4) dX0_ringBackDue_4 f_0_48 rfl rfl ?_
    refine e_icmp_ge (pc := 7) (tgt := 42) dX0_ringBackDue_7 (by decide) (fun hc_7 => ?_) (fun hc_7 => ?_)
    · refine r_vret (pc := 42) dX0_ringBackDue_42 rfl ?_
      rw [show j = cn by omega]
    · exact absurd (show M 0 0 ≤ nI j by rw [hsz]; exact nI_le (by omega) (by omega)) (by assumption)
  | succ n ih =>
    intro j Mc hj hM
    subst hM
    refine e_iload_n (pc := 2) dX0_ringBackDue_2 rfl ?_
    refine e_aload_n (pc := 3) dX0_ringBackDue_3 rfl ?_
    refine e_getI (pc := 4) dX0_ringBackDue_4 f_0_48 rfl rfl ?_
    refine e_icmp_ge (pc := 7) (tgt := 42) dX0_ringBackDue_7 (by decide) (fun hc_7 => ?_) (fun hc_7 => ?_)
    · exact absurd (show M 0 0 ≤ nI j by assumption) (by rw [hsz]; exact nI_ge (by omega) (by omega))
    · refine e_aload_n (pc := 10) dX0_ringBackDue_10 rfl ?_
      refine e_getA (pc := 11) dX0_ringBackDue_11 f_0_9 rfl rfl ?_
      refine e_iload_n (pc := 14) dX0_ringBackDue_14 rfl ?_
      first | refine e_ialdN (pc := 15) dX0_ringBackDue_15 rfl (by omega) (by decide) ?_ | refine e_iald (pc := 15) dX0_ringBackDue_15 rfl (by assumption) ?_
      refine e_iconst (pc := 16) (v := 4) dX0_ringBackDue_16 (by decide) ?_
      refine e_icmp_ne (pc := 17) (tgt := 36) dX0_ringBackDue_17 (by decide) (fun hc_17 => ?_) (fun hc_17 => ?_)
      · first | refine e_iinc1 (pc := 36) dX0_ringBackDue_36 rfl (by decide) ?_ | refine e_iincp (pc := 36) dX0_ringBackDue_36 rfl (by decide) ?_
        refine e_goto (pc := 39) (tgt := 2) dX0_ringBackDue_39 (by decide) ?_
        exact e_wk (ih (j + 1) _ (by omega) (by clear ih; funext q i; simp only [cr_rd, c_ring, c_wait] at *; grind (splits := 20))) ⟨rfl, rfl, rfl, trivial⟩
      · refine e_aload_n (pc := 20) dX0_ringBackDue_20 rfl ?_
        refine e_getA (pc := 21) dX0_ringBackDue_21 f_0_39 rfl rfl ?_
        refine e_iload_n (pc := 24) dX0_ringBackDue_24 rfl ?_
        first | refine e_ialdN (pc := 25) dX0_ringBackDue_25 rfl (by omega) (by decide) ?_ | refine e_iald (pc := 25) dX0_ringBackDue_25 rfl (by assumption) ?_
        refine e_iload_n (pc := 26) dX0_ringBackDue_26 rfl ?_
        refine e_icmp_gt (pc := 27) (tgt := 36) dX0_ringBackDue_27 (by decide) (fun hc_27 => ?_) (fun hc_27 => ?_)
        · first | refine e_iinc1 (pc := 36) dX0_ringBackDue_36 rfl (by decide) ?_ | refine e_iincp (pc := 36) dX0_ringBackDue_36 rfl (by decide) ?_
          refine e_goto (pc := 39) (tgt := 2) dX0_ringBackDue_39 (by decide) ?_
          exact e_wk (ih (j + 1) _ (by omega) (by clear ih; funext q i; simp only [cr_rd, c_ring, c_wait] at *; grind (splits := 20))) ⟨rfl, rfl, rfl, trivial⟩
        · refine e_aload_n (pc := 30) dX0_ringBackDue_30 rfl ?_
          refine e_iload_n (pc := 31) dX0_ringBackDue_31 rfl ?_
          refine e_iload_n (pc := 32) dX0_ringBackDue_32 rfl ?_
          refine e_self2v (pc := 33) dX0_ringBackDue_33 cs_X0_ringBackDue_52 cv_X0_waitAgain rc_X0_waitAgain rfl (by decide) (Nat.le_of_ble_eq_true rfl) (ev_X0_waitAgain _ _ (by omega)) ?_
          first | refine e_iinc1 (pc := 36) dX0_ringBackDue_36 rfl (by decide) ?_ | refine e_iincp (pc := 36) dX0_ringBackDue_36 rfl (by decide) ?_
          refine e_goto (pc := 39) (tgt := 2) dX0_ringBackDue_39 (by decide) ?_
          exact e_wk (ih (j + 1) _ (by omega) (by clear ih; funext q i; simp only [cr_rd, c_ring, c_wait] at *; grind (splits := 20))) ⟨rfl, rfl, rfl, trivial⟩
set_option maxHeartbeats 1000000 in
theorem ev_X0_ringBackDue {cn : Nat} {M : cr_M} (x : Int32) (hsz : M 0 0 = nI cn) (h10 : cn ≤ 200) : cr_EvM Y_X0_ringBackDue [.inr (.inr 0), .inl x] M (none, c_ring cn x M) := by
  refine e_iconst (pc := 0) (v := 0) dX0_ringBackDue_0 (by decide) ?_
  refine e_istore_n (pc := 1) dX0_ringBackDue_1 (by decide) ?_
  exact e_wk (lp_X0_ringBackDue hsz h10 cn 0 M (by omega) (by funext q i; simp [c_ring])) ⟨rfl, rfl, rfl, trivial⟩
set_option maxHeartbeats 1000000 in
theorem lp_X0_loseImpatient {cn : Nat} {M : cr_M} {x : Int32} (hsz : M 0 0 = nI cn) (h10 : cn ≤ 200) : ∀ (n j : Nat) (Mc : cr_M), j + n = cn → (Mc = c_lose j x M) → cr_Ev Y_X0_loseImpatient 2 [(2, .inl (nI j)), (0, .inr (.inr 0)), (1, .inl x)] [] Mc (none, c_lose cn x M) := by
  intro n
  induction n with
  | zero =>
    intro j Mc hj hM
    subst hM
    refine e_iload_n (pc := 2) dX0_loseImpatient_2 rfl ?_
    refine e_aload_n (pc := 3) dX0_loseImpatient_3 rfl ?_
    refine e_getI (pc := 4) dX0_loseImpatient_4 f_0_48 rfl rfl ?_
    refine e_icmp_ge (pc := 7) (tgt := 49) dX0_loseImpatient_7 (by decide) (fun hc_7 => ?_) (fun hc_7 => ?_)
    · refine r_vret (pc := 49) dX0_loseImpatient_49 rfl ?_
      rw [show j = cn by omega]
    · exact absurd (show M 0 0 ≤ nI j by rw [hsz]; exact nI_le (by omega) (by omega)) (by assumption)
  | succ n ih =>
    intro j Mc hj hM
    subst hM
    refine e_iload_n (pc := 2) dX0_loseImpatient_2 rfl ?_
    refine e_aload_n (pc := 3) dX0_loseImpatient_3 rfl ?_
    refine e_getI (pc := 4) dX0_loseImpatient_4 f_0_48 rfl rfl ?_
    refine e_icmp_ge (pc := 7) (tgt := 49) dX0_loseImpatient_7 (by decide) (fun hc_7 => ?_) (fun hc_7 => ?_)
    · exact absurd (show M 0 0 ≤ nI j by assumption) (by rw [hsz]; exact nI_ge (by omega) (by omega))
    · refine e_aload_n (pc := 10) dX0_loseImpatient_10 rfl ?_
      refine e_getA (pc := 11) dX0_loseImpatient_11 f_0_9 rfl rfl ?_
      refine e_iload_n (pc := 14) dX0_loseImpatient_14 rfl ?_
      first | refine e_ialdN (pc := 15) dX0_loseImpatient_15 rfl (by omega) (by decide) ?_ | refine e_iald (pc := 15) dX0_loseImpatient_15 rfl (by assumption) ?_
      refine e_if_ne (pc := 16) (tgt := 43) dX0_loseImpatient_16 (by decide) (fun hc_16 => ?_) (fun hc_16 => ?_)
      · first | refine e_iinc1 (pc := 43) dX0_loseImpatient_43 rfl (by decide) ?_ | refine e_iincp (pc := 43) dX0_loseImpatient_43 rfl (by decide) ?_
        refine e_goto (pc := 46) (tgt := 2) dX0_loseImpatient_46 (by decide) ?_
        exact e_wk (ih (j + 1) _ (by omega) (by funext q i; simp only [cr_rd, c_lose] at *; grind)) ⟨rfl, rfl, rfl, trivial⟩
      · refine e_iload_n (pc := 19) dX0_loseImpatient_19 rfl ?_
        refine e_aload_n (pc := 20) dX0_loseImpatient_20 rfl ?_
        refine e_getA (pc := 21) dX0_loseImpatient_21 f_0_33 rfl rfl ?_
        refine e_iload_n (pc := 24) dX0_loseImpatient_24 rfl ?_
        first | refine e_ialdN (pc := 25) dX0_loseImpatient_25 rfl (by omega) (by decide) ?_ | refine e_iald (pc := 25) dX0_loseImpatient_25 rfl (by assumption) ?_
        refine e_isub (pc := 26) dX0_loseImpatient_26 ?_
        refine e_aload_n (pc := 27) dX0_loseImpatient_27 rfl ?_
        refine e_getA (pc := 28) dX0_loseImpatient_28 f_0_27 rfl rfl ?_
        refine e_iload_n (pc := 31) dX0_loseImpatient_31 rfl ?_
        first | refine e_ialdN (pc := 32) dX0_loseImpatient_32 rfl (by omega) (by decide) ?_ | refine e_iald (pc := 32) dX0_loseImpatient_32 rfl (by assumption) ?_
        refine e_icmp_le (pc := 33) (tgt := 43) dX0_loseImpatient_33 (by decide) (fun hc_33 => ?_) (fun hc_33 => ?_)
        · first | refine e_iinc1 (pc := 43) dX0_loseImpatient_43 rfl (by decide) ?_ | refine e_iincp (pc := 43) dX0_loseImpatient_43 rfl (by decide) ?_
          refine e_goto (pc := 46) (tgt := 2) dX0_loseImpatient_46 (by decide) ?_
          exact e_wk (ih (j + 1) _ (by omega) (by funext q i; simp only [cr_rd, c_lose] at *; grind)) ⟨rfl, rfl, rfl, trivial⟩
        · refine e_aload_n (pc := 36) dX0_loseImpatient_36 rfl ?_
          refine e_getA (pc := 37) dX0_loseImpatient_37 f_0_9 rfl rfl ?_
          refine e_iload_n (pc := 40) dX0_loseImpatient_40 rfl ?_
          refine e_iconst (pc := 41) (v := 3) dX0_loseImpatient_41 (by decide) ?_
          first | refine e_iastN (pc := 42) dX0_loseImpatient_42 rfl (by omega) (by decide) ?_ | refine e_iast (pc := 42) dX0_loseImpatient_42 rfl (by assumption) ?_
          first | refine e_iinc1 (pc := 43) dX0_loseImpatient_43 rfl (by decide) ?_ | refine e_iincp (pc := 43) dX0_loseImpatient_43 rfl (by decide) ?_
          refine e_goto (pc := 46) (tgt := 2) dX0_loseImpatient_46 (by decide) ?_
          exact e_wk (ih (j + 1) _ (by omega) (by funext q i; simp only [cr_rd, c_lose] at *; grind)) ⟨rfl, rfl, rfl, trivial⟩
set_option maxHeartbeats 1000000 in
theorem ev_X0_loseImpatient {cn : Nat} {M : cr_M} (x : Int32) (hsz : M 0 0 = nI cn) (h10 : cn ≤ 200) : cr_EvM Y_X0_loseImpatient [.inr (.inr 0), .inl x] M (none, c_lose cn x M) := by
  refine e_iconst (pc := 0) (v := 0) dX0_loseImpatient_0 (by decide) ?_
  refine e_istore_n (pc := 1) dX0_loseImpatient_1 (by decide) ?_
  exact e_wk (lp_X0_loseImpatient hsz h10 cn 0 M (by omega) (by funext q i; simp [c_lose])) ⟨rfl, rfl, rfl, trivial⟩
set_option maxHeartbeats 1000000 in
theorem lp_X0_firstWith {cn : Nat} {M : cr_M} {x : Int32} (hsz : M 0 0 = nI cn) (h10 : cn ≤ 200) : ∀ (n j : Nat), j + n = cn → cr_Ev Y_X0_firstWith 2 [(2, .inl (nI j)), (0, .inr (.inr 0)), (1, .inl x)] [] M (some (.inl (c_fw M x n j)), M) := by
  intro n
  induction n with
  | zero =>
    intro j hj 
    refine e_iload_n (pc := 2) dX0_firstWith_2 rfl ?_
    refine e_aload_n (pc := 3) dX0_firstWith_3 rfl ?_
    refine e_getI (pc := 4) dX0_firstWith_4 f_0_48 rfl rfl ?_
    refine e_icmp_ge (pc := 7) (tgt := 38) dX0_firstWith_7 (by decide) (fun hc_7 => ?_) (fun hc_7 => ?_)
    · refine e_bipush (pc := 38) (v := (-9)) dX0_firstWith_38 (by decide) ?_
      refine r_iret (pc := 40) dX0_firstWith_40 rfl ?_
      rfl
    · exact absurd (show M 0 0 ≤ nI j by rw [hsz]; exact nI_le (by omega) (by omega)) (by assumption)
  | succ n ih =>
    intro j hj 
    refine e_iload_n (pc := 2) dX0_firstWith_2 rfl ?_
    refine e_aload_n (pc := 3) dX0_firstWith_3 rfl ?_
    refine e_getI (pc := 4) dX0_firstWith_4 f_0_48 rfl rfl ?_
    refine e_icmp_ge (pc := 7) (tgt := 38) dX0_firstWith_7 (by decide) (fun hc_7 => ?_) (fun hc_7 => ?_)
    · exact absurd (show M 0 0 ≤ nI j by assumption) (by rw [hsz]; exact nI_ge (by omega) (by omega))
    · refine e_aload_n (pc := 10) dX0_firstWith_10 rfl ?_
      refine e_getA (pc := 11) dX0_firstWith_11 f_0_9 rfl rfl ?_
      refine e_iload_n (pc := 14) dX0_firstWith_14 rfl ?_
      first | refine e_ialdN (pc := 15) dX0_firstWith_15 rfl (by omega) (by decide) ?_ | refine e_iald (pc := 15) dX0_firstWith_15 rfl (by assumption) ?_
      refine e_iconst (pc := 16) (v := 1) dX0_firstWith_16 (by decide) ?_
      refine e_icmp_ne (pc := 17) (tgt := 32) dX0_firstWith_17 (by decide) (fun hc_17 => ?_) (fun hc_17 => ?_)
      · first | refine e_iinc1 (pc := 32) dX0_firstWith_32 rfl (by decide) ?_ | refine e_iincp (pc := 32) dX0_firstWith_32 rfl (by decide) ?_
        refine e_goto (pc := 35) (tgt := 2) dX0_firstWith_35 (by decide) ?_
        rw [show c_fw M x (n + 1) j = c_fw M x n (j + 1) by simp only [c_fw]; grind]
        exact e_wk (ih (j + 1) (by omega)) ⟨rfl, rfl, rfl, trivial⟩
      · refine e_aload_n (pc := 20) dX0_firstWith_20 rfl ?_
        refine e_getA (pc := 21) dX0_firstWith_21 f_0_36 rfl rfl ?_
        refine e_iload_n (pc := 24) dX0_firstWith_24 rfl ?_
        first | refine e_ialdN (pc := 25) dX0_firstWith_25 rfl (by omega) (by decide) ?_ | refine e_iald (pc := 25) dX0_firstWith_25 rfl (by assumption) ?_
        refine e_iload_n (pc := 26) dX0_firstWith_26 rfl ?_
        refine e_icmp_ne (pc := 27) (tgt := 32) dX0_firstWith_27 (by decide) (fun hc_27 => ?_) (fun hc_27 => ?_)
        · first | refine e_iinc1 (pc := 32) dX0_firstWith_32 rfl (by decide) ?_ | refine e_iincp (pc := 32) dX0_firstWith_32 rfl (by decide) ?_
          refine e_goto (pc := 35) (tgt := 2) dX0_firstWith_35 (by decide) ?_
          rw [show c_fw M x (n + 1) j = c_fw M x n (j + 1) by simp only [c_fw]; grind]
          exact e_wk (ih (j + 1) (by omega)) ⟨rfl, rfl, rfl, trivial⟩
        · refine e_iload_n (pc := 30) dX0_firstWith_30 rfl ?_
          refine r_iret (pc := 31) dX0_firstWith_31 rfl ?_
          exact rt_i (by simp only [c_fw]; grind)
set_option maxHeartbeats 1000000 in
theorem ev_X0_firstWith {cn : Nat} {M : cr_M} (x : Int32) (hsz : M 0 0 = nI cn) (h10 : cn ≤ 200) : cr_EvM Y_X0_firstWith [.inr (.inr 0), .inl x] M (some (.inl (c_fw M x cn 0)), M) := by
  refine e_iconst (pc := 0) (v := 0) dX0_firstWith_0 (by decide) ?_
  refine e_istore_n (pc := 1) dX0_firstWith_1 (by decide) ?_
  exact e_wk (lp_X0_firstWith hsz h10 cn 0 (by omega)) ⟨rfl, rfl, rfl, trivial⟩
set_option maxHeartbeats 1000000 in
theorem lp_X0_givenWithin {cn : Nat} {M : cr_M} {x : Int32} (hsz : M 0 0 = nI cn) (h10 : cn ≤ 200) : ∀ (n j : Nat) (z : Int32), j + n = cn → (z = c_gw M x j) → cr_Ev Y_X0_givenWithin 4 [(3, .inl (nI j)), (0, .inr (.inr 0)), (1, .inl x), (2, .inl z)] [] M (some (.inl (c_gw M x cn)), M) := by
  intro n
  induction n with
  | zero =>
    intro j z hj hx
    refine e_iload_n (pc := 4) dX0_givenWithin_4 rfl ?_
    refine e_aload_n (pc := 5) dX0_givenWithin_5 rfl ?_
    refine e_getI (pc := 6) dX0_givenWithin_6 f_0_48 rfl rfl ?_
    refine e_icmp_ge (pc := 9) (tgt := 40) dX0_givenWithin_9 (by decide) (fun hc_9 => ?_) (fun hc_9 => ?_)
    · refine e_iload_n (pc := 40) dX0_givenWithin_40 rfl ?_
      refine r_iret (pc := 41) dX0_givenWithin_41 rfl ?_
      rw [hx, show j = cn by omega]
    · exact absurd (show M 0 0 ≤ nI j by rw [hsz]; exact nI_le (by omega) (by omega)) (by assumption)
  | succ n ih =>
    intro j z hj hx
    refine e_iload_n (pc := 4) dX0_givenWithin_4 rfl ?_
    refine e_aload_n (pc := 5) dX0_givenWithin_5 rfl ?_
    refine e_getI (pc := 6) dX0_givenWithin_6 f_0_48 rfl rfl ?_
    refine e_icmp_ge (pc := 9) (tgt := 40) dX0_givenWithin_9 (by decide) (fun hc_9 => ?_) (fun hc_9 => ?_)
    · exact absurd (show M 0 0 ≤ nI j by assumption) (by rw [hsz]; exact nI_ge (by omega) (by omega))
    · refine e_aload_n (pc := 12) dX0_givenWithin_12 rfl ?_
      refine e_getA (pc := 13) dX0_givenWithin_13 f_0_42 rfl rfl ?_
      refine e_iload_n (pc := 16) dX0_givenWithin_16 rfl ?_
      first | refine e_ialdN (pc := 17) dX0_givenWithin_17 rfl (by omega) (by decide) ?_ | refine e_iald (pc := 17) dX0_givenWithin_17 rfl (by assumption) ?_
      refine e_if_lt (pc := 18) (tgt := 34) dX0_givenWithin_18 (by decide) (fun hc_18 => ?_) (fun hc_18 => ?_)
      · first | refine e_iinc1 (pc := 34) dX0_givenWithin_34 rfl (by decide) ?_ | refine e_iincp (pc := 34) dX0_givenWithin_34 rfl (by decide) ?_
        refine e_goto (pc := 37) (tgt := 4) dX0_givenWithin_37 (by decide) ?_
        exact e_wk (ih (j + 1) _ (by omega) (by subst hx; simp only [c_gw]; grind)) ⟨rfl, rfl, rfl, rfl, trivial⟩
      · refine e_aload_n (pc := 21) dX0_givenWithin_21 rfl ?_
        refine e_getA (pc := 22) dX0_givenWithin_22 f_0_42 rfl rfl ?_
        refine e_iload_n (pc := 25) dX0_givenWithin_25 rfl ?_
        first | refine e_ialdN (pc := 26) dX0_givenWithin_26 rfl (by omega) (by decide) ?_ | refine e_iald (pc := 26) dX0_givenWithin_26 rfl (by assumption) ?_
        refine e_iload_n (pc := 27) dX0_givenWithin_27 rfl ?_
        refine e_icmp_gt (pc := 28) (tgt := 34) dX0_givenWithin_28 (by decide) (fun hc_28 => ?_) (fun hc_28 => ?_)
        · first | refine e_iinc1 (pc := 34) dX0_givenWithin_34 rfl (by decide) ?_ | refine e_iincp (pc := 34) dX0_givenWithin_34 rfl (by decide) ?_
          refine e_goto (pc := 37) (tgt := 4) dX0_givenWithin_37 (by decide) ?_
          exact e_wk (ih (j + 1) _ (by omega) (by subst hx; simp only [c_gw]; grind)) ⟨rfl, rfl, rfl, rfl, trivial⟩
        · first | refine e_iinc1 (pc := 31) dX0_givenWithin_31 rfl (by decide) ?_ | refine e_iincp (pc := 31) dX0_givenWithin_31 rfl (by decide) ?_
          first | refine e_iinc1 (pc := 34) dX0_givenWithin_34 rfl (by decide) ?_ | refine e_iincp (pc := 34) dX0_givenWithin_34 rfl (by decide) ?_
          refine e_goto (pc := 37) (tgt := 4) dX0_givenWithin_37 (by decide) ?_
          exact e_wk (ih (j + 1) _ (by omega) (by subst hx; simp only [c_gw]; grind)) ⟨rfl, rfl, rfl, rfl, trivial⟩
set_option maxHeartbeats 1000000 in
theorem ev_X0_givenWithin {cn : Nat} {M : cr_M} (x : Int32) (hsz : M 0 0 = nI cn) (h10 : cn ≤ 200) : cr_EvM Y_X0_givenWithin [.inr (.inr 0), .inl x] M (some (.inl (c_gw M x cn)), M) := by
  refine e_iconst (pc := 0) (v := 0) dX0_givenWithin_0 (by decide) ?_
  refine e_istore_n (pc := 1) dX0_givenWithin_1 (by decide) ?_
  refine e_iconst (pc := 2) (v := 0) dX0_givenWithin_2 (by decide) ?_
  refine e_istore_n (pc := 3) dX0_givenWithin_3 (by decide) ?_
  exact e_wk (lp_X0_givenWithin hsz h10 cn 0 _ (by omega) rfl) ⟨rfl, rfl, rfl, rfl, trivial⟩
set_option maxHeartbeats 1000000 in
theorem lp_X0_countDoing {cn : Nat} {M : cr_M} {x : Int32} (hsz : M 0 0 = nI cn) (h10 : cn ≤ 200) : ∀ (n j : Nat) (z : Int32), j + n = cn → (z = c_cd M x j) → cr_Ev Y_X0_countDoing 4 [(3, .inl (nI j)), (0, .inr (.inr 0)), (1, .inl x), (2, .inl z)] [] M (some (.inl (c_cd M x cn)), M) := by
  intro n
  induction n with
  | zero =>
    intro j z hj hx
    refine e_iload_n (pc := 4) dX0_countDoing_4 rfl ?_
    refine e_aload_n (pc := 5) dX0_countDoing_5 rfl ?_
    refine e_getI (pc := 6) dX0_countDoing_6 f_0_48 rfl rfl ?_
    refine e_icmp_ge (pc := 9) (tgt := 31) dX0_countDoing_9 (by decide) (fun hc_9 => ?_) (fun hc_9 => ?_)
    · refine e_iload_n (pc := 31) dX0_countDoing_31 rfl ?_
      refine r_iret (pc := 32) dX0_countDoing_32 rfl ?_
      rw [hx, show j = cn by omega]
    · exact absurd (show M 0 0 ≤ nI j by rw [hsz]; exact nI_le (by omega) (by omega)) (by assumption)
  | succ n ih =>
    intro j z hj hx
    refine e_iload_n (pc := 4) dX0_countDoing_4 rfl ?_
    refine e_aload_n (pc := 5) dX0_countDoing_5 rfl ?_
    refine e_getI (pc := 6) dX0_countDoing_6 f_0_48 rfl rfl ?_
    refine e_icmp_ge (pc := 9) (tgt := 31) dX0_countDoing_9 (by decide) (fun hc_9 => ?_) (fun hc_9 => ?_)
    · exact absurd (show M 0 0 ≤ nI j by assumption) (by rw [hsz]; exact nI_ge (by omega) (by omega))
    · refine e_aload_n (pc := 12) dX0_countDoing_12 rfl ?_
      refine e_getA (pc := 13) dX0_countDoing_13 f_0_9 rfl rfl ?_
      refine e_iload_n (pc := 16) dX0_countDoing_16 rfl ?_
      first | refine e_ialdN (pc := 17) dX0_countDoing_17 rfl (by omega) (by decide) ?_ | refine e_iald (pc := 17) dX0_countDoing_17 rfl (by assumption) ?_
      refine e_iload_n (pc := 18) dX0_countDoing_18 rfl ?_
      refine e_icmp_ne (pc := 19) (tgt := 25) dX0_countDoing_19 (by decide) (fun hc_19 => ?_) (fun hc_19 => ?_)
      · first | refine e_iinc1 (pc := 25) dX0_countDoing_25 rfl (by decide) ?_ | refine e_iincp (pc := 25) dX0_countDoing_25 rfl (by decide) ?_
        refine e_goto (pc := 28) (tgt := 4) dX0_countDoing_28 (by decide) ?_
        exact e_wk (ih (j + 1) _ (by omega) (by subst hx; simp only [c_cd]; grind)) ⟨rfl, rfl, rfl, rfl, trivial⟩
      · first | refine e_iinc1 (pc := 22) dX0_countDoing_22 rfl (by decide) ?_ | refine e_iincp (pc := 22) dX0_countDoing_22 rfl (by decide) ?_
        first | refine e_iinc1 (pc := 25) dX0_countDoing_25 rfl (by decide) ?_ | refine e_iincp (pc := 25) dX0_countDoing_25 rfl (by decide) ?_
        refine e_goto (pc := 28) (tgt := 4) dX0_countDoing_28 (by decide) ?_
        exact e_wk (ih (j + 1) _ (by omega) (by subst hx; simp only [c_cd]; grind)) ⟨rfl, rfl, rfl, rfl, trivial⟩
set_option maxHeartbeats 1000000 in
theorem ev_X0_countDoing {cn : Nat} {M : cr_M} (x : Int32) (hsz : M 0 0 = nI cn) (h10 : cn ≤ 200) : cr_EvM Y_X0_countDoing [.inr (.inr 0), .inl x] M (some (.inl (c_cd M x cn)), M) := by
  refine e_iconst (pc := 0) (v := 0) dX0_countDoing_0 (by decide) ?_
  refine e_istore_n (pc := 1) dX0_countDoing_1 (by decide) ?_
  refine e_iconst (pc := 2) (v := 0) dX0_countDoing_2 (by decide) ?_
  refine e_istore_n (pc := 3) dX0_countDoing_3 (by decide) ?_
  exact e_wk (lp_X0_countDoing hsz h10 cn 0 _ (by omega) rfl) ⟨rfl, rfl, rfl, rfl, trivial⟩
set_option maxHeartbeats 1000000 in
theorem ev_X0_copyFrom (M : cr_M) {cn : Nat} (hsz : M 13 0 = nI cn) (h10 : cn ≤ 200) : cr_EvM Y_X0_copyFrom [.inr (.inr 0), .inr (.inr 13)] M (none, c_cpy cn M) := by
  have hcl : (M 13 0).toNatClampNeg = cn := by rw [hsz]; exact nI_clamp (by omega)
  have hsz0 : ¬ M 13 0 < 0 := by rw [hsz]; exact nI_pos (by omega)
  have hsz1 : (0 : Int32).toNatClampNeg + (M 13 0).toNatClampNeg ≤ 200 := by rw [hsz, nI_clamp (by omega)]; exact (by simpa using h10)
  refine e_aload_n (pc := 0) dX0_copyFrom_0 rfl ?_
  refine e_aload_n (pc := 1) dX0_copyFrom_1 rfl ?_
  refine e_getI (pc := 2) dX0_copyFrom_2 f_0_48 rfl rfl ?_
  refine e_put (pc := 5) dX0_copyFrom_5 f_0_48 p_0_0 rfl rfl ?_
  refine e_aload_n (pc := 8) dX0_copyFrom_8 rfl ?_
  refine e_getA (pc := 9) dX0_copyFrom_9 f_0_9 rfl rfl ?_
  refine e_iconst (pc := 12) (v := 0) dX0_copyFrom_12 (by decide) ?_
  refine e_aload_n (pc := 13) dX0_copyFrom_13 rfl ?_
  refine e_getA (pc := 14) dX0_copyFrom_14 f_0_9 rfl rfl ?_
  refine e_iconst (pc := 17) (v := 0) dX0_copyFrom_17 (by decide) ?_
  refine e_aload_n (pc := 18) dX0_copyFrom_18 rfl ?_
  refine e_getI (pc := 19) dX0_copyFrom_19 f_0_48 rfl rfl ?_
  refine e_acopy (pc := 22) dX0_copyFrom_22 ac_0_63 (by decide) (Nat.le_of_ble_eq_true rfl) rfl rfl (by decide) (by decide) hsz0 hsz1 hsz1 ?_
  refine e_aload_n (pc := 25) dX0_copyFrom_25 rfl ?_
  refine e_getA (pc := 26) dX0_copyFrom_26 f_0_15 rfl rfl ?_
  refine e_iconst (pc := 29) (v := 0) dX0_copyFrom_29 (by decide) ?_
  refine e_aload_n (pc := 30) dX0_copyFrom_30 rfl ?_
  refine e_getA (pc := 31) dX0_copyFrom_31 f_0_15 rfl rfl ?_
  refine e_iconst (pc := 34) (v := 0) dX0_copyFrom_34 (by decide) ?_
  refine e_aload_n (pc := 35) dX0_copyFrom_35 rfl ?_
  refine e_getI (pc := 36) dX0_copyFrom_36 f_0_48 rfl rfl ?_
  refine e_acopy (pc := 39) dX0_copyFrom_39 ac_0_63 (by decide) (Nat.le_of_ble_eq_true rfl) rfl rfl (by decide) (by decide) hsz0 hsz1 hsz1 ?_
  refine e_aload_n (pc := 42) dX0_copyFrom_42 rfl ?_
  refine e_getA (pc := 43) dX0_copyFrom_43 f_0_18 rfl rfl ?_
  refine e_iconst (pc := 46) (v := 0) dX0_copyFrom_46 (by decide) ?_
  refine e_aload_n (pc := 47) dX0_copyFrom_47 rfl ?_
  refine e_getA (pc := 48) dX0_copyFrom_48 f_0_18 rfl rfl ?_
  refine e_iconst (pc := 51) (v := 0) dX0_copyFrom_51 (by decide) ?_
  refine e_aload_n (pc := 52) dX0_copyFrom_52 rfl ?_
  refine e_getI (pc := 53) dX0_copyFrom_53 f_0_48 rfl rfl ?_
  refine e_acopy (pc := 56) dX0_copyFrom_56 ac_0_63 (by decide) (Nat.le_of_ble_eq_true rfl) rfl rfl (by decide) (by decide) hsz0 hsz1 hsz1 ?_
  refine e_aload_n (pc := 59) dX0_copyFrom_59 rfl ?_
  refine e_getA (pc := 60) dX0_copyFrom_60 f_0_21 rfl rfl ?_
  refine e_iconst (pc := 63) (v := 0) dX0_copyFrom_63 (by decide) ?_
  refine e_aload_n (pc := 64) dX0_copyFrom_64 rfl ?_
  refine e_getA (pc := 65) dX0_copyFrom_65 f_0_21 rfl rfl ?_
  refine e_iconst (pc := 68) (v := 0) dX0_copyFrom_68 (by decide) ?_
  refine e_aload_n (pc := 69) dX0_copyFrom_69 rfl ?_
  refine e_getI (pc := 70) dX0_copyFrom_70 f_0_48 rfl rfl ?_
  refine e_acopy (pc := 73) dX0_copyFrom_73 ac_0_63 (by decide) (Nat.le_of_ble_eq_true rfl) rfl rfl (by decide) (by decide) hsz0 hsz1 hsz1 ?_
  refine e_aload_n (pc := 76) dX0_copyFrom_76 rfl ?_
  refine e_getA (pc := 77) dX0_copyFrom_77 f_0_24 rfl rfl ?_
  refine e_iconst (pc := 80) (v := 0) dX0_copyFrom_80 (by decide) ?_
  refine e_aload_n (pc := 81) dX0_copyFrom_81 rfl ?_
  refine e_getA (pc := 82) dX0_copyFrom_82 f_0_24 rfl rfl ?_
  refine e_iconst (pc := 85) (v := 0) dX0_copyFrom_85 (by decide) ?_
  refine e_aload_n (pc := 86) dX0_copyFrom_86 rfl ?_
  refine e_getI (pc := 87) dX0_copyFrom_87 f_0_48 rfl rfl ?_
  refine e_acopy (pc := 90) dX0_copyFrom_90 ac_0_63 (by decide) (Nat.le_of_ble_eq_true rfl) rfl rfl (by decide) (by decide) hsz0 hsz1 hsz1 ?_
  refine e_aload_n (pc := 93) dX0_copyFrom_93 rfl ?_
  refine e_getA (pc := 94) dX0_copyFrom_94 f_0_27 rfl rfl ?_
  refine e_iconst (pc := 97) (v := 0) dX0_copyFrom_97 (by decide) ?_
  refine e_aload_n (pc := 98) dX0_copyFrom_98 rfl ?_
  refine e_getA (pc := 99) dX0_copyFrom_99 f_0_27 rfl rfl ?_
  refine e_iconst (pc := 102) (v := 0) dX0_copyFrom_102 (by decide) ?_
  refine e_aload_n (pc := 103) dX0_copyFrom_103 rfl ?_
  refine e_getI (pc := 104) dX0_copyFrom_104 f_0_48 rfl rfl ?_
  refine e_acopy (pc := 107) dX0_copyFrom_107 ac_0_63 (by decide) (Nat.le_of_ble_eq_true rfl) rfl rfl (by decide) (by decide) hsz0 hsz1 hsz1 ?_
  refine e_aload_n (pc := 110) dX0_copyFrom_110 rfl ?_
  refine e_getA (pc := 111) dX0_copyFrom_111 f_0_30 rfl rfl ?_
  refine e_iconst (pc := 114) (v := 0) dX0_copyFrom_114 (by decide) ?_
  refine e_aload_n (pc := 115) dX0_copyFrom_115 rfl ?_
  refine e_getA (pc := 116) dX0_copyFrom_116 f_0_30 rfl rfl ?_
  refine e_iconst (pc := 119) (v := 0) dX0_copyFrom_119 (by decide) ?_
  refine e_aload_n (pc := 120) dX0_copyFrom_120 rfl ?_
  refine e_getI (pc := 121) dX0_copyFrom_121 f_0_48 rfl rfl ?_
  refine e_acopy (pc := 124) dX0_copyFrom_124 ac_0_63 (by decide) (Nat.le_of_ble_eq_true rfl) rfl rfl (by decide) (by decide) hsz0 hsz1 hsz1 ?_
  refine e_aload_n (pc := 127) dX0_copyFrom_127 rfl ?_
  refine e_getA (pc := 128) dX0_copyFrom_128 f_0_33 rfl rfl ?_
  refine e_iconst (pc := 131) (v := 0) dX0_copyFrom_131 (by decide) ?_
  refine e_aload_n (pc := 132) dX0_copyFrom_132 rfl ?_
  refine e_getA (pc := 133) dX0_copyFrom_133 f_0_33 rfl rfl ?_
  refine e_iconst (pc := 136) (v := 0) dX0_copyFrom_136 (by decide) ?_
  refine e_aload_n (pc := 137) dX0_copyFrom_137 rfl ?_
  refine e_getI (pc := 138) dX0_copyFrom_138 f_0_48 rfl rfl ?_
  refine e_acopy (pc := 141) dX0_copyFrom_141 ac_0_63 (by decide) (Nat.le_of_ble_eq_true rfl) rfl rfl (by decide) (by decide) hsz0 hsz1 hsz1 ?_
  refine e_aload_n (pc := 144) dX0_copyFrom_144 rfl ?_
  refine e_getA (pc := 145) dX0_copyFrom_145 f_0_36 rfl rfl ?_
  refine e_iconst (pc := 148) (v := 0) dX0_copyFrom_148 (by decide) ?_
  refine e_aload_n (pc := 149) dX0_copyFrom_149 rfl ?_
  refine e_getA (pc := 150) dX0_copyFrom_150 f_0_36 rfl rfl ?_
  refine e_iconst (pc := 153) (v := 0) dX0_copyFrom_153 (by decide) ?_
  refine e_aload_n (pc := 154) dX0_copyFrom_154 rfl ?_
  refine e_getI (pc := 155) dX0_copyFrom_155 f_0_48 rfl rfl ?_
  refine e_acopy (pc := 158) dX0_copyFrom_158 ac_0_63 (by decide) (Nat.le_of_ble_eq_true rfl) rfl rfl (by decide) (by decide) hsz0 hsz1 hsz1 ?_
  refine e_aload_n (pc := 161) dX0_copyFrom_161 rfl ?_
  refine e_getA (pc := 162) dX0_copyFrom_162 f_0_39 rfl rfl ?_
  refine e_iconst (pc := 165) (v := 0) dX0_copyFrom_165 (by decide) ?_
  refine e_aload_n (pc := 166) dX0_copyFrom_166 rfl ?_
  refine e_getA (pc := 167) dX0_copyFrom_167 f_0_39 rfl rfl ?_
  refine e_iconst (pc := 170) (v := 0) dX0_copyFrom_170 (by decide) ?_
  refine e_aload_n (pc := 171) dX0_copyFrom_171 rfl ?_
  refine e_getI (pc := 172) dX0_copyFrom_172 f_0_48 rfl rfl ?_
  refine e_acopy (pc := 175) dX0_copyFrom_175 ac_0_63 (by decide) (Nat.le_of_ble_eq_true rfl) rfl rfl (by decide) (by decide) hsz0 hsz1 hsz1 ?_
  refine e_aload_n (pc := 178) dX0_copyFrom_178 rfl ?_
  refine e_getA (pc := 179) dX0_copyFrom_179 f_0_42 rfl rfl ?_
  refine e_iconst (pc := 182) (v := 0) dX0_copyFrom_182 (by decide) ?_
  refine e_aload_n (pc := 183) dX0_copyFrom_183 rfl ?_
  refine e_getA (pc := 184) dX0_copyFrom_184 f_0_42 rfl rfl ?_
  refine e_iconst (pc := 187) (v := 0) dX0_copyFrom_187 (by decide) ?_
  refine e_aload_n (pc := 188) dX0_copyFrom_188 rfl ?_
  refine e_getI (pc := 189) dX0_copyFrom_189 f_0_48 rfl rfl ?_
  refine e_acopy (pc := 192) dX0_copyFrom_192 ac_0_63 (by decide) (Nat.le_of_ble_eq_true rfl) rfl rfl (by decide) (by decide) hsz0 hsz1 hsz1 ?_
  refine e_aload_n (pc := 195) dX0_copyFrom_195 rfl ?_
  refine e_getA (pc := 196) dX0_copyFrom_196 f_0_45 rfl rfl ?_
  refine e_iconst (pc := 199) (v := 0) dX0_copyFrom_199 (by decide) ?_
  refine e_aload_n (pc := 200) dX0_copyFrom_200 rfl ?_
  refine e_getA (pc := 201) dX0_copyFrom_201 f_0_45 rfl rfl ?_
  refine e_iconst (pc := 204) (v := 0) dX0_copyFrom_204 (by decide) ?_
  refine e_aload_n (pc := 205) dX0_copyFrom_205 rfl ?_
  refine e_getI (pc := 206) dX0_copyFrom_206 f_0_48 rfl rfl ?_
  refine e_acopy (pc := 209) dX0_copyFrom_209 ac_0_63 (by decide) (Nat.le_of_ble_eq_true rfl) rfl rfl (by decide) (by decide) hsz0 hsz1 hsz1 ?_
  refine r_vret (pc := 212) dX0_copyFrom_212 rfl ?_
  refine congrArg (fun z => ((none, z) : Option cr_AV × cr_M)) ?_
  funext q i
  rcases q with _ | _ | _ | _ | _ | _ | _ | _ | _ | _ | _ | _ | _ | q <;> simp [c_cpy, va_up, va_cpy, cr_up, upd, hcl]
end
section
/-! what the reference's memory N means: pure functions on it (hn helpers, cn calls) -/
theorem bI_congr {p q : Prop} (h : p ↔ q) : bI p = bI q := by rw [propext h]
abbrev n_s (N : cr_M) (c : Nat) : Nat := (N 11 c).toNatClampNeg
def n_may (N : cr_M) (k c : Nat) : Prop := N 16 c = 0 ∧ ¬ N 4 (4 * k + n_s N c) = 0 ∧ (N 5 k = 1 ∨ (N 5 k = 2 ∧ N 10 c = 3 ∧ ¬ N 24 k = 0 ∧ N 22 k < 3)) ∧ (¬ N 10 c = 1 ∨ N 0 7 ≤ N 0 3 - N 17 c ∨ N 15 c = nI k)
def n_tk (hn : Nat) (N : cr_M) (c : Nat) : Prop := ∃ k, k < hn ∧ n_may N k c
noncomputable def n_ff (N : cr_M) (s : Nat) : Nat → Int32
  | 0 => 0
  | k + 1 => n_ff N s k + bI (N 5 k = 1 ∧ 0 < N 4 (4 * k + s))
noncomputable def n_rk (hn : Nat) (N : cr_M) (c : Nat) : Int32 :=
  if N 0 6 = 1 then (if N 10 c = 2 then 0 else 1) else if N 0 6 = 2 then n_ff N (n_s N c) hn else if N 0 6 = 3 then N 13 c - (N 0 3 - N 17 c) else 0
/-- of those with P the one that no later one passes by lt -/
noncomputable def s_fo (P : Nat → Prop) (lt : Nat → Nat → Prop) : Nat → Option Nat
  | 0 => none
  | j + 1 => @ite _ (P j ∧ ∀ b, s_fo P lt j = some b → lt j b) (Classical.propDecidable _) (some j) (s_fo P lt j)
theorem s_fo_t {P : Nat → Prop} {lt : Nat → Nat → Prop} {j : Nat} (h : P j) (h2 : ∀ b, s_fo P lt j = some b → lt j b) : s_fo P lt (j + 1) = some j := by
  rw [s_fo, if_pos ⟨h, h2⟩]
theorem s_fo_f {P : Nat → Prop} {lt : Nat → Nat → Prop} {j : Nat} (h : ¬ (P j ∧ ∀ b, s_fo P lt j = some b → lt j b)) : s_fo P lt (j + 1) = s_fo P lt j := by
  rw [s_fo, if_neg h]
theorem s_fo_lt {P : Nat → Prop} {lt : Nat → Nat → Prop} {j b : Nat} (h : s_fo P lt j = some b) : b < j ∧ P b := by
  induction j with
  | zero => cases h
  | succ j ih =>
    by_cases hc : P j ∧ ∀ b, s_fo P lt j = some b → lt j b
    · rw [s_fo_t hc.1 hc.2] at h
      cases h
      exact ⟨by omega, hc.1⟩
    · rw [s_fo_f hc] at h
      obtain ⟨h1, h2⟩ := ih h
      exact ⟨by omega, h2⟩
theorem s_fo_none {P : Nat → Prop} {lt : Nat → Nat → Prop} {n : Nat} (h : s_fo P lt n = none) : ∀ i, i < n → ¬ P i := by
  induction n with
  | zero => intro i hi; omega
  | succ n ih =>
    intro i hi
    by_cases hc : P n ∧ ∀ b, s_fo P lt n = some b → lt n b
    · rw [s_fo_t hc.1 hc.2] at h
      cases h
    · rw [s_fo_f hc] at h
      rcases Nat.lt_or_ge i n with q | q
      · exact ih h i q
      · have hi2 : i = n := by omega
        subst hi2
        intro hp
        exact hc ⟨hp, fun b hb => by rw [h] at hb; cases hb⟩
theorem s_fo_congr {P P' : Nat → Prop} {lt lt' : Nat → Nat → Prop} {n : Nat} (hP : ∀ i, i < n → (P i ↔ P' i)) (hl : ∀ i b, i < n → b < i → P i → P b → (lt i b ↔ lt' i b)) : s_fo P lt n = s_fo P' lt' n := by
  induction n with
  | zero => rfl
  | succ n ih =>
    have e := ih (fun i hi => hP i (by omega)) (fun i b hi hb => hl i b (by omega) hb)
    by_cases hc : P n ∧ ∀ b, s_fo P lt n = some b → lt n b
    · rw [s_fo_t hc.1 hc.2, s_fo_t ((hP n (by omega)).mp hc.1) (fun b hb => by
        rw [← e] at hb
        have q := s_fo_lt hb
        exact (hl n b (by omega) q.1 hc.1 q.2).mp (hc.2 b hb))]
    · rw [s_fo_f hc, s_fo_f (fun q => hc ⟨(hP n (by omega)).mpr q.1, fun b hb => by
        have q2 := s_fo_lt hb
        rw [e] at hb
        exact (hl n b (by omega) q2.1 ((hP n (by omega)).mpr q.1) q2.2).mpr (q.2 b hb)⟩)]
      exact e
def s_oi (d : Int32) (x : Option Nat) : Int32 := match x with
  | none => d
  | some k => nI k
noncomputable def n_nx (hn cn : Nat) (N : cr_M) : Option Nat := s_fo (fun c => N 16 c = 0 ∧ n_tk hn N c) (fun a b => n_rk hn N a < n_rk hn N b) cn
noncomputable def n_hf (hn : Nat) (N : cr_M) (c : Nat) : Option Nat :=
  @ite _ (0 ≤ N 15 c ∧ n_may N (N 15 c).toNatClampNeg c) (Classical.propDecidable _) (some (N 15 c).toNatClampNeg) (s_fo (fun k => n_may N k c) (fun a b => s_ah N (n_s N c) a b) hn)
/-- what the reference's walks need of its memory -/
def n_W (hn cn : Nat) (N : cr_M) : Prop := hn ≤ 10 ∧ cn ≤ 200 ∧ N 0 4 = nI hn ∧ N 0 5 = nI cn ∧ ∀ c, c < cn → (∃ s, s < 4 ∧ N 11 c = nI s) ∧ (N 15 c = -9 ∨ ∃ k, k < hn ∧ N 15 c = nI k)
def n_ref (N : cr_M) (k : Nat) : cr_M := cr_up N 1 k (N 1 k + 1)
def n_bec (N : cr_M) (k : Nat) (w : Int32) : cr_M := cr_up (cr_up N 5 k w) 6 k (N 0 3)
def n_los (N : cr_M) (k : Nat) : cr_M := n_bec (cr_up N 22 k (N 22 k - 1)) k (if N 22 k - 1 = 0 then 1 else 2)
theorem e_ialdV {Y : cr_Y} {pc : Nat} {lv : List (Nat × cr_AV)} {st : List cr_AV} {M : cr_M} {r : Option cr_AV × cr_M} {n q j : Nat} (v : Int32) (hd : decode (cr_by Y) pc = .ok (.iaload, 1)) (hsh : (cr_sh Y)[q]? = some (.inr (n, false))) (hj : j < n) (hn : n < 2 ^ 31) (hv : M q j = v) (k : cr_Ev Y (pc + 1) lv (.inl v :: st) M r) : cr_Ev Y pc lv (.inl (nI j) :: .inr (.inr q) :: st) M r :=
  e_ialdN hd hsh hj hn (hv ▸ k)
end
section
set_option maxHeartbeats 1000000 in
theorem ev_X5_refuse (N : cr_M) {x : Int32} {k : Nat} (hx : -x = nI k) (hk : k < 7) : cr_EvM Y_X5_refuse [.inr (.inr 0), .inl x] N (some (.inl x), n_ref N k) := by
  refine e_aload_n (pc := 0) dX5_refuse_0 rfl ?_
  refine e_getA (pc := 1) dX5_refuse_1 f_5_7 rfl rfl ?_
  refine e_iload_n (pc := 4) dX5_refuse_4 rfl ?_
  refine e_ineg (pc := 5) dX5_refuse_5 ?_
  rw [hx]
  refine e_dup2 (pc := 6) dX5_refuse_6 ?_
  first | refine e_ialdN (pc := 7) dX5_refuse_7 rfl (by omega) (by decide) ?_ | refine e_iald (pc := 7) dX5_refuse_7 rfl (by assumption) ?_
  refine e_iconst (pc := 8) (v := 1) dX5_refuse_8 (by decide) ?_
  refine e_iadd (pc := 9) dX5_refuse_9 ?_
  first | refine e_iastN (pc := 10) dX5_refuse_10 rfl (by omega) (by decide) ?_ | refine e_iast (pc := 10) dX5_refuse_10 rfl (by assumption) ?_
  refine e_iload_n (pc := 11) dX5_refuse_11 rfl ?_
  refine r_iret (pc := 12) dX5_refuse_12 rfl ?_
  rfl
set_option maxHeartbeats 1000000 in
theorem ev_X5_isIn (N : cr_M) (x n : Int32) : cr_EvM Y_X5_isIn [.inl x, .inl n] N (some (.inl (bI (0 ≤ x ∧ x < n))), N) := by
  refine e_iload_n (pc := 0) dX5_isIn_0 rfl ?_
  refine e_if_lt (pc := 1) (tgt := 13) dX5_isIn_1 (by decide) (fun hc_1 => ?_) (fun hc_1 => ?_)
  · refine e_iconst (pc := 13) (v := 0) dX5_isIn_13 (by decide) ?_
    refine r_zret (pc := 14) dX5_isIn_14 rfl (by first | exact Or.inl rfl | exact Or.inr rfl | exact bI_01 _ | assumption) ?_
    first | exact rt_t (by grind) | exact rt_f (by grind)
  · refine e_iload_n (pc := 4) dX5_isIn_4 rfl ?_
    refine e_iload_n (pc := 5) dX5_isIn_5 rfl ?_
    refine e_icmp_ge (pc := 6) (tgt := 13) dX5_isIn_6 (by decide) (fun hc_6 => ?_) (fun hc_6 => ?_)
    · refine e_iconst (pc := 13) (v := 0) dX5_isIn_13 (by decide) ?_
      refine r_zret (pc := 14) dX5_isIn_14 rfl (by first | exact Or.inl rfl | exact Or.inr rfl | exact bI_01 _ | assumption) ?_
      first | exact rt_t (by grind) | exact rt_f (by grind)
    · refine e_iconst (pc := 9) (v := 1) dX5_isIn_9 (by decide) ?_
      refine e_goto (pc := 10) (tgt := 14) dX5_isIn_10 (by decide) ?_
      refine r_zret (pc := 14) dX5_isIn_14 rfl (by first | exact Or.inl rfl | exact Or.inr rfl | exact bI_01 _ | assumption) ?_
      first | exact rt_t (by grind) | exact rt_f (by grind)
set_option maxHeartbeats 1000000 in
theorem ev_X5_gradeOf (N : cr_M) {k s : Nat} (hk : k < 10) (hs : s < 4) : cr_EvM Y_X5_gradeOf [.inr (.inr 0), .inl (nI k), .inl (nI s)] N (some (.inl (N 4 (4 * k + s))), N) := by
  refine e_aload_n (pc := 0) dX5_gradeOf_0 rfl ?_
  refine e_getA (pc := 1) dX5_gradeOf_1 f_5_23 rfl rfl ?_
  refine e_iconst (pc := 4) (v := 4) dX5_gradeOf_4 (by decide) ?_
  refine e_iload_n (pc := 5) dX5_gradeOf_5 rfl ?_
  refine e_imul (pc := 6) dX5_gradeOf_6 ?_
  refine e_iload_n (pc := 7) dX5_gradeOf_7 rfl ?_
  refine e_iadd (pc := 8) dX5_gradeOf_8 ?_
  rw [show (4 : Int32) * nI k + nI s = nI (4 * k + s) by rw [show (4 : Int32) = nI 4 from rfl, pk_mul, nI_add]]
  first | refine e_ialdN (pc := 9) dX5_gradeOf_9 rfl (by omega) (by decide) ?_ | refine e_iald (pc := 9) dX5_gradeOf_9 rfl (by assumption) ?_
  refine r_iret (pc := 10) dX5_gradeOf_10 rfl ?_
  rfl
set_option maxHeartbeats 1000000 in
theorem ev_X5_becomes (N : cr_M) {k : Nat} (w : Int32) (hk : k < 10) : cr_EvM Y_X5_becomes [.inr (.inr 0), .inl (nI k), .inl w] N (none, n_bec N k w) := by
  refine e_aload_n (pc := 0) dX5_becomes_0 rfl ?_
  refine e_getA (pc := 1) dX5_becomes_1 f_5_26 rfl rfl ?_
  refine e_iload_n (pc := 4) dX5_becomes_4 rfl ?_
  refine e_iload_n (pc := 5) dX5_becomes_5 rfl ?_
  first | refine e_iastN (pc := 6) dX5_becomes_6 rfl (by omega) (by decide) ?_ | refine e_iast (pc := 6) dX5_becomes_6 rfl (by assumption) ?_
  refine e_aload_n (pc := 7) dX5_becomes_7 rfl ?_
  refine e_getA (pc := 8) dX5_becomes_8 f_5_29 rfl rfl ?_
  refine e_iload_n (pc := 11) dX5_becomes_11 rfl ?_
  refine e_aload_n (pc := 12) dX5_becomes_12 rfl ?_
  refine e_getI (pc := 13) dX5_becomes_13 f_5_127 rfl rfl ?_
  first | refine e_iastN (pc := 16) dX5_becomes_16 rfl (by omega) (by decide) ?_ | refine e_iast (pc := 16) dX5_becomes_16 rfl (by assumption) ?_
  refine r_vret (pc := 17) dX5_becomes_17 rfl ?_
  rfl
set_option maxHeartbeats 1000000 in
theorem ev_X5_loses (N : cr_M) {k : Nat} (hk : k < 10) : cr_EvM Y_X5_loses [.inr (.inr 0), .inl (nI k)] N (none, n_los N k) := by
  refine e_aload_n (pc := 0) dX5_loses_0 rfl ?_
  refine e_getA (pc := 1) dX5_loses_1 f_5_77 rfl rfl ?_
  refine e_iload_n (pc := 4) dX5_loses_4 rfl ?_
  refine e_dup2 (pc := 5) dX5_loses_5 ?_
  first | refine e_ialdN (pc := 6) dX5_loses_6 rfl (by omega) (by decide) ?_ | refine e_iald (pc := 6) dX5_loses_6 rfl (by assumption) ?_
  refine e_iconst (pc := 7) (v := 1) dX5_loses_7 (by decide) ?_
  refine e_isub (pc := 8) dX5_loses_8 ?_
  first | refine e_iastN (pc := 9) dX5_loses_9 rfl (by omega) (by decide) ?_ | refine e_iast (pc := 9) dX5_loses_9 rfl (by assumption) ?_
  refine e_aload_n (pc := 10) dX5_loses_10 rfl ?_
  refine e_iload_n (pc := 11) dX5_loses_11 rfl ?_
  refine e_aload_n (pc := 12) dX5_loses_12 rfl ?_
  refine e_getA (pc := 13) dX5_loses_13 f_5_77 rfl rfl ?_
  refine e_iload_n (pc := 16) dX5_loses_16 rfl ?_
  first | refine e_ialdN (pc := 17) dX5_loses_17 rfl (by omega) (by decide) ?_ | refine e_iald (pc := 17) dX5_loses_17 rfl (by assumption) ?_
  refine e_if_ne (pc := 18) (tgt := 25) dX5_loses_18 (by decide) (fun hc_18 => ?_) (fun hc_18 => ?_)
  · refine e_iconst (pc := 25) (v := 2) dX5_loses_25 (by decide) ?_
    refine e_self2v (pc := 26) dX5_loses_26 cs_X5_loses_138 cv_X5_becomes rc_X5_becomes rfl (by decide) (Nat.le_of_ble_eq_true rfl) (ev_X5_becomes _ _ hk) ?_
    refine r_vret (pc := 29) dX5_loses_29 rfl ?_
    unfold n_los
    first | (rw [if_pos (by grind [cr_rd])]; done) | rw [if_neg (by grind [cr_rd])]
  · refine e_iconst (pc := 21) (v := 1) dX5_loses_21 (by decide) ?_
    refine e_goto (pc := 22) (tgt := 26) dX5_loses_22 (by decide) ?_
    refine e_self2v (pc := 26) dX5_loses_26 cs_X5_loses_138 cv_X5_becomes rc_X5_becomes rfl (by decide) (Nat.le_of_ble_eq_true rfl) (ev_X5_becomes _ _ hk) ?_
    refine r_vret (pc := 29) dX5_loses_29 rfl ?_
    unfold n_los
    first | (rw [if_pos (by grind [cr_rd])]; done) | rw [if_neg (by grind [cr_rd])]
set_option maxHeartbeats 1000000 in
theorem ev_X5_waitedOf (N : cr_M) {c : Nat} (hc : c < 200) : cr_EvM Y_X5_waitedOf [.inr (.inr 0), .inl (nI c)] N (some (.inl (N 0 3 - N 17 c)), N) := by
  refine e_aload_n (pc := 0) dX5_waitedOf_0 rfl ?_
  refine e_getI (pc := 1) dX5_waitedOf_1 f_5_127 rfl rfl ?_
  refine e_aload_n (pc := 4) dX5_waitedOf_4 rfl ?_
  refine e_getA (pc := 5) dX5_waitedOf_5 f_5_62 rfl rfl ?_
  refine e_iload_n (pc := 8) dX5_waitedOf_8 rfl ?_
  first | refine e_ialdN (pc := 9) dX5_waitedOf_9 rfl (by omega) (by decide) ?_ | refine e_iald (pc := 9) dX5_waitedOf_9 rfl (by assumption) ?_
  refine e_isub (pc := 10) dX5_waitedOf_10 ?_
  refine r_iret (pc := 11) dX5_waitedOf_11 rfl ?_
  rfl
set_option maxHeartbeats 1000000 in
theorem ev_X5_hasRoom (N : cr_M) {k : Nat} (hk : k < 10) : cr_EvM Y_X5_hasRoom [.inr (.inr 0), .inl (nI k)] N (some (.inl (bI (¬ N 24 k = 0 ∧ N 22 k < 3))), N) := by
  refine e_aload_n (pc := 0) dX5_hasRoom_0 rfl ?_
  refine e_getA (pc := 1) dX5_hasRoom_1 f_5_83 rfl rfl ?_
  refine e_iload_n (pc := 4) dX5_hasRoom_4 rfl ?_
  first | refine e_zaldN (pc := 5) dX5_hasRoom_5 rfl (by omega) (by decide) ?_ | refine e_zald (pc := 5) dX5_hasRoom_5 rfl (by assumption) ?_
  refine e_if_eq (pc := 6) (tgt := 23) dX5_hasRoom_6 (by decide) (fun hc_6 => ?_) (fun hc_6 => ?_)
  · refine e_iconst (pc := 23) (v := 0) dX5_hasRoom_23 (by decide) ?_
    refine r_zret (pc := 24) dX5_hasRoom_24 rfl (by first | exact Or.inl rfl | exact Or.inr rfl | exact bI_01 _ | assumption) ?_
    first | exact rt_t (by grind) | exact rt_f (by grind)
  · refine e_aload_n (pc := 9) dX5_hasRoom_9 rfl ?_
    refine e_getA (pc := 10) dX5_hasRoom_10 f_5_77 rfl rfl ?_
    refine e_iload_n (pc := 13) dX5_hasRoom_13 rfl ?_
    first | refine e_ialdN (pc := 14) dX5_hasRoom_14 rfl (by omega) (by decide) ?_ | refine e_iald (pc := 14) dX5_hasRoom_14 rfl (by assumption) ?_
    refine e_iconst (pc := 15) (v := 3) dX5_hasRoom_15 (by decide) ?_
    refine e_icmp_ge (pc := 16) (tgt := 23) dX5_hasRoom_16 (by decide) (fun hc_16 => ?_) (fun hc_16 => ?_)
    · refine e_iconst (pc := 23) (v := 0) dX5_hasRoom_23 (by decide) ?_
      refine r_zret (pc := 24) dX5_hasRoom_24 rfl (by first | exact Or.inl rfl | exact Or.inr rfl | exact bI_01 _ | assumption) ?_
      first | exact rt_t (by grind) | exact rt_f (by grind)
    · refine e_iconst (pc := 19) (v := 1) dX5_hasRoom_19 (by decide) ?_
      refine e_goto (pc := 20) (tgt := 24) dX5_hasRoom_20 (by decide) ?_
      refine r_zret (pc := 24) dX5_hasRoom_24 rfl (by first | exact Or.inl rfl | exact Or.inr rfl | exact bI_01 _ | assumption) ?_
      first | exact rt_t (by grind) | exact rt_f (by grind)
set_option maxHeartbeats 1000000 in
theorem ev_X5_may (N : cr_M) {k c s : Nat} (hk : k < 10) (hc : c < 200) (hs : s < 4) (hsc : N 11 c = nI s) : cr_EvM Y_X5_may [.inr (.inr 0), .inl (nI k), .inl (nI c)] N (some (.inl (bI (n_may N k c))), N) := by
  have hsn : n_s N c = s := by show (N 11 c).toNatClampNeg = s; rw [hsc]; exact nI_clamp (by omega)
  unfold n_may
  rw [hsn]
  refine e_aload_n (pc := 0) dX5_may_0 rfl ?_
  refine e_getA (pc := 1) dX5_may_1 f_5_59 rfl rfl ?_
  refine e_iload_n (pc := 4) dX5_may_4 rfl ?_
  first | refine e_ialdN (pc := 5) dX5_may_5 rfl (by omega) (by decide) ?_ | refine e_iald (pc := 5) dX5_may_5 rfl (by assumption) ?_
  refine e_if_ne (pc := 6) (tgt := 23) dX5_may_6 (by decide) (fun hc_6 => ?_) (fun hc_6 => ?_)
  · refine e_iconst (pc := 23) (v := 0) dX5_may_23 (by decide) ?_
    refine r_zret (pc := 24) dX5_may_24 rfl (by first | exact Or.inl rfl | exact Or.inr rfl | exact bI_01 _ | assumption) ?_
    first | exact rt_t (by grind [bI_eq0]) | exact rt_f (by grind [bI_eq0])
  · refine e_aload_n (pc := 9) dX5_may_9 rfl ?_
    refine e_iload_n (pc := 10) dX5_may_10 rfl ?_
    refine e_aload_n (pc := 11) dX5_may_11 rfl ?_
    refine e_getA (pc := 12) dX5_may_12 f_5_44 rfl rfl ?_
    refine e_iload_n (pc := 15) dX5_may_15 rfl ?_
    first | refine e_ialdN (pc := 16) dX5_may_16 rfl (by omega) (by decide) ?_ | refine e_iald (pc := 16) dX5_may_16 rfl (by assumption) ?_
    rw [hsc]
    refine e_self2i (pc := 17) dX5_may_17 cs_X5_may_134 cv_X5_gradeOf rc_X5_gradeOf rfl (by decide) (Nat.le_of_ble_eq_true rfl) (ev_X5_gradeOf N hk hs) ?_
    refine e_if_ne (pc := 20) (tgt := 25) dX5_may_20 (by decide) (fun hc_20 => ?_) (fun hc_20 => ?_)
    · refine e_aload_n (pc := 25) dX5_may_25 rfl ?_
      refine e_getA (pc := 26) dX5_may_26 f_5_26 rfl rfl ?_
      refine e_iload_n (pc := 29) dX5_may_29 rfl ?_
      first | refine e_ialdN (pc := 30) dX5_may_30 rfl (by omega) (by decide) ?_ | refine e_iald (pc := 30) dX5_may_30 rfl (by assumption) ?_
      refine e_iconst (pc := 31) (v := 1) dX5_may_31 (by decide) ?_
      refine e_icmp_eq (pc := 32) (tgt := 65) dX5_may_32 (by decide) (fun hc_32 => ?_) (fun hc_32 => ?_)
      · refine e_aload_n (pc := 65) dX5_may_65 rfl ?_
        refine e_getA (pc := 66) dX5_may_66 f_5_41 rfl rfl ?_
        refine e_iload_n (pc := 69) dX5_may_69 rfl ?_
        first | refine e_ialdN (pc := 70) dX5_may_70 rfl (by omega) (by decide) ?_ | refine e_iald (pc := 70) dX5_may_70 rfl (by assumption) ?_
        refine e_iconst (pc := 71) (v := 1) dX5_may_71 (by decide) ?_
        refine e_icmp_ne (pc := 72) (tgt := 97) dX5_may_72 (by decide) (fun hc_72 => ?_) (fun hc_72 => ?_)
        · refine e_iconst (pc := 97) (v := 1) dX5_may_97 (by decide) ?_
          refine e_goto (pc := 98) (tgt := 102) dX5_may_98 (by decide) ?_
          refine r_zret (pc := 102) dX5_may_102 rfl (by first | exact Or.inl rfl | exact Or.inr rfl | exact bI_01 _ | assumption) ?_
          first | exact rt_t (by grind [bI_eq0]) | exact rt_f (by grind [bI_eq0])
        · refine e_aload_n (pc := 75) dX5_may_75 rfl ?_
          refine e_iload_n (pc := 76) dX5_may_76 rfl ?_
          refine e_self1i (pc := 77) dX5_may_77 cs_X5_may_156 cv_X5_waitedOf rc_X5_waitedOf rfl (by decide) (Nat.le_of_ble_eq_true rfl) (ev_X5_waitedOf N hc) ?_
          refine e_aload_n (pc := 80) dX5_may_80 rfl ?_
          refine e_getI (pc := 81) dX5_may_81 f_5_19 rfl rfl ?_
          refine e_icmp_ge (pc := 84) (tgt := 97) dX5_may_84 (by decide) (fun hc_84 => ?_) (fun hc_84 => ?_)
          · refine e_iconst (pc := 97) (v := 1) dX5_may_97 (by decide) ?_
            refine e_goto (pc := 98) (tgt := 102) dX5_may_98 (by decide) ?_
            refine r_zret (pc := 102) dX5_may_102 rfl (by first | exact Or.inl rfl | exact Or.inr rfl | exact bI_01 _ | assumption) ?_
            first | exact rt_t (by grind [bI_eq0]) | exact rt_f (by grind [bI_eq0])
          · refine e_aload_n (pc := 87) dX5_may_87 rfl ?_
            refine e_getA (pc := 88) dX5_may_88 f_5_56 rfl rfl ?_
            refine e_iload_n (pc := 91) dX5_may_91 rfl ?_
            first | refine e_ialdN (pc := 92) dX5_may_92 rfl (by omega) (by decide) ?_ | refine e_iald (pc := 92) dX5_may_92 rfl (by assumption) ?_
            refine e_iload_n (pc := 93) dX5_may_93 rfl ?_
            refine e_icmp_ne (pc := 94) (tgt := 101) dX5_may_94 (by decide) (fun hc_94 => ?_) (fun hc_94 => ?_)
            · refine e_iconst (pc := 101) (v := 0) dX5_may_101 (by decide) ?_
              refine r_zret (pc := 102) dX5_may_102 rfl (by first | exact Or.inl rfl | exact Or.inr rfl | exact bI_01 _ | assumption) ?_
              first | exact rt_t (by grind [bI_eq0]) | exact rt_f (by grind [bI_eq0])
            · refine e_iconst (pc := 97) (v := 1) dX5_may_97 (by decide) ?_
              refine e_goto (pc := 98) (tgt := 102) dX5_may_98 (by decide) ?_
              refine r_zret (pc := 102) dX5_may_102 rfl (by first | exact Or.inl rfl | exact Or.inr rfl | exact bI_01 _ | assumption) ?_
              first | exact rt_t (by grind [bI_eq0]) | exact rt_f (by grind [bI_eq0])
      · refine e_aload_n (pc := 35) dX5_may_35 rfl ?_
        refine e_getA (pc := 36) dX5_may_36 f_5_26 rfl rfl ?_
        refine e_iload_n (pc := 39) dX5_may_39 rfl ?_
        first | refine e_ialdN (pc := 40) dX5_may_40 rfl (by omega) (by decide) ?_ | refine e_iald (pc := 40) dX5_may_40 rfl (by assumption) ?_
        refine e_iconst (pc := 41) (v := 2) dX5_may_41 (by decide) ?_
        refine e_icmp_ne (pc := 42) (tgt := 63) dX5_may_42 (by decide) (fun hc_42 => ?_) (fun hc_42 => ?_)
        · refine e_iconst (pc := 63) (v := 0) dX5_may_63 (by decide) ?_
          refine r_zret (pc := 64) dX5_may_64 rfl (by first | exact Or.inl rfl | exact Or.inr rfl | exact bI_01 _ | assumption) ?_
          first | exact rt_t (by grind [bI_eq0]) | exact rt_f (by grind [bI_eq0])
        · refine e_aload_n (pc := 45) dX5_may_45 rfl ?_
          refine e_getA (pc := 46) dX5_may_46 f_5_41 rfl rfl ?_
          refine e_iload_n (pc := 49) dX5_may_49 rfl ?_
          first | refine e_ialdN (pc := 50) dX5_may_50 rfl (by omega) (by decide) ?_ | refine e_iald (pc := 50) dX5_may_50 rfl (by assumption) ?_
          refine e_iconst (pc := 51) (v := 3) dX5_may_51 (by decide) ?_
          refine e_icmp_ne (pc := 52) (tgt := 63) dX5_may_52 (by decide) (fun hc_52 => ?_) (fun hc_52 => ?_)
          · refine e_iconst (pc := 63) (v := 0) dX5_may_63 (by decide) ?_
            refine r_zret (pc := 64) dX5_may_64 rfl (by first | exact Or.inl rfl | exact Or.inr rfl | exact bI_01 _ | assumption) ?_
            first | exact rt_t (by grind [bI_eq0]) | exact rt_f (by grind [bI_eq0])
          · refine e_aload_n (pc := 55) dX5_may_55 rfl ?_
            refine e_iload_n (pc := 56) dX5_may_56 rfl ?_
            refine e_self1i (pc := 57) dX5_may_57 cs_X5_may_152 cv_X5_hasRoom rc_X5_hasRoom rfl (by decide) (Nat.le_of_ble_eq_true rfl) (ev_X5_hasRoom N hk) ?_
            refine e_if_ne (pc := 60) (tgt := 65) dX5_may_60 (by decide) (fun hc_60 => ?_) (fun hc_60 => ?_)
            · refine e_aload_n (pc := 65) dX5_may_65 rfl ?_
              refine e_getA (pc := 66) dX5_may_66 f_5_41 rfl rfl ?_
              refine e_iload_n (pc := 69) dX5_may_69 rfl ?_
              first | refine e_ialdN (pc := 70) dX5_may_70 rfl (by omega) (by decide) ?_ | refine e_iald (pc := 70) dX5_may_70 rfl (by assumption) ?_
              refine e_iconst (pc := 71) (v := 1) dX5_may_71 (by decide) ?_
              refine e_icmp_ne (pc := 72) (tgt := 97) dX5_may_72 (by decide) (fun hc_72 => ?_) (fun hc_72 => ?_)
              · refine e_iconst (pc := 97) (v := 1) dX5_may_97 (by decide) ?_
                refine e_goto (pc := 98) (tgt := 102) dX5_may_98 (by decide) ?_
                refine r_zret (pc := 102) dX5_may_102 rfl (by first | exact Or.inl rfl | exact Or.inr rfl | exact bI_01 _ | assumption) ?_
                first | exact rt_t (by grind [bI_eq0]) | exact rt_f (by grind [bI_eq0])
              · refine e_aload_n (pc := 75) dX5_may_75 rfl ?_
                refine e_iload_n (pc := 76) dX5_may_76 rfl ?_
                refine e_self1i (pc := 77) dX5_may_77 cs_X5_may_156 cv_X5_waitedOf rc_X5_waitedOf rfl (by decide) (Nat.le_of_ble_eq_true rfl) (ev_X5_waitedOf N hc) ?_
                refine e_aload_n (pc := 80) dX5_may_80 rfl ?_
                refine e_getI (pc := 81) dX5_may_81 f_5_19 rfl rfl ?_
                refine e_icmp_ge (pc := 84) (tgt := 97) dX5_may_84 (by decide) (fun hc_84 => ?_) (fun hc_84 => ?_)
                · refine e_iconst (pc := 97) (v := 1) dX5_may_97 (by decide) ?_
                  refine e_goto (pc := 98) (tgt := 102) dX5_may_98 (by decide) ?_
                  refine r_zret (pc := 102) dX5_may_102 rfl (by first | exact Or.inl rfl | exact Or.inr rfl | exact bI_01 _ | assumption) ?_
                  first | exact rt_t (by grind [bI_eq0]) | exact rt_f (by grind [bI_eq0])
                · refine e_aload_n (pc := 87) dX5_may_87 rfl ?_
                  refine e_getA (pc := 88) dX5_may_88 f_5_56 rfl rfl ?_
                  refine e_iload_n (pc := 91) dX5_may_91 rfl ?_
                  first | refine e_ialdN (pc := 92) dX5_may_92 rfl (by omega) (by decide) ?_ | refine e_iald (pc := 92) dX5_may_92 rfl (by assumption) ?_
                  refine e_iload_n (pc := 93) dX5_may_93 rfl ?_
                  refine e_icmp_ne (pc := 94) (tgt := 101) dX5_may_94 (by decide) (fun hc_94 => ?_) (fun hc_94 => ?_)
                  · refine e_iconst (pc := 101) (v := 0) dX5_may_101 (by decide) ?_
                    refine r_zret (pc := 102) dX5_may_102 rfl (by first | exact Or.inl rfl | exact Or.inr rfl | exact bI_01 _ | assumption) ?_
                    first | exact rt_t (by grind [bI_eq0]) | exact rt_f (by grind [bI_eq0])
                  · refine e_iconst (pc := 97) (v := 1) dX5_may_97 (by decide) ?_
                    refine e_goto (pc := 98) (tgt := 102) dX5_may_98 (by decide) ?_
                    refine r_zret (pc := 102) dX5_may_102 rfl (by first | exact Or.inl rfl | exact Or.inr rfl | exact bI_01 _ | assumption) ?_
                    first | exact rt_t (by grind [bI_eq0]) | exact rt_f (by grind [bI_eq0])
            · refine e_iconst (pc := 63) (v := 0) dX5_may_63 (by decide) ?_
              refine r_zret (pc := 64) dX5_may_64 rfl (by first | exact Or.inl rfl | exact Or.inr rfl | exact bI_01 _ | assumption) ?_
              first | exact rt_t (by grind [bI_eq0]) | exact rt_f (by grind [bI_eq0])
    · refine e_iconst (pc := 23) (v := 0) dX5_may_23 (by decide) ?_
      refine r_zret (pc := 24) dX5_may_24 rfl (by first | exact Or.inl rfl | exact Or.inr rfl | exact bI_01 _ | assumption) ?_
      first | exact rt_t (by grind [bI_eq0]) | exact rt_f (by grind [bI_eq0])
set_option maxHeartbeats 1000000 in
theorem lp_X5_isTakeable {hn cn : Nat} {N : cr_M} {c : Nat} (hW : n_W hn cn N) (hc : c < cn) : ∀ (n j : Nat) (z : Int32), j + n = hn → z = bI (∃ i, i < j ∧ n_may N i c) → cr_Ev Y_X5_isTakeable 4 [(3, .inl (nI j)), (0, .inr (.inr 0)), (1, .inl (nI c)), (2, .inl z)] [] N (some (.inl (bI (n_tk hn N c))), N) := by
  obtain ⟨h10, h200, hsz, -, hall⟩ := hW
  obtain ⟨⟨s, hs, hsc⟩, -⟩ := hall c hc
  unfold n_tk
  intro n
  induction n with
  | zero =>
    intro j z hj hz
    have hz01 := bI_01 (∃ i, i < j ∧ n_may N i c)
    rw [← hz] at hz01
    refine e_iload_n (pc := 4) dX5_isTakeable_4 rfl ?_
    refine e_aload_n (pc := 5) dX5_isTakeable_5 rfl ?_
    refine e_getI (pc := 6) dX5_isTakeable_6 f_5_124 rfl rfl ?_
    refine e_icmp_ge (pc := 9) (tgt := 29) dX5_isTakeable_9 (by decide) (fun hc_9 => ?_) (fun hc_9 => ?_)
    · refine e_iload_n (pc := 29) dX5_isTakeable_29 rfl ?_
      refine r_zret (pc := 30) dX5_isTakeable_30 rfl (by first | exact Or.inl rfl | exact Or.inr rfl | exact bI_01 _ | assumption) ?_
      first
        | exact rt_i (by rw [hz]; exact bI_congr (by have hj2 : hn ≤ j := (nI_leI (by omega) (by omega)).mp (hsz ▸ hc_9); grind))
        | exact rt_i (by rw [hz] at hc_13 ⊢; rw [bI_eq0, Classical.not_not] at hc_13; exact bI_congr (by grind))
    · exact absurd (show N 0 4 ≤ nI j by rw [hsz]; exact nI_le (by omega) (by omega)) (by assumption)
  | succ n ih =>
    intro j z hj hz
    have hz01 := bI_01 (∃ i, i < j ∧ n_may N i c)
    rw [← hz] at hz01
    refine e_iload_n (pc := 4) dX5_isTakeable_4 rfl ?_
    refine e_aload_n (pc := 5) dX5_isTakeable_5 rfl ?_
    refine e_getI (pc := 6) dX5_isTakeable_6 f_5_124 rfl rfl ?_
    refine e_icmp_ge (pc := 9) (tgt := 29) dX5_isTakeable_9 (by decide) (fun hc_9 => ?_) (fun hc_9 => ?_)
    · refine e_iload_n (pc := 29) dX5_isTakeable_29 rfl ?_
      refine r_zret (pc := 30) dX5_isTakeable_30 rfl (by first | exact Or.inl rfl | exact Or.inr rfl | exact bI_01 _ | assumption) ?_
      first
        | exact rt_i (by rw [hz]; exact bI_congr (by have hj2 : hn ≤ j := (nI_leI (by omega) (by omega)).mp (hsz ▸ hc_9); grind))
        | exact rt_i (by rw [hz] at hc_13 ⊢; rw [bI_eq0, Classical.not_not] at hc_13; exact bI_congr (by grind))
    · refine e_iload_n (pc := 12) dX5_isTakeable_12 rfl ?_
      refine e_if_ne (pc := 13) (tgt := 29) dX5_isTakeable_13 (by decide) (fun hc_13 => ?_) (fun hc_13 => ?_)
      · refine e_iload_n (pc := 29) dX5_isTakeable_29 rfl ?_
        refine r_zret (pc := 30) dX5_isTakeable_30 rfl (by first | exact Or.inl rfl | exact Or.inr rfl | exact bI_01 _ | assumption) ?_
        first
          | exact rt_i (by rw [hz]; exact bI_congr (by have hj2 : hn ≤ j := (nI_leI (by omega) (by omega)).mp (hsz ▸ hc_9); grind))
          | exact rt_i (by rw [hz] at hc_13 ⊢; rw [bI_eq0, Classical.not_not] at hc_13; exact bI_congr (by grind))
      · refine e_aload_n (pc := 16) dX5_isTakeable_16 rfl ?_
        refine e_iload_n (pc := 17) dX5_isTakeable_17 rfl ?_
        refine e_iload_n (pc := 18) dX5_isTakeable_18 rfl ?_
        refine e_self2i (pc := 19) dX5_isTakeable_19 cs_X5_isTakeable_159 cv_X5_may rc_X5_may rfl (by decide) (Nat.le_of_ble_eq_true rfl) (ev_X5_may N (by omega) (by omega) hs hsc) ?_
        refine e_istore_n (pc := 22) dX5_isTakeable_22 (by decide) ?_
        first | refine e_iinc1 (pc := 23) dX5_isTakeable_23 rfl (by decide) ?_ | refine e_iincp (pc := 23) dX5_isTakeable_23 rfl (by decide) ?_
        refine e_goto (pc := 26) (tgt := 4) dX5_isTakeable_26 (by decide) ?_
        exact e_wk (ih (j + 1) _ (by omega) (by rw [hz, bI_eq0] at hc_13; exact bI_congr (by grind))) ⟨rfl, rfl, rfl, rfl, trivial⟩
set_option maxHeartbeats 1000000 in
theorem ev_X5_isTakeable {hn cn : Nat} {N : cr_M} {c : Nat} (hW : n_W hn cn N) (hc : c < cn) : cr_EvM Y_X5_isTakeable [.inr (.inr 0), .inl (nI c)] N (some (.inl (bI (n_tk hn N c))), N) := by
  refine e_iconst (pc := 0) (v := 0) dX5_isTakeable_0 (by decide) ?_
  refine e_istore_n (pc := 1) dX5_isTakeable_1 (by decide) ?_
  refine e_iconst (pc := 2) (v := 0) dX5_isTakeable_2 (by decide) ?_
  refine e_istore_n (pc := 3) dX5_isTakeable_3 (by decide) ?_
  exact e_wk (lp_X5_isTakeable hW hc hn 0 _ (by omega) (bI_f (by rintro ⟨i, hi, -⟩; omega)).symm) ⟨rfl, rfl, rfl, rfl, trivial⟩
set_option maxHeartbeats 1000000 in
theorem lp_X5_freeFor {hn cn : Nat} {N : cr_M} {s : Nat} (hW : n_W hn cn N) (hs : s < 4) : ∀ (n j : Nat) (z : Int32), j + n = hn → (z = n_ff N s j) → cr_Ev Y_X5_freeFor 4 [(3, .inl (nI j)), (0, .inr (.inr 0)), (1, .inl (nI s)), (2, .inl z)] [] N (some (.inl (n_ff N s hn)), N) := by
  obtain ⟨h10, h200, hsz, -, -⟩ := hW
  intro n
  induction n with
  | zero =>
    intro j z hj hz
    refine e_iload_n (pc := 4) dX5_freeFor_4 rfl ?_
    refine e_aload_n (pc := 5) dX5_freeFor_5 rfl ?_
    refine e_getI (pc := 6) dX5_freeFor_6 f_5_124 rfl rfl ?_
    refine e_icmp_ge (pc := 9) (tgt := 45) dX5_freeFor_9 (by decide) (fun hc_9 => ?_) (fun hc_9 => ?_)
    · refine e_iload_n (pc := 45) dX5_freeFor_45 rfl ?_
      refine r_iret (pc := 46) dX5_freeFor_46 rfl ?_
      rw [hz, show j = hn by omega]
    · exact absurd (show N 0 4 ≤ nI j by rw [hsz]; exact nI_le (by omega) (by omega)) (by assumption)
  | succ n ih =>
    intro j z hj hz
    refine e_iload_n (pc := 4) dX5_freeFor_4 rfl ?_
    refine e_aload_n (pc := 5) dX5_freeFor_5 rfl ?_
    refine e_getI (pc := 6) dX5_freeFor_6 f_5_124 rfl rfl ?_
    refine e_icmp_ge (pc := 9) (tgt := 45) dX5_freeFor_9 (by decide) (fun hc_9 => ?_) (fun hc_9 => ?_)
    · exact absurd (show N 0 4 ≤ nI j by assumption) (by rw [hsz]; exact nI_ge (by omega) (by omega))
    · refine e_iload_n (pc := 12) dX5_freeFor_12 rfl ?_
      refine e_aload_n (pc := 13) dX5_freeFor_13 rfl ?_
      refine e_getA (pc := 14) dX5_freeFor_14 f_5_26 rfl rfl ?_
      refine e_iload_n (pc := 17) dX5_freeFor_17 rfl ?_
      first | refine e_ialdN (pc := 18) dX5_freeFor_18 rfl (by omega) (by decide) ?_ | refine e_iald (pc := 18) dX5_freeFor_18 rfl (by assumption) ?_
      refine e_iconst (pc := 19) (v := 1) dX5_freeFor_19 (by decide) ?_
      refine e_icmp_ne (pc := 20) (tgt := 36) dX5_freeFor_20 (by decide) (fun hc_20 => ?_) (fun hc_20 => ?_)
      · refine e_iconst (pc := 36) (v := 0) dX5_freeFor_36 (by decide) ?_
        refine e_iadd (pc := 37) dX5_freeFor_37 ?_
        refine e_istore_n (pc := 38) dX5_freeFor_38 (by decide) ?_
        first | refine e_iinc1 (pc := 39) dX5_freeFor_39 rfl (by decide) ?_ | refine e_iincp (pc := 39) dX5_freeFor_39 rfl (by decide) ?_
        refine e_goto (pc := 42) (tgt := 4) dX5_freeFor_42 (by decide) ?_
        exact e_wk (ih (j + 1) _ (by omega) (by rw [n_ff, hz]; first | rw [bI_t (by grind)] | rw [bI_f (by grind)])) ⟨rfl, rfl, rfl, rfl, trivial⟩
      · refine e_aload_n (pc := 23) dX5_freeFor_23 rfl ?_
        refine e_iload_n (pc := 24) dX5_freeFor_24 rfl ?_
        refine e_iload_n (pc := 25) dX5_freeFor_25 rfl ?_
        refine e_self2i (pc := 26) dX5_freeFor_26 cs_X5_freeFor_134 cv_X5_gradeOf rc_X5_gradeOf rfl (by decide) (Nat.le_of_ble_eq_true rfl) (ev_X5_gradeOf N (by omega) hs) ?_
        refine e_if_le (pc := 29) (tgt := 36) dX5_freeFor_29 (by decide) (fun hc_29 => ?_) (fun hc_29 => ?_)
        · refine e_iconst (pc := 36) (v := 0) dX5_freeFor_36 (by decide) ?_
          refine e_iadd (pc := 37) dX5_freeFor_37 ?_
          refine e_istore_n (pc := 38) dX5_freeFor_38 (by decide) ?_
          first | refine e_iinc1 (pc := 39) dX5_freeFor_39 rfl (by decide) ?_ | refine e_iincp (pc := 39) dX5_freeFor_39 rfl (by decide) ?_
          refine e_goto (pc := 42) (tgt := 4) dX5_freeFor_42 (by decide) ?_
          exact e_wk (ih (j + 1) _ (by omega) (by rw [n_ff, hz]; first | rw [bI_t (by grind)] | rw [bI_f (by grind)])) ⟨rfl, rfl, rfl, rfl, trivial⟩
        · refine e_iconst (pc := 32) (v := 1) dX5_freeFor_32 (by decide) ?_
          refine e_goto (pc := 33) (tgt := 37) dX5_freeFor_33 (by decide) ?_
          refine e_iadd (pc := 37) dX5_freeFor_37 ?_
          refine e_istore_n (pc := 38) dX5_freeFor_38 (by decide) ?_
          first | refine e_iinc1 (pc := 39) dX5_freeFor_39 rfl (by decide) ?_ | refine e_iincp (pc := 39) dX5_freeFor_39 rfl (by decide) ?_
          refine e_goto (pc := 42) (tgt := 4) dX5_freeFor_42 (by decide) ?_
          exact e_wk (ih (j + 1) _ (by omega) (by rw [n_ff, hz]; first | rw [bI_t (by grind)] | rw [bI_f (by grind)])) ⟨rfl, rfl, rfl, rfl, trivial⟩
set_option maxHeartbeats 1000000 in
theorem ev_X5_freeFor {hn cn : Nat} {N : cr_M} {s : Nat} (hW : n_W hn cn N) (hs : s < 4) : cr_EvM Y_X5_freeFor [.inr (.inr 0), .inl (nI s)] N (some (.inl (n_ff N s hn)), N) := by
  refine e_iconst (pc := 0) (v := 0) dX5_freeFor_0 (by decide) ?_
  refine e_istore_n (pc := 1) dX5_freeFor_1 (by decide) ?_
  refine e_iconst (pc := 2) (v := 0) dX5_freeFor_2 (by decide) ?_
  refine e_istore_n (pc := 3) dX5_freeFor_3 (by decide) ?_
  exact e_wk (lp_X5_freeFor hW hs hn 0 _ (by omega) rfl) ⟨rfl, rfl, rfl, rfl, trivial⟩
set_option maxHeartbeats 1000000 in
theorem ev_X5_rankOf {hn cn : Nat} {N : cr_M} {c : Nat} (hW : n_W hn cn N) (hc : c < cn) : cr_EvM Y_X5_rankOf [.inr (.inr 0), .inl (nI c)] N (some (.inl (n_rk hn N c)), N) := by
  obtain ⟨h10, h200, hsz, -, hall⟩ := id hW
  obtain ⟨⟨s, hs, hsc⟩, -⟩ := hall c hc
  have hsn : n_s N c = s := by show (N 11 c).toNatClampNeg = s; rw [hsc]; exact nI_clamp (by omega)
  refine e_aload_n (pc := 0) dX5_rankOf_0 rfl ?_
  refine e_getI (pc := 1) dX5_rankOf_1 f_5_145 rfl rfl ?_
  refine e_tsw1 (pc := 4) 1 dX5_rankOf_4 (by decide) (by decide) (off := 28) (tgt := 32) rfl (by decide) (fun hs_4_1 => ?_) (fun hs_4_1 => ?_)
  · refine e_aload_n (pc := 32) dX5_rankOf_32 rfl ?_
    refine e_getA (pc := 33) dX5_rankOf_33 f_5_41 rfl rfl ?_
    refine e_iload_n (pc := 36) dX5_rankOf_36 rfl ?_
    first | refine e_ialdN (pc := 37) dX5_rankOf_37 rfl (by omega) (by decide) ?_ | refine e_iald (pc := 37) dX5_rankOf_37 rfl (by assumption) ?_
    refine e_iconst (pc := 38) (v := 2) dX5_rankOf_38 (by decide) ?_
    refine e_icmp_ne (pc := 39) (tgt := 46) dX5_rankOf_39 (by decide) (fun hc_39 => ?_) (fun hc_39 => ?_)
    · refine e_iconst (pc := 46) (v := 1) dX5_rankOf_46 (by decide) ?_
      refine r_iret (pc := 47) dX5_rankOf_47 rfl ?_
      exact rt_i (by unfold n_rk; grind)
    · refine e_iconst (pc := 42) (v := 0) dX5_rankOf_42 (by decide) ?_
      refine e_goto (pc := 43) (tgt := 47) dX5_rankOf_43 (by decide) ?_
      refine r_iret (pc := 47) dX5_rankOf_47 rfl ?_
      exact rt_i (by unfold n_rk; grind)
  refine e_tsw1 (pc := 4) 2 dX5_rankOf_4 (by decide) (by decide) (off := 44) (tgt := 48) rfl (by decide) (fun hs_4_2 => ?_) (fun hs_4_2 => ?_)
  · refine e_aload_n (pc := 48) dX5_rankOf_48 rfl ?_
    refine e_aload_n (pc := 49) dX5_rankOf_49 rfl ?_
    refine e_getA (pc := 50) dX5_rankOf_50 f_5_44 rfl rfl ?_
    refine e_iload_n (pc := 53) dX5_rankOf_53 rfl ?_
    first | refine e_ialdN (pc := 54) dX5_rankOf_54 rfl (by omega) (by decide) ?_ | refine e_iald (pc := 54) dX5_rankOf_54 rfl (by assumption) ?_
    rw [hsc]
    refine e_self1i (pc := 55) dX5_rankOf_55 cs_X5_rankOf_162 cv_X5_freeFor rc_X5_freeFor rfl (by decide) (Nat.le_of_ble_eq_true rfl) (ev_X5_freeFor hW hs) ?_
    refine r_iret (pc := 58) dX5_rankOf_58 rfl ?_
    exact rt_i (by unfold n_rk; grind)
  refine e_tsw1 (pc := 4) 3 dX5_rankOf_4 (by decide) (by decide) (off := 55) (tgt := 59) rfl (by decide) (fun hs_4_3 => ?_) (fun hs_4_3 => ?_)
  · refine e_aload_n (pc := 59) dX5_rankOf_59 rfl ?_
    refine e_getA (pc := 60) dX5_rankOf_60 f_5_50 rfl rfl ?_
    refine e_iload_n (pc := 63) dX5_rankOf_63 rfl ?_
    first | refine e_ialdN (pc := 64) dX5_rankOf_64 rfl (by omega) (by decide) ?_ | refine e_iald (pc := 64) dX5_rankOf_64 rfl (by assumption) ?_
    refine e_aload_n (pc := 65) dX5_rankOf_65 rfl ?_
    refine e_iload_n (pc := 66) dX5_rankOf_66 rfl ?_
    refine e_self1i (pc := 67) dX5_rankOf_67 cs_X5_rankOf_156 cv_X5_waitedOf rc_X5_waitedOf rfl (by decide) (Nat.le_of_ble_eq_true rfl) (ev_X5_waitedOf N (by omega)) ?_
    refine e_isub (pc := 70) dX5_rankOf_70 ?_
    refine r_iret (pc := 71) dX5_rankOf_71 rfl ?_
    exact rt_i (by unfold n_rk; grind)
  refine e_tswO (pc := 4) (tgt := 72) dX5_rankOf_4 (by have q1 := lv_neT hs_4_1 (a := 1) rfl; have q2 := lv_neT hs_4_2 (a := 2) rfl; have q3 := lv_neT hs_4_3 (a := 3) rfl; omega) (by decide) ?_
  refine e_iconst (pc := 72) (v := 0) dX5_rankOf_72 (by decide) ?_
  refine r_iret (pc := 73) dX5_rankOf_73 rfl ?_
  exact rt_i (by unfold n_rk; grind)
set_option maxHeartbeats 2000000 in
theorem lp_X5_nextCall {hn cn : Nat} {N : cr_M} (hW : n_W hn cn N) : ∀ (n j : Nat) (z : Int32), j + n = cn → z = s_oi (-1) (s_fo (fun c => N 16 c = 0 ∧ n_tk hn N c) (fun a b => n_rk hn N a < n_rk hn N b) j) → cr_Ev Y_X5_nextCall 4 [(2, .inl (nI j)), (0, .inr (.inr 0)), (1, .inl z)] [] N (some (.inl (s_oi (-1) (n_nx hn cn N))), N) := by
  obtain ⟨h10, h200, -, hsz, -⟩ := id hW
  intro n
  induction n with
  | zero =>
    intro j z hj hz
    refine e_iload_n (pc := 4) dX5_nextCall_4 rfl ?_
    refine e_aload_n (pc := 5) dX5_nextCall_5 rfl ?_
    refine e_getI (pc := 6) dX5_nextCall_6 f_5_142 rfl rfl ?_
    refine e_icmp_ge (pc := 9) (tgt := 54) dX5_nextCall_9 (by decide) (fun hc_9 => ?_) (fun hc_9 => ?_)
    · refine e_iload_n (pc := 54) dX5_nextCall_54 rfl ?_
      refine r_iret (pc := 55) dX5_nextCall_55 rfl ?_
      rw [hz, show j = cn by omega]; rfl
    · exact absurd (show N 0 5 ≤ nI j by rw [hsz]; exact nI_le (by omega) (by omega)) (by assumption)
  | succ n ih =>
    intro j z hj hz
    rcases hfo : s_fo (fun c => N 16 c = 0 ∧ n_tk hn N c) (fun a b => n_rk hn N a < n_rk hn N b) j with _ | b
    · rw [hfo] at hz
      have hz : z = (-1) := hz
      subst hz
      refine e_iload_n (pc := 4) dX5_nextCall_4 rfl ?_
      refine e_aload_n (pc := 5) dX5_nextCall_5 rfl ?_
      refine e_getI (pc := 6) dX5_nextCall_6 f_5_142 rfl rfl ?_
      refine e_icmp_ge (pc := 9) (tgt := 54) dX5_nextCall_9 (by decide) (fun hc_9 => ?_) (fun hc_9 => ?_)
      · exact absurd (show N 0 5 ≤ nI j by assumption) (by rw [hsz]; exact nI_ge (by omega) (by omega))
      · refine e_aload_n (pc := 12) dX5_nextCall_12 rfl ?_
        refine e_getA (pc := 13) dX5_nextCall_13 f_5_59 rfl rfl ?_
        refine e_iload_n (pc := 16) dX5_nextCall_16 rfl ?_
        first | refine e_ialdN (pc := 17) dX5_nextCall_17 rfl (by omega) (by decide) ?_ | refine e_iald (pc := 17) dX5_nextCall_17 rfl (by assumption) ?_
        refine e_if_ne (pc := 18) (tgt := 48) dX5_nextCall_18 (by decide) (fun hc_18 => ?_) (fun hc_18 => ?_)
        · first | refine e_iinc1 (pc := 48) dX5_nextCall_48 rfl (by decide) ?_ | refine e_iincp (pc := 48) dX5_nextCall_48 rfl (by decide) ?_
          refine e_goto (pc := 51) (tgt := 4) dX5_nextCall_51 (by decide) ?_
          exact e_wk (ih (j + 1) _ (by omega) (by first | (rw [s_fo_t (by grind [bI_eq0]) (by grind [bI_eq0])]; rfl) | (rw [s_fo_f (by grind [bI_eq0]), hfo]; rfl))) ⟨rfl, rfl, rfl, trivial⟩
        · refine e_aload_n (pc := 21) dX5_nextCall_21 rfl ?_
          refine e_iload_n (pc := 22) dX5_nextCall_22 rfl ?_
          refine e_self1i (pc := 23) dX5_nextCall_23 cs_X5_nextCall_165 cv_X5_isTakeable rc_X5_isTakeable rfl (by decide) (Nat.le_of_ble_eq_true rfl) (ev_X5_isTakeable hW (by omega)) ?_
          refine e_if_eq (pc := 26) (tgt := 48) dX5_nextCall_26 (by decide) (fun hc_26 => ?_) (fun hc_26 => ?_)
          · first | refine e_iinc1 (pc := 48) dX5_nextCall_48 rfl (by decide) ?_ | refine e_iincp (pc := 48) dX5_nextCall_48 rfl (by decide) ?_
            refine e_goto (pc := 51) (tgt := 4) dX5_nextCall_51 (by decide) ?_
            exact e_wk (ih (j + 1) _ (by omega) (by first | (rw [s_fo_t (by grind [bI_eq0]) (by grind [bI_eq0])]; rfl) | (rw [s_fo_f (by grind [bI_eq0]), hfo]; rfl))) ⟨rfl, rfl, rfl, trivial⟩
          · refine e_iload_n (pc := 29) dX5_nextCall_29 rfl ?_
            refine e_if_lt (pc := 30) (tgt := 46) dX5_nextCall_30 (by decide) (fun hc_30 => ?_) (fun hc_30 => ?_)
            · refine e_iload_n (pc := 46) dX5_nextCall_46 rfl ?_
              refine e_istore_n (pc := 47) dX5_nextCall_47 (by decide) ?_
              first | refine e_iinc1 (pc := 48) dX5_nextCall_48 rfl (by decide) ?_ | refine e_iincp (pc := 48) dX5_nextCall_48 rfl (by decide) ?_
              refine e_goto (pc := 51) (tgt := 4) dX5_nextCall_51 (by decide) ?_
              exact e_wk (ih (j + 1) _ (by omega) (by first | (rw [s_fo_t (by grind [bI_eq0]) (by grind [bI_eq0])]; rfl) | (rw [s_fo_f (by grind [bI_eq0]), hfo]; rfl))) ⟨rfl, rfl, rfl, trivial⟩
            · exact absurd (show (-1 : Int32) < 0 by decide) (by assumption)
    · rw [hfo] at hz
      have hz : z = nI b := hz
      have hb := s_fo_lt hfo
      have hbn : ¬ nI b < 0 := nI_pos (by omega)
      subst hz
      refine e_iload_n (pc := 4) dX5_nextCall_4 rfl ?_
      refine e_aload_n (pc := 5) dX5_nextCall_5 rfl ?_
      refine e_getI (pc := 6) dX5_nextCall_6 f_5_142 rfl rfl ?_
      refine e_icmp_ge (pc := 9) (tgt := 54) dX5_nextCall_9 (by decide) (fun hc_9 => ?_) (fun hc_9 => ?_)
      · exact absurd (show N 0 5 ≤ nI j by assumption) (by rw [hsz]; exact nI_ge (by omega) (by omega))
      · refine e_aload_n (pc := 12) dX5_nextCall_12 rfl ?_
        refine e_getA (pc := 13) dX5_nextCall_13 f_5_59 rfl rfl ?_
        refine e_iload_n (pc := 16) dX5_nextCall_16 rfl ?_
        first | refine e_ialdN (pc := 17) dX5_nextCall_17 rfl (by omega) (by decide) ?_ | refine e_iald (pc := 17) dX5_nextCall_17 rfl (by assumption) ?_
        refine e_if_ne (pc := 18) (tgt := 48) dX5_nextCall_18 (by decide) (fun hc_18 => ?_) (fun hc_18 => ?_)
        · first | refine e_iinc1 (pc := 48) dX5_nextCall_48 rfl (by decide) ?_ | refine e_iincp (pc := 48) dX5_nextCall_48 rfl (by decide) ?_
          refine e_goto (pc := 51) (tgt := 4) dX5_nextCall_51 (by decide) ?_
          exact e_wk (ih (j + 1) _ (by omega) (by first | (rw [s_fo_t (by grind [bI_eq0]) (by grind [bI_eq0])]; rfl) | (rw [s_fo_f (by grind [bI_eq0]), hfo]; rfl))) ⟨rfl, rfl, rfl, trivial⟩
        · refine e_aload_n (pc := 21) dX5_nextCall_21 rfl ?_
          refine e_iload_n (pc := 22) dX5_nextCall_22 rfl ?_
          refine e_self1i (pc := 23) dX5_nextCall_23 cs_X5_nextCall_165 cv_X5_isTakeable rc_X5_isTakeable rfl (by decide) (Nat.le_of_ble_eq_true rfl) (ev_X5_isTakeable hW (by omega)) ?_
          refine e_if_eq (pc := 26) (tgt := 48) dX5_nextCall_26 (by decide) (fun hc_26 => ?_) (fun hc_26 => ?_)
          · first | refine e_iinc1 (pc := 48) dX5_nextCall_48 rfl (by decide) ?_ | refine e_iincp (pc := 48) dX5_nextCall_48 rfl (by decide) ?_
            refine e_goto (pc := 51) (tgt := 4) dX5_nextCall_51 (by decide) ?_
            exact e_wk (ih (j + 1) _ (by omega) (by first | (rw [s_fo_t (by grind [bI_eq0]) (by grind [bI_eq0])]; rfl) | (rw [s_fo_f (by grind [bI_eq0]), hfo]; rfl))) ⟨rfl, rfl, rfl, trivial⟩
          · refine e_iload_n (pc := 29) dX5_nextCall_29 rfl ?_
            refine e_if_lt (pc := 30) (tgt := 46) dX5_nextCall_30 (by decide) (fun hc_30 => ?_) (fun hc_30 => ?_)
            · refine e_iload_n (pc := 46) dX5_nextCall_46 rfl ?_
              refine e_istore_n (pc := 47) dX5_nextCall_47 (by decide) ?_
              first | refine e_iinc1 (pc := 48) dX5_nextCall_48 rfl (by decide) ?_ | refine e_iincp (pc := 48) dX5_nextCall_48 rfl (by decide) ?_
              refine e_goto (pc := 51) (tgt := 4) dX5_nextCall_51 (by decide) ?_
              exact e_wk (ih (j + 1) _ (by omega) (by first | (rw [s_fo_t (by grind [bI_eq0]) (by grind [bI_eq0])]; rfl) | (rw [s_fo_f (by grind [bI_eq0]), hfo]; rfl))) ⟨rfl, rfl, rfl, trivial⟩
            · refine e_aload_n (pc := 33) dX5_nextCall_33 rfl ?_
              refine e_iload_n (pc := 34) dX5_nextCall_34 rfl ?_
              refine e_self1i (pc := 35) dX5_nextCall_35 cs_X5_nextCall_168 cv_X5_rankOf rc_X5_rankOf rfl (by decide) (Nat.le_of_ble_eq_true rfl) (ev_X5_rankOf hW (by omega)) ?_
              refine e_aload_n (pc := 38) dX5_nextCall_38 rfl ?_
              refine e_iload_n (pc := 39) dX5_nextCall_39 rfl ?_
              refine e_self1i (pc := 40) dX5_nextCall_40 cs_X5_nextCall_168 cv_X5_rankOf rc_X5_rankOf rfl (by decide) (Nat.le_of_ble_eq_true rfl) (ev_X5_rankOf hW (by omega)) ?_
              refine e_icmp_ge (pc := 43) (tgt := 48) dX5_nextCall_43 (by decide) (fun hc_43 => ?_) (fun hc_43 => ?_)
              · first | refine e_iinc1 (pc := 48) dX5_nextCall_48 rfl (by decide) ?_ | refine e_iincp (pc := 48) dX5_nextCall_48 rfl (by decide) ?_
                refine e_goto (pc := 51) (tgt := 4) dX5_nextCall_51 (by decide) ?_
                exact e_wk (ih (j + 1) _ (by omega) (by first | (rw [s_fo_t (by grind [bI_eq0]) (by grind [bI_eq0])]; rfl) | (rw [s_fo_f (by grind [bI_eq0]), hfo]; rfl))) ⟨rfl, rfl, rfl, trivial⟩
              · refine e_iload_n (pc := 46) dX5_nextCall_46 rfl ?_
                refine e_istore_n (pc := 47) dX5_nextCall_47 (by decide) ?_
                first | refine e_iinc1 (pc := 48) dX5_nextCall_48 rfl (by decide) ?_ | refine e_iincp (pc := 48) dX5_nextCall_48 rfl (by decide) ?_
                refine e_goto (pc := 51) (tgt := 4) dX5_nextCall_51 (by decide) ?_
                exact e_wk (ih (j + 1) _ (by omega) (by first | (rw [s_fo_t (by grind [bI_eq0]) (by grind [bI_eq0])]; rfl) | (rw [s_fo_f (by grind [bI_eq0]), hfo]; rfl))) ⟨rfl, rfl, rfl, trivial⟩
set_option maxHeartbeats 1000000 in
theorem ev_X5_nextCall {hn cn : Nat} {N : cr_M} (hW : n_W hn cn N) : cr_EvM Y_X5_nextCall [.inr (.inr 0)] N (some (.inl (s_oi (-1) (n_nx hn cn N))), N) := by
  refine e_iconst (pc := 0) (v := (-1)) dX5_nextCall_0 (by decide) ?_
  refine e_istore_n (pc := 1) dX5_nextCall_1 (by decide) ?_
  refine e_iconst (pc := 2) (v := 0) dX5_nextCall_2 (by decide) ?_
  refine e_istore_n (pc := 3) dX5_nextCall_3 (by decide) ?_
  exact e_wk (lp_X5_nextCall hW cn 0 _ (by omega) rfl) ⟨rfl, rfl, rfl, trivial⟩
noncomputable def n_so (N : cr_M) (k : Nat) : Nat → Int32
  | 0 => 0
  | j + 1 => n_so N k j + bI (0 < N 4 (4 * k + j))
theorem n_so4 (N : cr_M) (k : Nat) : n_so N k 4 = s_so N k := by
  simp only [n_so, s_so, Nat.add_zero]
  rw [show (0 : Int32) + bI (0 < N 4 (4 * k)) = bI (0 < N 4 (4 * k)) from Int32.zero_add _]
set_option maxHeartbeats 1000000 in
theorem lp_X5_sortsOf {N : cr_M} {k : Nat} (hk : k < 10) : ∀ (n j : Nat) (z : Int32), j + n = 4 → (z = n_so N k j) → cr_Ev Y_X5_sortsOf 4 [(3, .inl (nI j)), (0, .inr (.inr 0)), (1, .inl (nI k)), (2, .inl z)] [] N (some (.inl (s_so N k)), N) := by
  intro n
  induction n with
  | zero =>
    intro j z hj hz
    refine e_iload_n (pc := 4) dX5_sortsOf_4 rfl ?_
    refine e_iconst (pc := 5) (v := 4) dX5_sortsOf_5 (by decide) ?_
    refine e_icmp_ge (pc := 6) (tgt := 32) dX5_sortsOf_6 (by decide) (fun hc_6 => ?_) (fun hc_6 => ?_)
    · refine e_iload_n (pc := 32) dX5_sortsOf_32 rfl ?_
      refine r_iret (pc := 33) dX5_sortsOf_33 rfl ?_
      rw [hz, show j = 4 by omega, n_so4]
    · exact absurd (show (4 : Int32) ≤ nI j by rw [show (4 : Int32) = nI 4 from rfl]; exact nI_le (by omega) (by omega)) (by assumption)
  | succ n ih =>
    intro j z hj hz
    refine e_iload_n (pc := 4) dX5_sortsOf_4 rfl ?_
    refine e_iconst (pc := 5) (v := 4) dX5_sortsOf_5 (by decide) ?_
    refine e_icmp_ge (pc := 6) (tgt := 32) dX5_sortsOf_6 (by decide) (fun hc_6 => ?_) (fun hc_6 => ?_)
    · exact absurd (show (4 : Int32) ≤ nI j by assumption) (by rw [show (4 : Int32) = nI 4 from rfl]; exact nI_ge (by omega) (by omega))
    · refine e_iload_n (pc := 9) dX5_sortsOf_9 rfl ?_
      refine e_aload_n (pc := 10) dX5_sortsOf_10 rfl ?_
      refine e_iload_n (pc := 11) dX5_sortsOf_11 rfl ?_
      refine e_iload_n (pc := 12) dX5_sortsOf_12 rfl ?_
      refine e_self2i (pc := 13) dX5_sortsOf_13 cs_X5_sortsOf_134 cv_X5_gradeOf rc_X5_gradeOf rfl (by decide) (Nat.le_of_ble_eq_true rfl) (ev_X5_gradeOf N hk (by omega)) ?_
      refine e_if_le (pc := 16) (tgt := 23) dX5_sortsOf_16 (by decide) (fun hc_16 => ?_) (fun hc_16 => ?_)
      · refine e_iconst (pc := 23) (v := 0) dX5_sortsOf_23 (by decide) ?_
        refine e_iadd (pc := 24) dX5_sortsOf_24 ?_
        refine e_istore_n (pc := 25) dX5_sortsOf_25 (by decide) ?_
        first | refine e_iinc1 (pc := 26) dX5_sortsOf_26 rfl (by decide) ?_ | refine e_iincp (pc := 26) dX5_sortsOf_26 rfl (by decide) ?_
        refine e_goto (pc := 29) (tgt := 4) dX5_sortsOf_29 (by decide) ?_
        exact e_wk (ih (j + 1) _ (by omega) (by rw [n_so, hz]; first | rw [bI_t (by grind)] | rw [bI_f (by grind)])) ⟨rfl, rfl, rfl, rfl, trivial⟩
      · refine e_iconst (pc := 19) (v := 1) dX5_sortsOf_19 (by decide) ?_
        refine e_goto (pc := 20) (tgt := 24) dX5_sortsOf_20 (by decide) ?_
        refine e_iadd (pc := 24) dX5_sortsOf_24 ?_
        refine e_istore_n (pc := 25) dX5_sortsOf_25 (by decide) ?_
        first | refine e_iinc1 (pc := 26) dX5_sortsOf_26 rfl (by decide) ?_ | refine e_iincp (pc := 26) dX5_sortsOf_26 rfl (by decide) ?_
        refine e_goto (pc := 29) (tgt := 4) dX5_sortsOf_29 (by decide) ?_
        exact e_wk (ih (j + 1) _ (by omega) (by rw [n_so, hz]; first | rw [bI_t (by grind)] | rw [bI_f (by grind)])) ⟨rfl, rfl, rfl, rfl, trivial⟩
set_option maxHeartbeats 1000000 in
theorem ev_X5_sortsOf (N : cr_M) {k : Nat} (hk : k < 10) : cr_EvM Y_X5_sortsOf [.inr (.inr 0), .inl (nI k)] N (some (.inl (s_so N k)), N) := by
  refine e_iconst (pc := 0) (v := 0) dX5_sortsOf_0 (by decide) ?_
  refine e_istore_n (pc := 1) dX5_sortsOf_1 (by decide) ?_
  refine e_iconst (pc := 2) (v := 0) dX5_sortsOf_2 (by decide) ?_
  refine e_istore_n (pc := 3) dX5_sortsOf_3 (by decide) ?_
  exact e_wk (lp_X5_sortsOf hk 4 0 _ (by omega) rfl) ⟨rfl, rfl, rfl, rfl, trivial⟩
set_option maxHeartbeats 1000000 in
theorem ev_X5_isAhead (N : cr_M) {h p s : Nat} (hh : h < 10) (hp : p < 10) (hs : s < 4) : cr_EvM Y_X5_isAhead [.inr (.inr 0), .inl (nI h), .inl (nI p), .inl (nI s)] N (some (.inl (bI (s_ah N s h p))), N) := by
  unfold s_ah
  refine e_aload_n (pc := 0) dX5_isAhead_0 rfl ?_
  refine e_iload_n (pc := 1) dX5_isAhead_1 rfl ?_
  refine e_iload_n (pc := 2) dX5_isAhead_2 rfl ?_
  refine e_self2i (pc := 3) dX5_isAhead_3 cs_X5_isAhead_134 cv_X5_gradeOf rc_X5_gradeOf rfl (by decide) (Nat.le_of_ble_eq_true rfl) (ev_X5_gradeOf N (by assumption) hs) ?_
  refine e_aload_n (pc := 6) dX5_isAhead_6 rfl ?_
  refine e_iload_n (pc := 7) dX5_isAhead_7 rfl ?_
  refine e_iload_n (pc := 8) dX5_isAhead_8 rfl ?_
  refine e_self2i (pc := 9) dX5_isAhead_9 cs_X5_isAhead_134 cv_X5_gradeOf rc_X5_gradeOf rfl (by decide) (Nat.le_of_ble_eq_true rfl) (ev_X5_gradeOf N (by assumption) hs) ?_
  refine e_icmp_eq (pc := 12) (tgt := 36) dX5_isAhead_12 (by decide) (fun hc_12 => ?_) (fun hc_12 => ?_)
  · refine e_aload_n (pc := 36) dX5_isAhead_36 rfl ?_
    refine e_iload_n (pc := 37) dX5_isAhead_37 rfl ?_
    refine e_self1i (pc := 38) dX5_isAhead_38 cs_X5_isAhead_171 cv_X5_sortsOf rc_X5_sortsOf rfl (by decide) (Nat.le_of_ble_eq_true rfl) (ev_X5_sortsOf N (by assumption)) ?_
    refine e_aload_n (pc := 41) dX5_isAhead_41 rfl ?_
    refine e_iload_n (pc := 42) dX5_isAhead_42 rfl ?_
    refine e_self1i (pc := 43) dX5_isAhead_43 cs_X5_isAhead_171 cv_X5_sortsOf rc_X5_sortsOf rfl (by decide) (Nat.le_of_ble_eq_true rfl) (ev_X5_sortsOf N (by assumption)) ?_
    refine e_icmp_eq (pc := 46) (tgt := 68) dX5_isAhead_46 (by decide) (fun hc_46 => ?_) (fun hc_46 => ?_)
    · refine e_aload_n (pc := 68) dX5_isAhead_68 rfl ?_
      refine e_getA (pc := 69) dX5_isAhead_69 f_5_26 rfl rfl ?_
      refine e_iload_n (pc := 72) dX5_isAhead_72 rfl ?_
      first | refine e_ialdN (pc := 73) dX5_isAhead_73 rfl (by omega) (by decide) ?_ | refine e_iald (pc := 73) dX5_isAhead_73 rfl (by assumption) ?_
      refine e_aload_n (pc := 74) dX5_isAhead_74 rfl ?_
      refine e_getA (pc := 75) dX5_isAhead_75 f_5_26 rfl rfl ?_
      refine e_iload_n (pc := 78) dX5_isAhead_78 rfl ?_
      first | refine e_ialdN (pc := 79) dX5_isAhead_79 rfl (by omega) (by decide) ?_ | refine e_iald (pc := 79) dX5_isAhead_79 rfl (by assumption) ?_
      refine e_icmp_eq (pc := 80) (tgt := 99) dX5_isAhead_80 (by decide) (fun hc_80 => ?_) (fun hc_80 => ?_)
      · refine e_aload_n (pc := 99) dX5_isAhead_99 rfl ?_
        refine e_getA (pc := 100) dX5_isAhead_100 f_5_29 rfl rfl ?_
        refine e_iload_n (pc := 103) dX5_isAhead_103 rfl ?_
        first | refine e_ialdN (pc := 104) dX5_isAhead_104 rfl (by omega) (by decide) ?_ | refine e_iald (pc := 104) dX5_isAhead_104 rfl (by assumption) ?_
        refine e_aload_n (pc := 105) dX5_isAhead_105 rfl ?_
        refine e_getA (pc := 106) dX5_isAhead_106 f_5_29 rfl rfl ?_
        refine e_iload_n (pc := 109) dX5_isAhead_109 rfl ?_
        first | refine e_ialdN (pc := 110) dX5_isAhead_110 rfl (by omega) (by decide) ?_ | refine e_iald (pc := 110) dX5_isAhead_110 rfl (by assumption) ?_
        refine e_icmp_ge (pc := 111) (tgt := 118) dX5_isAhead_111 (by decide) (fun hc_111 => ?_) (fun hc_111 => ?_)
        · refine e_iconst (pc := 118) (v := 0) dX5_isAhead_118 (by decide) ?_
          refine r_zret (pc := 119) dX5_isAhead_119 rfl (by first | exact Or.inl rfl | exact Or.inr rfl | exact bI_01 _ | assumption) ?_
          first | exact rt_t (by grind) | exact rt_f (by grind)
        · refine e_iconst (pc := 114) (v := 1) dX5_isAhead_114 (by decide) ?_
          refine e_goto (pc := 115) (tgt := 119) dX5_isAhead_115 (by decide) ?_
          refine r_zret (pc := 119) dX5_isAhead_119 rfl (by first | exact Or.inl rfl | exact Or.inr rfl | exact bI_01 _ | assumption) ?_
          first | exact rt_t (by grind) | exact rt_f (by grind)
      · refine e_aload_n (pc := 83) dX5_isAhead_83 rfl ?_
        refine e_getA (pc := 84) dX5_isAhead_84 f_5_26 rfl rfl ?_
        refine e_iload_n (pc := 87) dX5_isAhead_87 rfl ?_
        first | refine e_ialdN (pc := 88) dX5_isAhead_88 rfl (by omega) (by decide) ?_ | refine e_iald (pc := 88) dX5_isAhead_88 rfl (by assumption) ?_
        refine e_iconst (pc := 89) (v := 1) dX5_isAhead_89 (by decide) ?_
        refine e_icmp_ne (pc := 90) (tgt := 97) dX5_isAhead_90 (by decide) (fun hc_90 => ?_) (fun hc_90 => ?_)
        · refine e_iconst (pc := 97) (v := 0) dX5_isAhead_97 (by decide) ?_
          refine r_zret (pc := 98) dX5_isAhead_98 rfl (by first | exact Or.inl rfl | exact Or.inr rfl | exact bI_01 _ | assumption) ?_
          first | exact rt_t (by grind) | exact rt_f (by grind)
        · refine e_iconst (pc := 93) (v := 1) dX5_isAhead_93 (by decide) ?_
          refine e_goto (pc := 94) (tgt := 98) dX5_isAhead_94 (by decide) ?_
          refine r_zret (pc := 98) dX5_isAhead_98 rfl (by first | exact Or.inl rfl | exact Or.inr rfl | exact bI_01 _ | assumption) ?_
          first | exact rt_t (by grind) | exact rt_f (by grind)
    · refine e_aload_n (pc := 49) dX5_isAhead_49 rfl ?_
      refine e_iload_n (pc := 50) dX5_isAhead_50 rfl ?_
      refine e_self1i (pc := 51) dX5_isAhead_51 cs_X5_isAhead_171 cv_X5_sortsOf rc_X5_sortsOf rfl (by decide) (Nat.le_of_ble_eq_true rfl) (ev_X5_sortsOf N (by assumption)) ?_
      refine e_aload_n (pc := 54) dX5_isAhead_54 rfl ?_
      refine e_iload_n (pc := 55) dX5_isAhead_55 rfl ?_
      refine e_self1i (pc := 56) dX5_isAhead_56 cs_X5_isAhead_171 cv_X5_sortsOf rc_X5_sortsOf rfl (by decide) (Nat.le_of_ble_eq_true rfl) (ev_X5_sortsOf N (by assumption)) ?_
      refine e_icmp_ge (pc := 59) (tgt := 66) dX5_isAhead_59 (by decide) (fun hc_59 => ?_) (fun hc_59 => ?_)
      · refine e_iconst (pc := 66) (v := 0) dX5_isAhead_66 (by decide) ?_
        refine r_zret (pc := 67) dX5_isAhead_67 rfl (by first | exact Or.inl rfl | exact Or.inr rfl | exact bI_01 _ | assumption) ?_
        first | exact rt_t (by grind) | exact rt_f (by grind)
      · refine e_iconst (pc := 62) (v := 1) dX5_isAhead_62 (by decide) ?_
        refine e_goto (pc := 63) (tgt := 67) dX5_isAhead_63 (by decide) ?_
        refine r_zret (pc := 67) dX5_isAhead_67 rfl (by first | exact Or.inl rfl | exact Or.inr rfl | exact bI_01 _ | assumption) ?_
        first | exact rt_t (by grind) | exact rt_f (by grind)
  · refine e_aload_n (pc := 15) dX5_isAhead_15 rfl ?_
    refine e_iload_n (pc := 16) dX5_isAhead_16 rfl ?_
    refine e_iload_n (pc := 17) dX5_isAhead_17 rfl ?_
    refine e_self2i (pc := 18) dX5_isAhead_18 cs_X5_isAhead_134 cv_X5_gradeOf rc_X5_gradeOf rfl (by decide) (Nat.le_of_ble_eq_true rfl) (ev_X5_gradeOf N (by assumption) hs) ?_
    refine e_aload_n (pc := 21) dX5_isAhead_21 rfl ?_
    refine e_iload_n (pc := 22) dX5_isAhead_22 rfl ?_
    refine e_iload_n (pc := 23) dX5_isAhead_23 rfl ?_
    refine e_self2i (pc := 24) dX5_isAhead_24 cs_X5_isAhead_134 cv_X5_gradeOf rc_X5_gradeOf rfl (by decide) (Nat.le_of_ble_eq_true rfl) (ev_X5_gradeOf N (by assumption) hs) ?_
    refine e_icmp_le (pc := 27) (tgt := 34) dX5_isAhead_27 (by decide) (fun hc_27 => ?_) (fun hc_27 => ?_)
    · refine e_iconst (pc := 34) (v := 0) dX5_isAhead_34 (by decide) ?_
      refine r_zret (pc := 35) dX5_isAhead_35 rfl (by first | exact Or.inl rfl | exact Or.inr rfl | exact bI_01 _ | assumption) ?_
      first | exact rt_t (by grind) | exact rt_f (by grind)
    · refine e_iconst (pc := 30) (v := 1) dX5_isAhead_30 (by decide) ?_
      refine e_goto (pc := 31) (tgt := 35) dX5_isAhead_31 (by decide) ?_
      refine r_zret (pc := 35) dX5_isAhead_35 rfl (by first | exact Or.inl rfl | exact Or.inr rfl | exact bI_01 _ | assumption) ?_
      first | exact rt_t (by grind) | exact rt_f (by grind)
set_option maxHeartbeats 2000000 in
theorem lp_X5_helperFor {hn cn : Nat} {N : cr_M} {c : Nat} (hW : n_W hn cn N) (hc : c < cn) : ∀ (n j : Nat) (z : Int32), j + n = hn → z = s_oi (-1) (s_fo (fun k => n_may N k c) (fun a b => s_ah N (n_s N c) a b) j) → cr_Ev Y_X5_helperFor 34 [(3, .inl (nI j)), (0, .inr (.inr 0)), (1, .inl (nI c)), (2, .inl z)] [] N (some (.inl (s_oi (-1) (s_fo (fun k => n_may N k c) (fun a b => s_ah N (n_s N c) a b) hn))), N) := by
  obtain ⟨h10, h200, hsz, -, hall⟩ := id hW
  obtain ⟨⟨s, hs, hsc⟩, -⟩ := hall c hc
  have hsn : n_s N c = s := by show (N 11 c).toNatClampNeg = s; rw [hsc]; exact nI_clamp (by omega)
  rw [hsn]
  intro n
  induction n with
  | zero =>
    intro j z hj hz
    refine e_iload_n (pc := 34) dX5_helperFor_34 rfl ?_
    refine e_aload_n (pc := 35) dX5_helperFor_35 rfl ?_
    refine e_getI (pc := 36) dX5_helperFor_36 f_5_124 rfl rfl ?_
    refine e_icmp_ge (pc := 39) (tgt := 78) dX5_helperFor_39 (by decide) (fun hc_39 => ?_) (fun hc_39 => ?_)
    · refine e_iload_n (pc := 78) dX5_helperFor_78 rfl ?_
      refine r_iret (pc := 79) dX5_helperFor_79 rfl ?_
      rw [hz, show j = hn by omega]
    · exact absurd (show N 0 4 ≤ nI j by rw [hsz]; exact nI_le (by omega) (by omega)) (by assumption)
  | succ n ih =>
    intro j z hj hz
    rcases hfo : s_fo (fun k => n_may N k c) (fun a b => s_ah N s a b) j with _ | b
    · rw [hfo] at hz
      have hz : z = (-1) := hz
      subst hz
      refine e_iload_n (pc := 34) dX5_helperFor_34 rfl ?_
      refine e_aload_n (pc := 35) dX5_helperFor_35 rfl ?_
      refine e_getI (pc := 36) dX5_helperFor_36 f_5_124 rfl rfl ?_
      refine e_icmp_ge (pc := 39) (tgt := 78) dX5_helperFor_39 (by decide) (fun hc_39 => ?_) (fun hc_39 => ?_)
      · exact absurd (show N 0 4 ≤ nI j by assumption) (by rw [hsz]; exact nI_ge (by omega) (by omega))
      · refine e_aload_n (pc := 42) dX5_helperFor_42 rfl ?_
        refine e_iload_n (pc := 43) dX5_helperFor_43 rfl ?_
        refine e_iload_n (pc := 44) dX5_helperFor_44 rfl ?_
        refine e_self2i (pc := 45) dX5_helperFor_45 cs_X5_helperFor_159 cv_X5_may rc_X5_may rfl (by decide) (Nat.le_of_ble_eq_true rfl) (ev_X5_may N (by omega) (by omega) hs hsc) ?_
        refine e_if_eq (pc := 48) (tgt := 72) dX5_helperFor_48 (by decide) (fun hc_48 => ?_) (fun hc_48 => ?_)
        · first | refine e_iinc1 (pc := 72) dX5_helperFor_72 rfl (by decide) ?_ | refine e_iincp (pc := 72) dX5_helperFor_72 rfl (by decide) ?_
          refine e_goto (pc := 75) (tgt := 34) dX5_helperFor_75 (by decide) ?_
          exact e_wk (ih (j + 1) _ (by omega) (by first | (rw [s_fo_t (by grind [bI_eq0]) (by grind [bI_eq0])]; rfl) | (rw [s_fo_f (by grind [bI_eq0]), hfo]; rfl))) ⟨rfl, rfl, rfl, rfl, trivial⟩
        · refine e_iload_n (pc := 51) dX5_helperFor_51 rfl ?_
          refine e_if_lt (pc := 52) (tgt := 70) dX5_helperFor_52 (by decide) (fun hc_52 => ?_) (fun hc_52 => ?_)
          · refine e_iload_n (pc := 70) dX5_helperFor_70 rfl ?_
            refine e_istore_n (pc := 71) dX5_helperFor_71 (by decide) ?_
            first | refine e_iinc1 (pc := 72) dX5_helperFor_72 rfl (by decide) ?_ | refine e_iincp (pc := 72) dX5_helperFor_72 rfl (by decide) ?_
            refine e_goto (pc := 75) (tgt := 34) dX5_helperFor_75 (by decide) ?_
            exact e_wk (ih (j + 1) _ (by omega) (by first | (rw [s_fo_t (by grind [bI_eq0]) (by grind [bI_eq0])]; rfl) | (rw [s_fo_f (by grind [bI_eq0]), hfo]; rfl))) ⟨rfl, rfl, rfl, rfl, trivial⟩
          · exact absurd (show (-1 : Int32) < 0 by decide) (by assumption)
    · rw [hfo] at hz
      have hz : z = nI b := hz
      have hb := s_fo_lt hfo
      have hbn : ¬ nI b < 0 := nI_pos (by omega)
      subst hz
      refine e_iload_n (pc := 34) dX5_helperFor_34 rfl ?_
      refine e_aload_n (pc := 35) dX5_helperFor_35 rfl ?_
      refine e_getI (pc := 36) dX5_helperFor_36 f_5_124 rfl rfl ?_
      refine e_icmp_ge (pc := 39) (tgt := 78) dX5_helperFor_39 (by decide) (fun hc_39 => ?_) (fun hc_39 => ?_)
      · exact absurd (show N 0 4 ≤ nI j by assumption) (by rw [hsz]; exact nI_ge (by omega) (by omega))
      · refine e_aload_n (pc := 42) dX5_helperFor_42 rfl ?_
        refine e_iload_n (pc := 43) dX5_helperFor_43 rfl ?_
        refine e_iload_n (pc := 44) dX5_helperFor_44 rfl ?_
        refine e_self2i (pc := 45) dX5_helperFor_45 cs_X5_helperFor_159 cv_X5_may rc_X5_may rfl (by decide) (Nat.le_of_ble_eq_true rfl) (ev_X5_may N (by omega) (by omega) hs hsc) ?_
        refine e_if_eq (pc := 48) (tgt := 72) dX5_helperFor_48 (by decide) (fun hc_48 => ?_) (fun hc_48 => ?_)
        · first | refine e_iinc1 (pc := 72) dX5_helperFor_72 rfl (by decide) ?_ | refine e_iincp (pc := 72) dX5_helperFor_72 rfl (by decide) ?_
          refine e_goto (pc := 75) (tgt := 34) dX5_helperFor_75 (by decide) ?_
          exact e_wk (ih (j + 1) _ (by omega) (by first | (rw [s_fo_t (by grind [bI_eq0]) (by grind [bI_eq0])]; rfl) | (rw [s_fo_f (by grind [bI_eq0]), hfo]; rfl))) ⟨rfl, rfl, rfl, rfl, trivial⟩
        · refine e_iload_n (pc := 51) dX5_helperFor_51 rfl ?_
          refine e_if_lt (pc := 52) (tgt := 70) dX5_helperFor_52 (by decide) (fun hc_52 => ?_) (fun hc_52 => ?_)
          · refine e_iload_n (pc := 70) dX5_helperFor_70 rfl ?_
            refine e_istore_n (pc := 71) dX5_helperFor_71 (by decide) ?_
            first | refine e_iinc1 (pc := 72) dX5_helperFor_72 rfl (by decide) ?_ | refine e_iincp (pc := 72) dX5_helperFor_72 rfl (by decide) ?_
            refine e_goto (pc := 75) (tgt := 34) dX5_helperFor_75 (by decide) ?_
            exact e_wk (ih (j + 1) _ (by omega) (by first | (rw [s_fo_t (by grind [bI_eq0]) (by grind [bI_eq0])]; rfl) | (rw [s_fo_f (by grind [bI_eq0]), hfo]; rfl))) ⟨rfl, rfl, rfl, rfl, trivial⟩
          · refine e_aload_n (pc := 55) dX5_helperFor_55 rfl ?_
            refine e_iload_n (pc := 56) dX5_helperFor_56 rfl ?_
            refine e_iload_n (pc := 57) dX5_helperFor_57 rfl ?_
            refine e_aload_n (pc := 58) dX5_helperFor_58 rfl ?_
            refine e_getA (pc := 59) dX5_helperFor_59 f_5_44 rfl rfl ?_
            refine e_iload_n (pc := 62) dX5_helperFor_62 rfl ?_
            first | refine e_ialdN (pc := 63) dX5_helperFor_63 rfl (by omega) (by decide) ?_ | refine e_iald (pc := 63) dX5_helperFor_63 rfl (by assumption) ?_
            rw [hsc]
            refine e_self3i (pc := 64) dX5_helperFor_64 cs_X5_helperFor_174 cv_X5_isAhead rc_X5_isAhead rfl (by decide) (Nat.le_of_ble_eq_true rfl) (ev_X5_isAhead N (by omega) (by omega) hs) ?_
            refine e_if_eq (pc := 67) (tgt := 72) dX5_helperFor_67 (by decide) (fun hc_67 => ?_) (fun hc_67 => ?_)
            · first | refine e_iinc1 (pc := 72) dX5_helperFor_72 rfl (by decide) ?_ | refine e_iincp (pc := 72) dX5_helperFor_72 rfl (by decide) ?_
              refine e_goto (pc := 75) (tgt := 34) dX5_helperFor_75 (by decide) ?_
              exact e_wk (ih (j + 1) _ (by omega) (by first | (rw [s_fo_t (by grind [bI_eq0]) (by grind [bI_eq0])]; rfl) | (rw [s_fo_f (by grind [bI_eq0]), hfo]; rfl))) ⟨rfl, rfl, rfl, rfl, trivial⟩
            · refine e_iload_n (pc := 70) dX5_helperFor_70 rfl ?_
              refine e_istore_n (pc := 71) dX5_helperFor_71 (by decide) ?_
              first | refine e_iinc1 (pc := 72) dX5_helperFor_72 rfl (by decide) ?_ | refine e_iincp (pc := 72) dX5_helperFor_72 rfl (by decide) ?_
              refine e_goto (pc := 75) (tgt := 34) dX5_helperFor_75 (by decide) ?_
              exact e_wk (ih (j + 1) _ (by omega) (by first | (rw [s_fo_t (by grind [bI_eq0]) (by grind [bI_eq0])]; rfl) | (rw [s_fo_f (by grind [bI_eq0]), hfo]; rfl))) ⟨rfl, rfl, rfl, rfl, trivial⟩
end
section
/-! giving, and a tick, on the reference's memory -/
noncomputable def n_g1 (N : cr_M) (c k : Nat) : cr_M := fun q i =>
  if q = 20 ∧ i = c then N 0 3 - N 17 c else if q = 21 ∧ i = c ∧ N 21 c = -9 then N 0 3 - N 17 c else if q = 16 ∧ i = c then 1 else if q = 18 ∧ i = c then nI k
  else if q = 19 ∧ i = c then N 0 3 + (N 12 c * (5 - N 4 (4 * k + n_s N c)) + 3) / 4 else if q = 22 ∧ i = k then N 22 k + 1 else if q = 24 ∧ i = k then bI (N 10 c = 3)
  else if q = 5 ∧ i = k then 2 else if q = 6 ∧ i = k then N 0 3 else N q i
noncomputable def n_gv (hn cn : Nat) : Nat → cr_M → cr_M
  | 0, N => N
  | m + 1, N => match n_nx hn cn N with
    | none => N
    | some c => match n_hf hn N c with
      | none => N
      | some k => n_gv hn cn m (n_g1 N c k)
def n_cw (N : cr_M) : Nat → Nat
  | 0 => 0
  | j + 1 => n_cw N j + (if N 16 j = 0 then 1 else 0)
theorem n_cw_le (N : cr_M) (j : Nat) : n_cw N j ≤ j := by
  induction j with
  | zero => exact Nat.le_refl _
  | succ j ih => rw [n_cw]; split <;> omega
theorem n_cw_pos {N : cr_M} {c j : Nat} (hc : c < j) (h : N 16 c = 0) : 0 < n_cw N j := by
  induction j with
  | zero => omega
  | succ j ih =>
    rw [n_cw]
    rcases Nat.lt_or_ge c j with q | q
    · have := ih q; omega
    · have e : c = j := by omega
      subst e
      rw [if_pos h]; omega
theorem n_g1_16 (N : cr_M) (c k i : Nat) : n_g1 N c k 16 i = if i = c then 1 else N 16 i := by
  unfold n_g1; simp
theorem n_cw_g1 {N : cr_M} {c k j : Nat} (h : N 16 c = 0) : n_cw (n_g1 N c k) j = if c < j then n_cw N j - 1 else n_cw N j := by
  induction j with
  | zero => rw [if_neg (by omega)]; rfl
  | succ j ih =>
    rw [n_cw, n_cw, ih, n_g1_16]
    by_cases hj : j = c
    · subst hj
      rw [if_neg (Nat.lt_irrefl _), if_pos (Nat.lt_succ_self _), if_pos rfl, if_pos h, if_neg (by decide)]
      omega
    · rw [if_neg hj]
      rcases Nat.lt_or_ge c j with q | q
      · have hp := n_cw_pos q h
        rw [if_pos q, if_pos (show c < j + 1 by omega)]
        split <;> omega
      · rw [if_neg (show ¬ c < j by omega), if_neg (show ¬ c < j + 1 by omega)]
theorem n_hf_some {hn cn : Nat} {N : cr_M} {c : Nat} (hW : n_W hn cn N) (hc : c < cn) (h : n_tk hn N c) : ∃ k, k < hn ∧ n_hf hn N c = some k ∧ n_may N k c := by
  unfold n_hf
  by_cases ho : 0 ≤ N 15 c ∧ n_may N (N 15 c).toNatClampNeg c
  · rw [if_pos ho]
    rcases (hW.2.2.2.2 c hc).2 with e | ⟨k, hk, e⟩
    · rw [e] at ho; exact absurd ho.1 (by decide)
    · rw [e, nI_clamp (by have := hW.1; omega)] at ho ⊢
      exact ⟨k, hk, rfl, ho.2⟩
  · rw [if_neg ho]
    rcases hf : s_fo (fun k => n_may N k c) (fun a b => s_ah N (n_s N c) a b) hn with _ | k
    · obtain ⟨i, hi, hm⟩ := h
      exact absurd hm (s_fo_none hf i hi)
    · have q := s_fo_lt hf
      exact ⟨k, q.1, rfl, q.2⟩
theorem n_nx_some {hn cn : Nat} {N : cr_M} {c : Nat} (h : n_nx hn cn N = some c) : c < cn ∧ N 16 c = 0 ∧ n_tk hn N c := by
  have q := s_fo_lt h
  exact ⟨q.1, q.2.1, q.2.2⟩
theorem n_W_of {hn cn : Nat} {N N' : cr_M} (h : n_W hn cn N) (h4 : N' 0 4 = N 0 4) (h5 : N' 0 5 = N 0 5) (h11 : ∀ c, c < cn → N' 11 c = N 11 c) (h15 : ∀ c, c < cn → N' 15 c = N 15 c) : n_W hn cn N' := by
  obtain ⟨a, b, c, d, e⟩ := h
  refine ⟨a, b, h4.trans c, h5.trans d, fun i hi => ?_⟩
  rw [h11 i hi, h15 i hi]
  exact e i hi
theorem n_W_g1 {hn cn : Nat} {N : cr_M} {c k : Nat} (h : n_W hn cn N) : n_W hn cn (n_g1 N c k) :=
  n_W_of h rfl rfl (fun _ _ => rfl) (fun _ _ => rfl)
def n_busy (hn : Nat) (x : Int32) (N : cr_M) : cr_M := fun q i => if q = 9 ∧ i < hn ∧ N 5 i = 2 then N 9 i + x else N q i
def n_tick (N : cr_M) : cr_M := cr_up N 0 3 (N 0 3 + 1)
def n_e1 (N : cr_M) (c k : Nat) : cr_M := n_los (cr_up (cr_up (cr_up N 16 c 2) 19 c (-9)) 8 k (N 8 k + 1)) k
def n_ec (N : cr_M) : Nat → cr_M
  | 0 => N
  | j + 1 => if n_ec N j 16 j = 1 ∧ n_ec N j 19 j ≤ n_ec N j 0 3 then n_e1 (n_ec N j) j (n_ec N j 18 j).toNatClampNeg else n_ec N j
def n_ecn (N : cr_M) : Nat → Int32
  | 0 => 0
  | j + 1 => if n_ec N j 16 j = 1 ∧ n_ec N j 19 j ≤ n_ec N j 0 3 then n_ecn N j + 1 else n_ecn N j
def n_brk (hn : Nat) (N : cr_M) : cr_M := fun q i => if q = 5 ∧ i < hn ∧ N 5 i = 3 ∧ N 7 i ≤ N 0 3 then 1 else if q = 6 ∧ i < hn ∧ N 5 i = 3 ∧ N 7 i ≤ N 0 3 then N 0 3 else N q i
def n_ring (cn : Nat) (N : cr_M) : cr_M := fun q i => if q = 16 ∧ i < cn ∧ N 16 i = 4 ∧ N 19 i ≤ N 0 3 then 0 else if q = 17 ∧ i < cn ∧ N 16 i = 4 ∧ N 19 i ≤ N 0 3 then N 0 3 else if q = 19 ∧ i < cn ∧ N 16 i = 4 ∧ N 19 i ≤ N 0 3 then -9 else N q i
def n_lose (cn : Nat) (N : cr_M) : cr_M := fun q i => if q = 16 ∧ i < cn ∧ N 16 i = 0 ∧ N 13 i < N 0 3 - N 17 i then 3 else N q i
/-- which cells ending a call may change -/
theorem n_e1_out {N : cr_M} {c k q i : Nat} (h16 : ¬ q = 16) (h19 : ¬ q = 19) (h8 : ¬ q = 8) (h22 : ¬ q = 22) (h5 : ¬ q = 5) (h6 : ¬ q = 6) : n_e1 N c k q i = N q i := by
  simp [n_e1, n_los, n_bec, cr_rd, h16, h19, h8, h22, h5, h6]
theorem n_e1_16 {N : cr_M} {c k i : Nat} : n_e1 N c k 16 i = if i = c then 2 else N 16 i := by
  simp [n_e1, n_los, n_bec, cr_rd]
theorem n_ec_out {N : cr_M} {q i : Nat} (h16 : ¬ q = 16) (h19 : ¬ q = 19) (h8 : ¬ q = 8) (h22 : ¬ q = 22) (h5 : ¬ q = 5) (h6 : ¬ q = 6) : ∀ j, n_ec N j q i = N q i := by
  intro j
  induction j with
  | zero => rfl
  | succ j ih =>
    rw [n_ec]
    split
    · rw [n_e1_out h16 h19 h8 h22 h5 h6, ih]
    · exact ih
theorem n_ec_16 {N : cr_M} : ∀ (j i : Nat), j ≤ i → n_ec N j 16 i = N 16 i := by
  intro j
  induction j with
  | zero => intro i _; rfl
  | succ j ih =>
    intro i hi
    rw [n_ec]
    split
    · rw [n_e1_16, if_neg (by omega), ih i (by omega)]
    · exact ih i (by omega)
theorem vnar_0 : vp_nar .boolean 0 = 0 := rfl
theorem vnar_1 : vp_nar .boolean 1 = 1 := rfl
theorem vnar_b (p : Prop) : vp_nar .boolean (bI p) = bI p := by
  rcases bI_01 p with h | h <;> rw [h] <;> rfl
end
section
set_option maxHeartbeats 1000000 in
theorem ev_X5_helperFor {hn cn : Nat} {N : cr_M} {c : Nat} (hW : n_W hn cn N) (hc : c < cn) : cr_EvM Y_X5_helperFor [.inr (.inr 0), .inl (nI c)] N (some (.inl (s_oi (-1) (n_hf hn N c))), N) := by
  obtain ⟨h10, h200, hsz, -, hall⟩ := id hW
  obtain ⟨⟨s, hs, hsc⟩, hown⟩ := hall c hc
  show cr_EvM Y_X5_helperFor _ _ (some (.inl (s_oi (-1) (n_hf hn N c))), N)
  unfold n_hf
  rcases hown with hown | ⟨k, hk, hown⟩
  · refine e_aload_n (pc := 0) dX5_helperFor_0 rfl ?_
    refine e_getA (pc := 1) dX5_helperFor_1 f_5_56 rfl rfl ?_
    refine e_iload_n (pc := 4) dX5_helperFor_4 rfl ?_
    refine e_ialdV (pc := 5) (-9) dX5_helperFor_5 rfl (by omega) (by decide) hown ?_
    refine e_if_lt (pc := 6) (tgt := 30) dX5_helperFor_6 (by decide) (fun hc_6 => ?_) (fun hc_6 => ?_)
    · refine e_iconst (pc := 30) (v := (-1)) dX5_helperFor_30 (by decide) ?_
      refine e_istore_n (pc := 31) dX5_helperFor_31 (by decide) ?_
      refine e_iconst (pc := 32) (v := 0) dX5_helperFor_32 (by decide) ?_
      refine e_istore_n (pc := 33) dX5_helperFor_33 (by decide) ?_
      rw [if_neg (by rintro ⟨h1, -⟩; rw [hown] at h1; exact absurd h1 (by decide))]
      exact e_wk (lp_X5_helperFor hW hc hn 0 _ (by omega) rfl) ⟨rfl, rfl, rfl, rfl, trivial⟩
    · exact absurd (show (-9 : Int32) < 0 by decide) (by assumption)
  · refine e_aload_n (pc := 0) dX5_helperFor_0 rfl ?_
    refine e_getA (pc := 1) dX5_helperFor_1 f_5_56 rfl rfl ?_
    refine e_iload_n (pc := 4) dX5_helperFor_4 rfl ?_
    refine e_ialdV (pc := 5) (nI k) dX5_helperFor_5 rfl (by omega) (by decide) hown ?_
    refine e_if_lt (pc := 6) (tgt := 30) dX5_helperFor_6 (by decide) (fun hc_6 => ?_) (fun hc_6 => ?_)
    · exact absurd (by assumption : nI k < 0) (nI_pos (by omega))
    · refine e_aload_n (pc := 9) dX5_helperFor_9 rfl ?_
      refine e_aload_n (pc := 10) dX5_helperFor_10 rfl ?_
      refine e_getA (pc := 11) dX5_helperFor_11 f_5_56 rfl rfl ?_
      refine e_iload_n (pc := 14) dX5_helperFor_14 rfl ?_
      refine e_ialdV (pc := 15) (nI k) dX5_helperFor_15 rfl (by omega) (by decide) hown ?_
      refine e_iload_n (pc := 16) dX5_helperFor_16 rfl ?_
      refine e_self2i (pc := 17) dX5_helperFor_17 cs_X5_helperFor_159 cv_X5_may rc_X5_may rfl (by decide) (Nat.le_of_ble_eq_true rfl) (ev_X5_may N (by omega) (by omega) hs hsc) ?_
      refine e_if_eq (pc := 20) (tgt := 30) dX5_helperFor_20 (by decide) (fun hc_20 => ?_) (fun hc_20 => ?_)
      · refine e_iconst (pc := 30) (v := (-1)) dX5_helperFor_30 (by decide) ?_
        refine e_istore_n (pc := 31) dX5_helperFor_31 (by decide) ?_
        refine e_iconst (pc := 32) (v := 0) dX5_helperFor_32 (by decide) ?_
        refine e_istore_n (pc := 33) dX5_helperFor_33 (by decide) ?_
        rw [if_neg (by rintro ⟨h1, h2⟩; rw [hown, nI_clamp (by omega)] at h2; grind [bI_eq0])]
        exact e_wk (lp_X5_helperFor hW hc hn 0 _ (by omega) rfl) ⟨rfl, rfl, rfl, rfl, trivial⟩
      · refine e_aload_n (pc := 23) dX5_helperFor_23 rfl ?_
        refine e_getA (pc := 24) dX5_helperFor_24 f_5_56 rfl rfl ?_
        refine e_iload_n (pc := 27) dX5_helperFor_27 rfl ?_
        refine e_ialdV (pc := 28) (nI k) dX5_helperFor_28 rfl (by omega) (by decide) hown ?_
        refine r_iret (pc := 29) dX5_helperFor_29 rfl ?_
        rw [if_pos ⟨by rw [hown]; exact nI_pos' (by omega), by rw [hown, nI_clamp (by omega)]; grind [bI_eq0]⟩, hown, nI_clamp (by omega)]
        rfl
set_option maxHeartbeats 4000000 in
theorem lp_X5_give {hn cn : Nat} : ∀ (m : Nat) (N : cr_M), n_W hn cn N → n_cw N cn ≤ m → cr_Ev Y_X5_give 5 [(0, .inr (.inr 0)), (1, .inl (s_oi (-1) (n_nx hn cn N)))] [] N (none, n_gv hn cn m N) := by
  intro m
  induction m with
  | zero =>
    intro N hW hcw
    have hnx : n_nx hn cn N = none := by
      rcases h : n_nx hn cn N with _ | c
      · rfl
      · have q := n_nx_some h
        have := n_cw_pos q.1 q.2.1
        omega
    rw [hnx]
    show cr_Ev Y_X5_give 5 [(0, .inr (.inr 0)), (1, .inl (-1))] [] N (none, N)
    refine e_iload_n (pc := 5) dX5_give_5 rfl ?_
    refine e_if_lt (pc := 6) (tgt := 143) dX5_give_6 (by decide) (fun hc_6 => ?_) (fun hc_6 => ?_)
    · refine r_vret (pc := 143) dX5_give_143 rfl ?_
      rfl
    · exact absurd (show (-1 : Int32) < 0 by decide) (by assumption)
  | succ m ih =>
    intro N hW hcw
    rcases hnx : n_nx hn cn N with _ | c
    · rw [show n_gv hn cn (m + 1) N = N by rw [n_gv, hnx]]
      show cr_Ev Y_X5_give 5 [(0, .inr (.inr 0)), (1, .inl (-1))] [] N (none, N)
      refine e_iload_n (pc := 5) dX5_give_5 rfl ?_
      refine e_if_lt (pc := 6) (tgt := 143) dX5_give_6 (by decide) (fun hc_6 => ?_) (fun hc_6 => ?_)
      · refine r_vret (pc := 143) dX5_give_143 rfl ?_
        rfl
      · exact absurd (show (-1 : Int32) < 0 by decide) (by assumption)
    · obtain ⟨hcc, hc0, htk⟩ := n_nx_some hnx
      obtain ⟨k, hk, hhf, hmay⟩ := n_hf_some hW hcc htk
      obtain ⟨h10, h200, hsz, -, hall⟩ := id hW
      obtain ⟨⟨s, hs, hsc⟩, -⟩ := hall c hcc
      have hsn : n_s N c = s := by show (N 11 c).toNatClampNeg = s; rw [hsc]; exact nI_clamp (by omega)
      have hcw2 : n_cw (n_g1 N c k) cn ≤ m := by rw [n_cw_g1 hc0, if_pos hcc]; omega
      rw [show n_gv hn cn (m + 1) N = n_gv hn cn m (n_g1 N c k) by rw [n_gv, hnx]; simp only [hhf]]
      show cr_Ev Y_X5_give 5 [(0, .inr (.inr 0)), (1, .inl (nI c))] [] N _
      have hmem : ∀ Z, Z = n_g1 N c k → cr_Ev Y_X5_give 135 [(0, .inr (.inr 0))] [] Z (none, n_gv hn cn m (n_g1 N c k)) := by
        intro Z hZ
        subst hZ
        refine e_aload_n (pc := 135) dX5_give_135 rfl ?_
        refine e_self0i (pc := 136) dX5_give_136 cs_X5_give_178 cv_X5_nextCall rc_X5_nextCall rfl (by decide) (Nat.le_of_ble_eq_true rfl) (ev_X5_nextCall (n_W_g1 hW)) ?_
        refine e_istore_n (pc := 139) dX5_give_139 (by decide) ?_
        refine e_goto (pc := 140) (tgt := 5) dX5_give_140 (by decide) ?_
        exact e_wk (ih _ (n_W_g1 hW) hcw2) ⟨rfl, rfl, trivial⟩
      refine e_iload_n (pc := 5) dX5_give_5 rfl ?_
      refine e_if_lt (pc := 6) (tgt := 143) dX5_give_6 (by decide) (fun hc_6 => ?_) (fun hc_6 => ?_)
      · exact absurd hc_6 (nI_pos (by omega))
      · refine e_aload_n (pc := 9) dX5_give_9 rfl ?_
        refine e_iload_n (pc := 10) dX5_give_10 rfl ?_
        refine e_self1i (pc := 11) dX5_give_11 cs_X5_give_182 cv_X5_helperFor rc_X5_helperFor rfl (by decide) (Nat.le_of_ble_eq_true rfl) (by have h := ev_X5_helperFor hW (c := c) hcc; rw [hhf] at h; exact h) ?_
        refine e_istore_n (pc := 14) dX5_give_14 (by decide) ?_
        refine e_aload_n (pc := 15) dX5_give_15 rfl ?_
        refine e_getA (pc := 16) dX5_give_16 f_5_71 rfl rfl ?_
        refine e_iload_n (pc := 19) dX5_give_19 rfl ?_
        refine e_aload_n (pc := 20) dX5_give_20 rfl ?_
        refine e_iload_n (pc := 21) dX5_give_21 rfl ?_
        refine e_self1i (pc := 22) dX5_give_22 cs_X5_give_156 cv_X5_waitedOf rc_X5_waitedOf rfl (by decide) (Nat.le_of_ble_eq_true rfl) (ev_X5_waitedOf _ (by omega)) ?_
        first | refine e_iastN (pc := 25) dX5_give_25 rfl (by omega) (by decide) ?_ | refine e_iast (pc := 25) dX5_give_25 rfl (by assumption) ?_
        refine e_aload_n (pc := 26) dX5_give_26 rfl ?_
        refine e_getA (pc := 27) dX5_give_27 f_5_74 rfl rfl ?_
        refine e_iload_n (pc := 30) dX5_give_30 rfl ?_
        first | refine e_ialdN (pc := 31) dX5_give_31 rfl (by omega) (by decide) ?_ | refine e_iald (pc := 31) dX5_give_31 rfl (by assumption) ?_
        refine e_bipush (pc := 32) (v := (-9)) dX5_give_32 (by decide) ?_
        refine e_icmp_ne (pc := 34) (tgt := 49) dX5_give_34 (by decide) (fun hc_34 => ?_) (fun hc_34 => ?_)
        · refine e_aload_n (pc := 49) dX5_give_49 rfl ?_
          refine e_getA (pc := 50) dX5_give_50 f_5_59 rfl rfl ?_
          refine e_iload_n (pc := 53) dX5_give_53 rfl ?_
          refine e_iconst (pc := 54) (v := 1) dX5_give_54 (by decide) ?_
          first | refine e_iastN (pc := 55) dX5_give_55 rfl (by omega) (by decide) ?_ | refine e_iast (pc := 55) dX5_give_55 rfl (by assumption) ?_
          refine e_aload_n (pc := 56) dX5_give_56 rfl ?_
          refine e_getA (pc := 57) dX5_give_57 f_5_65 rfl rfl ?_
          refine e_iload_n (pc := 60) dX5_give_60 rfl ?_
          refine e_iload_n (pc := 61) dX5_give_61 rfl ?_
          first | refine e_iastN (pc := 62) dX5_give_62 rfl (by omega) (by decide) ?_ | refine e_iast (pc := 62) dX5_give_62 rfl (by assumption) ?_
          refine e_aload_n (pc := 63) dX5_give_63 rfl ?_
          refine e_getA (pc := 64) dX5_give_64 f_5_68 rfl rfl ?_
          refine e_iload_n (pc := 67) dX5_give_67 rfl ?_
          refine e_aload_n (pc := 68) dX5_give_68 rfl ?_
          refine e_getI (pc := 69) dX5_give_69 f_5_127 rfl rfl ?_
          refine e_aload_n (pc := 72) dX5_give_72 rfl ?_
          refine e_getA (pc := 73) dX5_give_73 f_5_47 rfl rfl ?_
          refine e_iload_n (pc := 76) dX5_give_76 rfl ?_
          first | refine e_ialdN (pc := 77) dX5_give_77 rfl (by omega) (by decide) ?_ | refine e_iald (pc := 77) dX5_give_77 rfl (by assumption) ?_
          refine e_iconst (pc := 78) (v := 5) dX5_give_78 (by decide) ?_
          refine e_aload_n (pc := 79) dX5_give_79 rfl ?_
          refine e_iload_n (pc := 80) dX5_give_80 rfl ?_
          refine e_aload_n (pc := 81) dX5_give_81 rfl ?_
          refine e_getA (pc := 82) dX5_give_82 f_5_44 rfl rfl ?_
          refine e_iload_n (pc := 85) dX5_give_85 rfl ?_
          refine e_ialdV (pc := 86) (nI s) dX5_give_86 rfl (by omega) (by decide) hsc ?_
          refine e_self2i (pc := 87) dX5_give_87 cs_X5_give_134 cv_X5_gradeOf rc_X5_gradeOf rfl (by decide) (Nat.le_of_ble_eq_true rfl) (ev_X5_gradeOf _ (by omega) hs) ?_
          refine e_isub (pc := 90) dX5_give_90 ?_
          refine e_imul (pc := 91) dX5_give_91 ?_
          refine e_iconst (pc := 92) (v := 3) dX5_give_92 (by decide) ?_
          refine e_iadd (pc := 93) dX5_give_93 ?_
          refine e_iconst (pc := 94) (v := 4) dX5_give_94 (by decide) ?_
          refine e_idiv (pc := 95) dX5_give_95 (by decide) ?_
          refine e_iadd (pc := 96) dX5_give_96 ?_
          first | refine e_iastN (pc := 97) dX5_give_97 rfl (by omega) (by decide) ?_ | refine e_iast (pc := 97) dX5_give_97 rfl (by assumption) ?_
          refine e_aload_n (pc := 98) dX5_give_98 rfl ?_
          refine e_getA (pc := 99) dX5_give_99 f_5_77 rfl rfl ?_
          refine e_iload_n (pc := 102) dX5_give_102 rfl ?_
          refine e_dup2 (pc := 103) dX5_give_103 ?_
          first | refine e_ialdN (pc := 104) dX5_give_104 rfl (by omega) (by decide) ?_ | refine e_iald (pc := 104) dX5_give_104 rfl (by assumption) ?_
          refine e_iconst (pc := 105) (v := 1) dX5_give_105 (by decide) ?_
          refine e_iadd (pc := 106) dX5_give_106 ?_
          first | refine e_iastN (pc := 107) dX5_give_107 rfl (by omega) (by decide) ?_ | refine e_iast (pc := 107) dX5_give_107 rfl (by assumption) ?_
          refine e_aload_n (pc := 108) dX5_give_108 rfl ?_
          refine e_getA (pc := 109) dX5_give_109 f_5_83 rfl rfl ?_
          refine e_iload_n (pc := 112) dX5_give_112 rfl ?_
          refine e_aload_n (pc := 113) dX5_give_113 rfl ?_
          refine e_getA (pc := 114) dX5_give_114 f_5_41 rfl rfl ?_
          refine e_iload_n (pc := 117) dX5_give_117 rfl ?_
          first | refine e_ialdN (pc := 118) dX5_give_118 rfl (by omega) (by decide) ?_ | refine e_iald (pc := 118) dX5_give_118 rfl (by assumption) ?_
          refine e_iconst (pc := 119) (v := 3) dX5_give_119 (by decide) ?_
          refine e_icmp_ne (pc := 120) (tgt := 127) dX5_give_120 (by decide) (fun hc_120 => ?_) (fun hc_120 => ?_)
          · refine e_iconst (pc := 127) (v := 0) dX5_give_127 (by decide) ?_
            first | refine e_zastN (pc := 128) dX5_give_128 rfl (by omega) (by decide) ?_ | refine e_zast (pc := 128) dX5_give_128 rfl (by assumption) ?_
            refine e_aload_n (pc := 129) dX5_give_129 rfl ?_
            refine e_iload_n (pc := 130) dX5_give_130 rfl ?_
            refine e_iconst (pc := 131) (v := 2) dX5_give_131 (by decide) ?_
            refine e_self2v (pc := 132) dX5_give_132 cs_X5_give_138 cv_X5_becomes rc_X5_becomes rfl (by decide) (Nat.le_of_ble_eq_true rfl) (ev_X5_becomes _ _ (by omega)) ?_
            exact e_wk (hmem _ (by clear hmem ih; simp [cr_rd] at hc_34 hc_120; (first | have hb : bI (N 10 c = 3) = 1 := bI_t hc_120 | have hb : bI (N 10 c = 3) = 0 := bI_f hc_120); funext q i; simp only [cr_rd, n_g1, n_bec, hsn, s_oi, vnar_0, vnar_1, hb]; clear hall hW hnx hhf hmay htk; grind (splits := 30))) ⟨rfl, trivial⟩
          · refine e_iconst (pc := 123) (v := 1) dX5_give_123 (by decide) ?_
            refine e_goto (pc := 124) (tgt := 128) dX5_give_124 (by decide) ?_
            first | refine e_zastN (pc := 128) dX5_give_128 rfl (by omega) (by decide) ?_ | refine e_zast (pc := 128) dX5_give_128 rfl (by assumption) ?_
            refine e_aload_n (pc := 129) dX5_give_129 rfl ?_
            refine e_iload_n (pc := 130) dX5_give_130 rfl ?_
            refine e_iconst (pc := 131) (v := 2) dX5_give_131 (by decide) ?_
            refine e_self2v (pc := 132) dX5_give_132 cs_X5_give_138 cv_X5_becomes rc_X5_becomes rfl (by decide) (Nat.le_of_ble_eq_true rfl) (ev_X5_becomes _ _ (by omega)) ?_
            exact e_wk (hmem _ (by clear hmem ih; simp [cr_rd] at hc_34 hc_120; (first | have hb : bI (N 10 c = 3) = 1 := bI_t hc_120 | have hb : bI (N 10 c = 3) = 0 := bI_f hc_120); funext q i; simp only [cr_rd, n_g1, n_bec, hsn, s_oi, vnar_0, vnar_1, hb]; clear hall hW hnx hhf hmay htk; grind (splits := 30))) ⟨rfl, trivial⟩
        · refine e_aload_n (pc := 37) dX5_give_37 rfl ?_
          refine e_getA (pc := 38) dX5_give_38 f_5_74 rfl rfl ?_
          refine e_iload_n (pc := 41) dX5_give_41 rfl ?_
          refine e_aload_n (pc := 42) dX5_give_42 rfl ?_
          refine e_getA (pc := 43) dX5_give_43 f_5_71 rfl rfl ?_
          refine e_iload_n (pc := 46) dX5_give_46 rfl ?_
          first | refine e_ialdN (pc := 47) dX5_give_47 rfl (by omega) (by decide) ?_ | refine e_iald (pc := 47) dX5_give_47 rfl (by assumption) ?_
          first | refine e_iastN (pc := 48) dX5_give_48 rfl (by omega) (by decide) ?_ | refine e_iast (pc := 48) dX5_give_48 rfl (by assumption) ?_
          refine e_aload_n (pc := 49) dX5_give_49 rfl ?_
          refine e_getA (pc := 50) dX5_give_50 f_5_59 rfl rfl ?_
          refine e_iload_n (pc := 53) dX5_give_53 rfl ?_
          refine e_iconst (pc := 54) (v := 1) dX5_give_54 (by decide) ?_
          first | refine e_iastN (pc := 55) dX5_give_55 rfl (by omega) (by decide) ?_ | refine e_iast (pc := 55) dX5_give_55 rfl (by assumption) ?_
          refine e_aload_n (pc := 56) dX5_give_56 rfl ?_
          refine e_getA (pc := 57) dX5_give_57 f_5_65 rfl rfl ?_
          refine e_iload_n (pc := 60) dX5_give_60 rfl ?_
          refine e_iload_n (pc := 61) dX5_give_61 rfl ?_
          first | refine e_iastN (pc := 62) dX5_give_62 rfl (by omega) (by decide) ?_ | refine e_iast (pc := 62) dX5_give_62 rfl (by assumption) ?_
          refine e_aload_n (pc := 63) dX5_give_63 rfl ?_
          refine e_getA (pc := 64) dX5_give_64 f_5_68 rfl rfl ?_
          refine e_iload_n (pc := 67) dX5_give_67 rfl ?_
          refine e_aload_n (pc := 68) dX5_give_68 rfl ?_
          refine e_getI (pc := 69) dX5_give_69 f_5_127 rfl rfl ?_
          refine e_aload_n (pc := 72) dX5_give_72 rfl ?_
          refine e_getA (pc := 73) dX5_give_73 f_5_47 rfl rfl ?_
          refine e_iload_n (pc := 76) dX5_give_76 rfl ?_
          first | refine e_ialdN (pc := 77) dX5_give_77 rfl (by omega) (by decide) ?_ | refine e_iald (pc := 77) dX5_give_77 rfl (by assumption) ?_
          refine e_iconst (pc := 78) (v := 5) dX5_give_78 (by decide) ?_
          refine e_aload_n (pc := 79) dX5_give_79 rfl ?_
          refine e_iload_n (pc := 80) dX5_give_80 rfl ?_
          refine e_aload_n (pc := 81) dX5_give_81 rfl ?_
          refine e_getA (pc := 82) dX5_give_82 f_5_44 rfl rfl ?_
          refine e_iload_n (pc := 85) dX5_give_85 rfl ?_
          refine e_ialdV (pc := 86) (nI s) dX5_give_86 rfl (by omega) (by decide) hsc ?_
          refine e_self2i (pc := 87) dX5_give_87 cs_X5_give_134 cv_X5_gradeOf rc_X5_gradeOf rfl (by decide) (Nat.le_of_ble_eq_true rfl) (ev_X5_gradeOf _ (by omega) hs) ?_
          refine e_isub (pc := 90) dX5_give_90 ?_
          refine e_imul (pc := 91) dX5_give_91 ?_
          refine e_iconst (pc := 92) (v := 3) dX5_give_92 (by decide) ?_
          refine e_iadd (pc := 93) dX5_give_93 ?_
          refine e_iconst (pc := 94) (v := 4) dX5_give_94 (by decide) ?_
          refine e_idiv (pc := 95) dX5_give_95 (by decide) ?_
          refine e_iadd (pc := 96) dX5_give_96 ?_
          first | refine e_iastN (pc := 97) dX5_give_97 rfl (by omega) (by decide) ?_ | refine e_iast (pc := 97) dX5_give_97 rfl (by assumption) ?_
          refine e_aload_n (pc := 98) dX5_give_98 rfl ?_
          refine e_getA (pc := 99) dX5_give_99 f_5_77 rfl rfl ?_
          refine e_iload_n (pc := 102) dX5_give_102 rfl ?_
          refine e_dup2 (pc := 103) dX5_give_103 ?_
          first | refine e_ialdN (pc := 104) dX5_give_104 rfl (by omega) (by decide) ?_ | refine e_iald (pc := 104) dX5_give_104 rfl (by assumption) ?_
          refine e_iconst (pc := 105) (v := 1) dX5_give_105 (by decide) ?_
          refine e_iadd (pc := 106) dX5_give_106 ?_
          first | refine e_iastN (pc := 107) dX5_give_107 rfl (by omega) (by decide) ?_ | refine e_iast (pc := 107) dX5_give_107 rfl (by assumption) ?_
          refine e_aload_n (pc := 108) dX5_give_108 rfl ?_
          refine e_getA (pc := 109) dX5_give_109 f_5_83 rfl rfl ?_
          refine e_iload_n (pc := 112) dX5_give_112 rfl ?_
          refine e_aload_n (pc := 113) dX5_give_113 rfl ?_
          refine e_getA (pc := 114) dX5_give_114 f_5_41 rfl rfl ?_
          refine e_iload_n (pc := 117) dX5_give_117 rfl ?_
          first | refine e_ialdN (pc := 118) dX5_give_118 rfl (by omega) (by decide) ?_ | refine e_iald (pc := 118) dX5_give_118 rfl (by assumption) ?_
          refine e_iconst (pc := 119) (v := 3) dX5_give_119 (by decide) ?_
          refine e_icmp_ne (pc := 120) (tgt := 127) dX5_give_120 (by decide) (fun hc_120 => ?_) (fun hc_120 => ?_)
          · refine e_iconst (pc := 127) (v := 0) dX5_give_127 (by decide) ?_
            first | refine e_zastN (pc := 128) dX5_give_128 rfl (by omega) (by decide) ?_ | refine e_zast (pc := 128) dX5_give_128 rfl (by assumption) ?_
            refine e_aload_n (pc := 129) dX5_give_129 rfl ?_
            refine e_iload_n (pc := 130) dX5_give_130 rfl ?_
            refine e_iconst (pc := 131) (v := 2) dX5_give_131 (by decide) ?_
            refine e_self2v (pc := 132) dX5_give_132 cs_X5_give_138 cv_X5_becomes rc_X5_becomes rfl (by decide) (Nat.le_of_ble_eq_true rfl) (ev_X5_becomes _ _ (by omega)) ?_
            exact e_wk (hmem _ (by clear hmem ih; simp [cr_rd] at hc_34 hc_120; (first | have hb : bI (N 10 c = 3) = 1 := bI_t hc_120 | have hb : bI (N 10 c = 3) = 0 := bI_f hc_120); funext q i; simp only [cr_rd, n_g1, n_bec, hsn, s_oi, vnar_0, vnar_1, hb]; clear hall hW hnx hhf hmay htk; grind (splits := 30))) ⟨rfl, trivial⟩
          · refine e_iconst (pc := 123) (v := 1) dX5_give_123 (by decide) ?_
            refine e_goto (pc := 124) (tgt := 128) dX5_give_124 (by decide) ?_
            first | refine e_zastN (pc := 128) dX5_give_128 rfl (by omega) (by decide) ?_ | refine e_zast (pc := 128) dX5_give_128 rfl (by assumption) ?_
            refine e_aload_n (pc := 129) dX5_give_129 rfl ?_
            refine e_iload_n (pc := 130) dX5_give_130 rfl ?_
            refine e_iconst (pc := 131) (v := 2) dX5_give_131 (by decide) ?_
            refine e_self2v (pc := 132) dX5_give_132 cs_X5_give_138 cv_X5_becomes rc_X5_becomes rfl (by decide) (Nat.le_of_ble_eq_true rfl) (ev_X5_becomes _ _ (by omega)) ?_
            exact e_wk (hmem _ (by clear hmem ih; simp [cr_rd] at hc_34 hc_120; (first | have hb : bI (N 10 c = 3) = 1 := bI_t hc_120 | have hb : bI (N 10 c = 3) = 0 := bI_f hc_120); funext q i; simp only [cr_rd, n_g1, n_bec, hsn, s_oi, vnar_0, vnar_1, hb]; clear hall hW hnx hhf hmay htk; grind (splits := 30))) ⟨rfl, trivial⟩
set_option maxHeartbeats 1000000 in
theorem ev_X5_give {hn cn : Nat} {N : cr_M} (hW : n_W hn cn N) : cr_EvM Y_X5_give [.inr (.inr 0)] N (none, n_gv hn cn cn N) := by
  refine e_aload_n (pc := 0) dX5_give_0 rfl ?_
  refine e_self0i (pc := 1) dX5_give_1 cs_X5_give_178 cv_X5_nextCall rc_X5_nextCall rfl (by decide) (Nat.le_of_ble_eq_true rfl) (ev_X5_nextCall hW) ?_
  refine e_istore_n (pc := 4) dX5_give_4 (by decide) ?_
  exact e_wk (lp_X5_give cn N hW (n_cw_le N cn)) ⟨rfl, rfl, trivial⟩
end
