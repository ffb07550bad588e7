section
-- ===== PART A: goes FIRST, ahead of the names: the tables' words, and 'selects' of the private methods out of them =====
/-- a private method of a class that the tables say can be made, by its rows of tables_1 -/
def lw_okq (q : MethodName × Nat) : Prop := (q.1.cls ≠ "java/lang/invoke/MethodHandle" ∧ q.1.cls ≠ "java/lang/invoke/VarHandle") ∧ Cond.instantiable q.1.cls q.2 ∈ tables_1 ∧ Cond.privateMethod q.1 ∈ tables_1 ∧ Cond.instanceMethod q.1 ∈ tables_1
theorem lw_p0 : lw_okq (⟨"BallastClub$History", "stateAt", "(I)LBallastClub$State;"⟩, 3) := ⟨⟨by decide +kernel, by decide +kernel⟩, List.mem_of_getElem? (i := 83) (by decide +kernel), List.mem_of_getElem? (i := 159) (by decide +kernel), List.mem_of_getElem? (i := 160) (by decide +kernel)⟩
theorem lw_p1 : lw_okq (⟨"BallastClub$State", "closeMove", "(I)V"⟩, 9) := ⟨⟨by decide +kernel, by decide +kernel⟩, List.mem_of_getElem? (i := 18) (by decide +kernel), List.mem_of_getElem? (i := 323) (by decide +kernel), List.mem_of_getElem? (i := 324) (by decide +kernel)⟩
theorem lw_p2 : lw_okq (⟨"BallastClub$State", "standBy", "(I)V"⟩, 9) := ⟨⟨by decide +kernel, by decide +kernel⟩, List.mem_of_getElem? (i := 18) (by decide +kernel), List.mem_of_getElem? (i := 343) (by decide +kernel), List.mem_of_getElem? (i := 344) (by decide +kernel)⟩
theorem lw_p3 : lw_okq (⟨"BallastClub$State", "carryOver", "(I)V"⟩, 9) := ⟨⟨by decide +kernel, by decide +kernel⟩, List.mem_of_getElem? (i := 18) (by decide +kernel), List.mem_of_getElem? (i := 351) (by decide +kernel), List.mem_of_getElem? (i := 352) (by decide +kernel)⟩
theorem lw_p4 : lw_okq (⟨"BallastClub$State", "lift", "(I)V"⟩, 9) := ⟨⟨by decide +kernel, by decide +kernel⟩, List.mem_of_getElem? (i := 18) (by decide +kernel), List.mem_of_getElem? (i := 356) (by decide +kernel), List.mem_of_getElem? (i := 357) (by decide +kernel)⟩
theorem lw_p5 : lw_okq (⟨"BallastClub$WindText", "readNumber", "(I)I"⟩, 4) := ⟨⟨by decide +kernel, by decide +kernel⟩, List.mem_of_getElem? (i := 102) (by decide +kernel), List.mem_of_getElem? (i := 392) (by decide +kernel), List.mem_of_getElem? (i := 393) (by decide +kernel)⟩
theorem lw_p6 : lw_okq (⟨"BallastClub$WindText", "sign", "()I"⟩, 4) := ⟨⟨by decide +kernel, by decide +kernel⟩, List.mem_of_getElem? (i := 102) (by decide +kernel), List.mem_of_getElem? (i := 396) (by decide +kernel), List.mem_of_getElem? (i := 397) (by decide +kernel)⟩
theorem lw_p7 : lw_okq (⟨"BallastClub$WindText", "readSign", "(C)Z"⟩, 4) := ⟨⟨by decide +kernel, by decide +kernel⟩, List.mem_of_getElem? (i := 102) (by decide +kernel), List.mem_of_getElem? (i := 403) (by decide +kernel), List.mem_of_getElem? (i := 404) (by decide +kernel)⟩
theorem lw_p8 : lw_okq (⟨"BallastClubModel", "copy", "(II)V"⟩, 10) := ⟨⟨by decide +kernel, by decide +kernel⟩, List.mem_of_getElem? (i := 508) (by decide +kernel), List.mem_of_getElem? (i := 549) (by decide +kernel), List.mem_of_getElem? (i := 550) (by decide +kernel)⟩
theorem lw_p9 : lw_okq (⟨"BallastClubModel", "record", "()V"⟩, 10) := ⟨⟨by decide +kernel, by decide +kernel⟩, List.mem_of_getElem? (i := 508) (by decide +kernel), List.mem_of_getElem? (i := 561) (by decide +kernel), List.mem_of_getElem? (i := 562) (by decide +kernel)⟩
theorem lw_p10 : lw_okq (⟨"BallastClubModel", "isToCome", "(I)Z"⟩, 10) := ⟨⟨by decide +kernel, by decide +kernel⟩, List.mem_of_getElem? (i := 508) (by decide +kernel), List.mem_of_getElem? (i := 586) (by decide +kernel), List.mem_of_getElem? (i := 587) (by decide +kernel)⟩
theorem lw_p11 : lw_okq (⟨"BallastClubModel", "isMember", "(I)Z"⟩, 10) := ⟨⟨by decide +kernel, by decide +kernel⟩, List.mem_of_getElem? (i := 508) (by decide +kernel), List.mem_of_getElem? (i := 594) (by decide +kernel), List.mem_of_getElem? (i := 595) (by decide +kernel)⟩
theorem lw_p12 : lw_okq (⟨"BallastClubModel", "isMachine", "(I)Z"⟩, 10) := ⟨⟨by decide +kernel, by decide +kernel⟩, List.mem_of_getElem? (i := 508) (by decide +kernel), List.mem_of_getElem? (i := 598) (by decide +kernel), List.mem_of_getElem? (i := 599) (by decide +kernel)⟩
theorem lw_p13 : lw_okq (⟨"BallastClubModel", "canBear", "(III)Z"⟩, 10) := ⟨⟨by decide +kernel, by decide +kernel⟩, List.mem_of_getElem? (i := 508) (by decide +kernel), List.mem_of_getElem? (i := 605) (by decide +kernel), List.mem_of_getElem? (i := 606) (by decide +kernel)⟩
theorem lw_p14 : lw_okq (⟨"BallastClubModel", "bookingAt", "(II)I"⟩, 10) := ⟨⟨by decide +kernel, by decide +kernel⟩, List.mem_of_getElem? (i := 508) (by decide +kernel), List.mem_of_getElem? (i := 612) (by decide +kernel), List.mem_of_getElem? (i := 613) (by decide +kernel)⟩
theorem lw_p15 : lw_okq (⟨"BallastClubModel", "give", "(III)V"⟩, 10) := ⟨⟨by decide +kernel, by decide +kernel⟩, List.mem_of_getElem? (i := 508) (by decide +kernel), List.mem_of_getElem? (i := 619) (by decide +kernel), List.mem_of_getElem? (i := 620) (by decide +kernel)⟩
def lw_privs_1 : List (MethodName × Nat) := [(⟨"BallastClub$History", "stateAt", "(I)LBallastClub$State;"⟩, 3), (⟨"BallastClub$State", "closeMove", "(I)V"⟩, 9), (⟨"BallastClub$State", "standBy", "(I)V"⟩, 9), (⟨"BallastClub$State", "carryOver", "(I)V"⟩, 9), (⟨"BallastClub$State", "lift", "(I)V"⟩, 9), (⟨"BallastClub$WindText", "readNumber", "(I)I"⟩, 4), (⟨"BallastClub$WindText", "sign", "()I"⟩, 4), (⟨"BallastClub$WindText", "readSign", "(C)Z"⟩, 4), (⟨"BallastClubModel", "copy", "(II)V"⟩, 10), (⟨"BallastClubModel", "record", "()V"⟩, 10), (⟨"BallastClubModel", "isToCome", "(I)Z"⟩, 10), (⟨"BallastClubModel", "isMember", "(I)Z"⟩, 10), (⟨"BallastClubModel", "isMachine", "(I)Z"⟩, 10), (⟨"BallastClubModel", "canBear", "(III)Z"⟩, 10), (⟨"BallastClubModel", "bookingAt", "(II)I"⟩, 10), (⟨"BallastClubModel", "give", "(III)V"⟩, 10)]
theorem lw_r1 : ∀ q ∈ lw_privs_1, lw_okq q := List.forall_mem_cons.mpr ⟨lw_p0, List.forall_mem_cons.mpr ⟨lw_p1, List.forall_mem_cons.mpr ⟨lw_p2, List.forall_mem_cons.mpr ⟨lw_p3, List.forall_mem_cons.mpr ⟨lw_p4, List.forall_mem_cons.mpr ⟨lw_p5, List.forall_mem_cons.mpr ⟨lw_p6, List.forall_mem_cons.mpr ⟨lw_p7, List.forall_mem_cons.mpr ⟨lw_p8, List.forall_mem_cons.mpr ⟨lw_p9, List.forall_mem_cons.mpr ⟨lw_p10, List.forall_mem_cons.mpr ⟨lw_p11, List.forall_mem_cons.mpr ⟨lw_p12, List.forall_mem_cons.mpr ⟨lw_p13, List.forall_mem_cons.mpr ⟨lw_p14, List.forall_mem_cons.mpr ⟨lw_p15, fun _ h => absurd h List.not_mem_nil⟩⟩⟩⟩⟩⟩⟩⟩⟩⟩⟩⟩⟩⟩⟩⟩
theorem lw_p16 : lw_okq (⟨"BallastClubModel", "isBooking", "(I)Z"⟩, 10) := ⟨⟨by decide +kernel, by decide +kernel⟩, List.mem_of_getElem? (i := 508) (by decide +kernel), List.mem_of_getElem? (i := 627) (by decide +kernel), List.mem_of_getElem? (i := 628) (by decide +kernel)⟩
theorem lw_p17 : lw_okq (⟨"BallastClubModel", "isBooked", "(I)Z"⟩, 10) := ⟨⟨by decide +kernel, by decide +kernel⟩, List.mem_of_getElem? (i := 508) (by decide +kernel), List.mem_of_getElem? (i := 631) (by decide +kernel), List.mem_of_getElem? (i := 632) (by decide +kernel)⟩
theorem lw_p18 : lw_okq (⟨"BallastClubModel", "pay", "(II)V"⟩, 10) := ⟨⟨by decide +kernel, by decide +kernel⟩, List.mem_of_getElem? (i := 508) (by decide +kernel), List.mem_of_getElem? (i := 635) (by decide +kernel), List.mem_of_getElem? (i := 636) (by decide +kernel)⟩
theorem lw_p19 : lw_okq (⟨"BallastClubModel", "canGet", "(II)Z"⟩, 10) := ⟨⟨by decide +kernel, by decide +kernel⟩, List.mem_of_getElem? (i := 508) (by decide +kernel), List.mem_of_getElem? (i := 643) (by decide +kernel), List.mem_of_getElem? (i := 644) (by decide +kernel)⟩
theorem lw_p20 : lw_okq (⟨"BallastClubModel", "isMove", "(I)Z"⟩, 10) := ⟨⟨by decide +kernel, by decide +kernel⟩, List.mem_of_getElem? (i := 508) (by decide +kernel), List.mem_of_getElem? (i := 658) (by decide +kernel), List.mem_of_getElem? (i := 659) (by decide +kernel)⟩
theorem lw_p21 : lw_okq (⟨"BallastClubModel", "close", "(I)V"⟩, 10) := ⟨⟨by decide +kernel, by decide +kernel⟩, List.mem_of_getElem? (i := 508) (by decide +kernel), List.mem_of_getElem? (i := 662) (by decide +kernel), List.mem_of_getElem? (i := 663) (by decide +kernel)⟩
theorem lw_p22 : lw_okq (⟨"BallastClubModel", "manyIn", "(I)I"⟩, 10) := ⟨⟨by decide +kernel, by decide +kernel⟩, List.mem_of_getElem? (i := 508) (by decide +kernel), List.mem_of_getElem? (i := 670) (by decide +kernel), List.mem_of_getElem? (i := 671) (by decide +kernel)⟩
theorem lw_p23 : lw_okq (⟨"BallastClubModel", "passOne", "()V"⟩, 10) := ⟨⟨by decide +kernel, by decide +kernel⟩, List.mem_of_getElem? (i := 508) (by decide +kernel), List.mem_of_getElem? (i := 674) (by decide +kernel), List.mem_of_getElem? (i := 675) (by decide +kernel)⟩
theorem lw_p24 : lw_okq (⟨"BallastClubModel", "moveAll", "()V"⟩, 10) := ⟨⟨by decide +kernel, by decide +kernel⟩, List.mem_of_getElem? (i := 508) (by decide +kernel), List.mem_of_getElem? (i := 678) (by decide +kernel), List.mem_of_getElem? (i := 679) (by decide +kernel)⟩
theorem lw_p25 : lw_okq (⟨"BallastClubModel", "carry", "(I)Z"⟩, 10) := ⟨⟨by decide +kernel, by decide +kernel⟩, List.mem_of_getElem? (i := 508) (by decide +kernel), List.mem_of_getElem? (i := 682) (by decide +kernel), List.mem_of_getElem? (i := 683) (by decide +kernel)⟩
theorem lw_p26 : lw_okq (⟨"BallastClubModel", "lift", "(I)V"⟩, 10) := ⟨⟨by decide +kernel, by decide +kernel⟩, List.mem_of_getElem? (i := 508) (by decide +kernel), List.mem_of_getElem? (i := 686) (by decide +kernel), List.mem_of_getElem? (i := 687) (by decide +kernel)⟩
theorem lw_p27 : lw_okq (⟨"BallastClubModel", "standBy", "(II)V"⟩, 10) := ⟨⟨by decide +kernel, by decide +kernel⟩, List.mem_of_getElem? (i := 508) (by decide +kernel), List.mem_of_getElem? (i := 693) (by decide +kernel), List.mem_of_getElem? (i := 694) (by decide +kernel)⟩
theorem lw_p28 : lw_okq (⟨"BallastClubModel", "faultOf", "()I"⟩, 10) := ⟨⟨by decide +kernel, by decide +kernel⟩, List.mem_of_getElem? (i := 508) (by decide +kernel), List.mem_of_getElem? (i := 709) (by decide +kernel), List.mem_of_getElem? (i := 710) (by decide +kernel)⟩
theorem lw_p29 : lw_okq (⟨"BallastClubModel", "readsWind", "()Z"⟩, 10) := ⟨⟨by decide +kernel, by decide +kernel⟩, List.mem_of_getElem? (i := 508) (by decide +kernel), List.mem_of_getElem? (i := 713) (by decide +kernel), List.mem_of_getElem? (i := 714) (by decide +kernel)⟩
theorem lw_p30 : lw_okq (⟨"BallastClubModel", "number", "(I)I"⟩, 10) := ⟨⟨by decide +kernel, by decide +kernel⟩, List.mem_of_getElem? (i := 508) (by decide +kernel), List.mem_of_getElem? (i := 717) (by decide +kernel), List.mem_of_getElem? (i := 718) (by decide +kernel)⟩
theorem lw_p31 : lw_okq (⟨"BallastClubModel", "code", "()I"⟩, 10) := ⟨⟨by decide +kernel, by decide +kernel⟩, List.mem_of_getElem? (i := 508) (by decide +kernel), List.mem_of_getElem? (i := 721) (by decide +kernel), List.mem_of_getElem? (i := 722) (by decide +kernel)⟩
def lw_privs_2 : List (MethodName × Nat) := [(⟨"BallastClubModel", "isBooking", "(I)Z"⟩, 10), (⟨"BallastClubModel", "isBooked", "(I)Z"⟩, 10), (⟨"BallastClubModel", "pay", "(II)V"⟩, 10), (⟨"BallastClubModel", "canGet", "(II)Z"⟩, 10), (⟨"BallastClubModel", "isMove", "(I)Z"⟩, 10), (⟨"BallastClubModel", "close", "(I)V"⟩, 10), (⟨"BallastClubModel", "manyIn", "(I)I"⟩, 10), (⟨"BallastClubModel", "passOne", "()V"⟩, 10), (⟨"BallastClubModel", "moveAll", "()V"⟩, 10), (⟨"BallastClubModel", "carry", "(I)Z"⟩, 10), (⟨"BallastClubModel", "lift", "(I)V"⟩, 10), (⟨"BallastClubModel", "standBy", "(II)V"⟩, 10), (⟨"BallastClubModel", "faultOf", "()I"⟩, 10), (⟨"BallastClubModel", "readsWind", "()Z"⟩, 10), (⟨"BallastClubModel", "number", "(I)I"⟩, 10), (⟨"BallastClubModel", "code", "()I"⟩, 10)]
theorem lw_r2 : ∀ q ∈ lw_privs_2, lw_okq q := List.forall_mem_cons.mpr ⟨lw_p16, List.forall_mem_cons.mpr ⟨lw_p17, List.forall_mem_cons.mpr ⟨lw_p18, List.forall_mem_cons.mpr ⟨lw_p19, List.forall_mem_cons.mpr ⟨lw_p20, List.forall_mem_cons.mpr ⟨lw_p21, List.forall_mem_cons.mpr ⟨lw_p22, List.forall_mem_cons.mpr ⟨lw_p23, List.forall_mem_cons.mpr ⟨lw_p24, List.forall_mem_cons.mpr ⟨lw_p25, List.forall_mem_cons.mpr ⟨lw_p26, List.forall_mem_cons.mpr ⟨lw_p27, List.forall_mem_cons.mpr ⟨lw_p28, List.forall_mem_cons.mpr ⟨lw_p29, List.forall_mem_cons.mpr ⟨lw_p30, List.forall_mem_cons.mpr ⟨lw_p31, fun _ h => absurd h List.not_mem_nil⟩⟩⟩⟩⟩⟩⟩⟩⟩⟩⟩⟩⟩⟩⟩⟩
theorem lw_p32 : lw_okq (⟨"BallastClubModel", "goOn", "(Z)I"⟩, 10) := ⟨⟨by decide +kernel, by decide +kernel⟩, List.mem_of_getElem? (i := 508) (by decide +kernel), List.mem_of_getElem? (i := 725) (by decide +kernel), List.mem_of_getElem? (i := 726) (by decide +kernel)⟩
theorem lw_p33 : lw_okq (⟨"BallastClubModel", "bookingsOf", "(III)I"⟩, 10) := ⟨⟨by decide +kernel, by decide +kernel⟩, List.mem_of_getElem? (i := 508) (by decide +kernel), List.mem_of_getElem? (i := 745) (by decide +kernel), List.mem_of_getElem? (i := 746) (by decide +kernel)⟩
theorem lw_p34 : lw_okq (⟨"BallastClubModel", "movesOf", "(II)I"⟩, 10) := ⟨⟨by decide +kernel, by decide +kernel⟩, List.mem_of_getElem? (i := 508) (by decide +kernel), List.mem_of_getElem? (i := 749) (by decide +kernel), List.mem_of_getElem? (i := 750) (by decide +kernel)⟩
theorem lw_p35 : lw_okq (⟨"BallastClubModel", "allPaid", "()I"⟩, 10) := ⟨⟨by decide +kernel, by decide +kernel⟩, List.mem_of_getElem? (i := 508) (by decide +kernel), List.mem_of_getElem? (i := 785) (by decide +kernel), List.mem_of_getElem? (i := 786) (by decide +kernel)⟩
theorem lw_p36 : lw_okq (⟨"BallastClubModel", "allBlocks", "()I"⟩, 10) := ⟨⟨by decide +kernel, by decide +kernel⟩, List.mem_of_getElem? (i := 508) (by decide +kernel), List.mem_of_getElem? (i := 789) (by decide +kernel), List.mem_of_getElem? (i := 790) (by decide +kernel)⟩
def lw_privs_3 : List (MethodName × Nat) := [(⟨"BallastClubModel", "goOn", "(Z)I"⟩, 10), (⟨"BallastClubModel", "bookingsOf", "(III)I"⟩, 10), (⟨"BallastClubModel", "movesOf", "(II)I"⟩, 10), (⟨"BallastClubModel", "allPaid", "()I"⟩, 10), (⟨"BallastClubModel", "allBlocks", "()I"⟩, 10)]
theorem lw_r3 : ∀ q ∈ lw_privs_3, lw_okq q := List.forall_mem_cons.mpr ⟨lw_p32, List.forall_mem_cons.mpr ⟨lw_p33, List.forall_mem_cons.mpr ⟨lw_p34, List.forall_mem_cons.mpr ⟨lw_p35, List.forall_mem_cons.mpr ⟨lw_p36, fun _ h => absurd h List.not_mem_nil⟩⟩⟩⟩⟩
def lw_privs : List (MethodName × Nat) := lw_privs_1 ++ (lw_privs_2 ++ (lw_privs_3))
def lw_tbl : List Cond := k2_sels lw_privs ++ tables_1
theorem lw_privs_ok : ∀ q ∈ lw_privs, lw_okq q := by
  show ∀ q ∈ lw_privs_1 ++ (lw_privs_2 ++ (lw_privs_3)), lw_okq q
  exact List.forall_mem_append.mpr ⟨lw_r1, List.forall_mem_append.mpr ⟨lw_r2, lw_r3⟩⟩
-- ===== end of PART A; then your names; then what follows =====
end
section
def RX0 : String := "BallastClub$History"
def TX0 : u_T := fun k => match k with
  | 0 => ("BallastClub$History", "states", "[LBallastClub$State;", true)
  | 1 => ("BallastClub$History", "next", "I", false)
  | _ => ("BallastClub$History", "size", "I", false)
def tyX0 : Nat → FieldType := fun k => match k with
  | 0 => .array (.object "BallastClub$State")
  | 1 => .int
  | _ => .int
abbrev wsX00 : List Cond := u_ws RX0 TX0 3
theorem nmX0 : ∀ a, a < 3 → ∀ b, b < 3 → a ≠ b → (TX0 a).2.1 ≠ (TX0 b).2.1 := by decide +kernel
theorem tyX0_ok : ∀ k, k < 3 → parseFieldDescriptor (TX0 k).2.2.1 = some (tyX0 k) := by decide +kernel
abbrev cX0_init : ByteArray := prog_2_method_1_code
def yX0_init : MethodName := ⟨RX0, "<init>", "()V"⟩
abbrev cX0_size : ByteArray := prog_2_method_2_code
def yX0_size : MethodName := ⟨RX0, "size", "()I"⟩
abbrev cX0_stateAt : ByteArray := prog_2_method_3_code
def yX0_stateAt : MethodName := ⟨RX0, "stateAt", "(I)LBallastClub$State;"⟩
abbrev cX0_push : ByteArray := prog_2_method_4_code
def yX0_push : MethodName := ⟨RX0, "push", "(LBallastClub$State;)V"⟩
abbrev cX0_popInto : ByteArray := prog_2_method_5_code
def yX0_popInto : MethodName := ⟨RX0, "popInto", "(LBallastClub$State;)V"⟩
def RX1 : String := "BallastClub$State"
def TX1 : u_T := fun k => match k with
  | 0 => ("BallastClub$State", "machines", "LBallastClub$Table;", true)
  | 1 => ("BallastClub$State", "members", "LBallastClub$Table;", true)
  | 2 => ("BallastClub$State", "bookings", "LBallastClub$Table;", true)
  | 3 => ("BallastClub$State", "moves", "LBallastClub$Table;", true)
  | 4 => ("BallastClub$State", "winds", "[I", true)
  | 5 => ("BallastClub$State", "present", "I", false)
  | 6 => ("BallastClub$State", "movesDone", "I", false)
  | 7 => ("BallastClub$State", "movesFailed", "I", false)
  | _ => ("BallastClub$State", "standbysOfNobody", "I", false)
def tyX1 : Nat → FieldType := fun k => match k with
  | 0 => .object "BallastClub$Table"
  | 1 => .object "BallastClub$Table"
  | 2 => .object "BallastClub$Table"
  | 3 => .object "BallastClub$Table"
  | 4 => .array .int
  | 5 => .int
  | 6 => .int
  | 7 => .int
  | _ => .int
abbrev wsX10 : List Cond := u_ws RX1 TX1 9
theorem nmX1 : ∀ a, a < 9 → ∀ b, b < 9 → a ≠ b → (TX1 a).2.1 ≠ (TX1 b).2.1 := by decide +kernel
theorem tyX1_ok : ∀ k, k < 9 → parseFieldDescriptor (TX1 k).2.2.1 = some (tyX1 k) := by decide +kernel
abbrev cX1_init : ByteArray := prog_3_method_1_code
def yX1_init : MethodName := ⟨RX1, "<init>", "()V"⟩
abbrev cX1_copyFrom : ByteArray := prog_3_method_2_code
def yX1_copyFrom : MethodName := ⟨RX1, "copyFrom", "(LBallastClub$State;)V"⟩
abbrev cX1_isToCome : ByteArray := prog_3_method_3_code
def yX1_isToCome : MethodName := ⟨RX1, "isToCome", "(I)Z"⟩
abbrev cX1_areAllToCome : ByteArray := prog_3_method_4_code
def yX1_areAllToCome : MethodName := ⟨RX1, "areAllToCome", "(LBallastClub$Table;)Z"⟩
abbrev cX1_windAt : ByteArray := prog_3_method_5_code
def yX1_windAt : MethodName := ⟨RX1, "windAt", "(I)I"⟩
abbrev cX1_tellWind : ByteArray := prog_3_method_6_code
def yX1_tellWind : MethodName := ⟨RX1, "tellWind", "(II)V"⟩
abbrev cX1_tellWinds : ByteArray := prog_3_method_7_code
def yX1_tellWinds : MethodName := ⟨RX1, "tellWinds", "(LBallastClub$Table;)V"⟩
abbrev cX1_putMachine : ByteArray := prog_3_method_8_code
def yX1_putMachine : MethodName := ⟨RX1, "putMachine", "(II)I"⟩
abbrev cX1_borneBy : ByteArray := prog_3_method_9_code
def yX1_borneBy : MethodName := ⟨RX1, "borneBy", "(II)I"⟩
abbrev cX1_canTake : ByteArray := prog_3_method_10_code
def yX1_canTake : MethodName := ⟨RX1, "canTake", "(IIII)Z"⟩
abbrev cX1_pay : ByteArray := prog_3_method_11_code
def yX1_pay : MethodName := ⟨RX1, "pay", "(II)V"⟩
abbrev cX1_putBooking : ByteArray := prog_3_method_12_code
def yX1_putBooking : MethodName := ⟨RX1, "putBooking", "(III)I"⟩
abbrev cX1_place : ByteArray := prog_3_method_13_code
def yX1_place : MethodName := ⟨RX1, "place", "(III)V"⟩
abbrev cX1_isBooked : ByteArray := prog_3_method_14_code
def yX1_isBooked : MethodName := ⟨RX1, "isBooked", "(I)Z"⟩
abbrev cX1_bookingFor : ByteArray := prog_3_method_15_code
def yX1_bookingFor : MethodName := ⟨RX1, "bookingFor", "(II)I"⟩
abbrev cX1_limitOf : ByteArray := prog_3_method_16_code
def yX1_limitOf : MethodName := ⟨RX1, "limitOf", "(I)I"⟩
abbrev cX1_bearsLiftOf : ByteArray := prog_3_method_17_code
def yX1_bearsLiftOf : MethodName := ⟨RX1, "bearsLiftOf", "(II)Z"⟩
abbrev cX1_mustStandBy : ByteArray := prog_3_method_18_code
def yX1_mustStandBy : MethodName := ⟨RX1, "mustStandBy", "(I)Z"⟩
abbrev cX1_causerOf : ByteArray := prog_3_method_19_code
def yX1_causerOf : MethodName := ⟨RX1, "causerOf", "(I)I"⟩
abbrev cX1_putMove : ByteArray := prog_3_method_20_code
def yX1_putMove : MethodName := ⟨RX1, "putMove", "(IIIII)I"⟩
abbrev cX1_nextMoveUpTo : ByteArray := prog_3_method_21_code
def yX1_nextMoveUpTo : MethodName := ⟨RX1, "nextMoveUpTo", "(I)I"⟩
abbrev cX1_closeMovesUpTo : ByteArray := prog_3_method_22_code
def yX1_closeMovesUpTo : MethodName := ⟨RX1, "closeMovesUpTo", "(I)V"⟩
abbrev cX1_closeMove : ByteArray := prog_3_method_23_code
def yX1_closeMove : MethodName := ⟨RX1, "closeMove", "(I)V"⟩
abbrev cX1_passHalfDay : ByteArray := prog_3_method_24_code
def yX1_passHalfDay : MethodName := ⟨RX1, "passHalfDay", "()I"⟩
abbrev cX1_lift : ByteArray := prog_3_method_25_code
def yX1_lift : MethodName := ⟨RX1, "lift", "(I)V"⟩
abbrev cX1_standBy : ByteArray := prog_3_method_26_code
def yX1_standBy : MethodName := ⟨RX1, "standBy", "(I)V"⟩
abbrev cX1_carryOver : ByteArray := prog_3_method_27_code
def yX1_carryOver : MethodName := ⟨RX1, "carryOver", "(I)V"⟩
def RX2 : String := "BallastClub$Table"
def TX2 : u_T := fun k => match k with
  | 0 => ("BallastClub$Table", "cells", "[I", true)
  | 1 => ("BallastClub$Table", "mostRows", "I", true)
  | 2 => ("BallastClub$Table", "columns", "I", true)
  | _ => ("BallastClub$Table", "rows", "I", false)
def tyX2 : Nat → FieldType := fun k => match k with
  | 0 => .array .int
  | 1 => .int
  | 2 => .int
  | _ => .int
abbrev wsX20 : List Cond := u_ws RX2 TX2 4
theorem nmX2 : ∀ a, a < 4 → ∀ b, b < 4 → a ≠ b → (TX2 a).2.1 ≠ (TX2 b).2.1 := by decide +kernel
theorem tyX2_ok : ∀ k, k < 4 → parseFieldDescriptor (TX2 k).2.2.1 = some (tyX2 k) := by decide +kernel
abbrev cX2_init : ByteArray := prog_4_method_1_code
def yX2_init : MethodName := ⟨RX2, "<init>", "(II)V"⟩
abbrev cX2_size : ByteArray := prog_4_method_2_code
def yX2_size : MethodName := ⟨RX2, "size", "()I"⟩
abbrev cX2_has : ByteArray := prog_4_method_3_code
def yX2_has : MethodName := ⟨RX2, "has", "(I)Z"⟩
abbrev cX2_isFull : ByteArray := prog_4_method_4_code
def yX2_isFull : MethodName := ⟨RX2, "isFull", "()Z"⟩
abbrev cX2_get : ByteArray := prog_4_method_5_code
def yX2_get : MethodName := ⟨RX2, "get", "(II)I"⟩
abbrev cX2_set : ByteArray := prog_4_method_6_code
def yX2_set : MethodName := ⟨RX2, "set", "(III)V"⟩
abbrev cX2_increase : ByteArray := prog_4_method_7_code
def yX2_increase : MethodName := ⟨RX2, "increase", "(III)V"⟩
abbrev cX2_addRow : ByteArray := prog_4_method_8_code
def yX2_addRow : MethodName := ⟨RX2, "addRow", "()I"⟩
abbrev cX2_removeRow : ByteArray := prog_4_method_9_code
def yX2_removeRow : MethodName := ⟨RX2, "removeRow", "(I)V"⟩
abbrev cX2_removeAll : ByteArray := prog_4_method_10_code
def yX2_removeAll : MethodName := ⟨RX2, "removeAll", "()V"⟩
abbrev cX2_countOf : ByteArray := prog_4_method_11_code
def yX2_countOf : MethodName := ⟨RX2, "countOf", "(II)I"⟩
abbrev cX2_countBoth : ByteArray := prog_4_method_12_code
def yX2_countBoth : MethodName := ⟨RX2, "countBoth", "(IIII)I"⟩
abbrev cX2_sumOf : ByteArray := prog_4_method_13_code
def yX2_sumOf : MethodName := ⟨RX2, "sumOf", "(I)I"⟩
abbrev cX2_copyFrom : ByteArray := prog_4_method_14_code
def yX2_copyFrom : MethodName := ⟨RX2, "copyFrom", "(LBallastClub$Table;)V"⟩
def RX3 : String := "BallastClub$WindText"
def TX3 : u_T := fun k => match k with
  | 0 => ("BallastClub$WindText", "signs", "[C", true)
  | 1 => ("BallastClub$WindText", "length", "I", false)
  | 2 => ("BallastClub$WindText", "at", "I", false)
  | _ => ("BallastClub$WindText", "told", "LBallastClub$Table;", true)
def tyX3 : Nat → FieldType := fun k => match k with
  | 0 => .array .char
  | 1 => .int
  | 2 => .int
  | _ => .object "BallastClub$Table"
abbrev wsX30 : List Cond := u_ws RX3 TX3 4
theorem nmX3 : ∀ a, a < 4 → ∀ b, b < 4 → a ≠ b → (TX3 a).2.1 ≠ (TX3 b).2.1 := by decide +kernel
theorem tyX3_ok : ∀ k, k < 4 → parseFieldDescriptor (TX3 k).2.2.1 = some (tyX3 k) := by decide +kernel
abbrev cX3_init : ByteArray := prog_5_method_1_code
def yX3_init : MethodName := ⟨RX3, "<init>", "()V"⟩
abbrev cX3_length : ByteArray := prog_5_method_2_code
def yX3_length : MethodName := ⟨RX3, "length", "()I"⟩
abbrev cX3_append : ByteArray := prog_5_method_3_code
def yX3_append : MethodName := ⟨RX3, "append", "(C)Z"⟩
abbrev cX3_empty : ByteArray := prog_5_method_4_code
def yX3_empty : MethodName := ⟨RX3, "empty", "()V"⟩
abbrev cX3_parse : ByteArray := prog_5_method_5_code
def yX3_parse : MethodName := ⟨RX3, "parse", "()I"⟩
abbrev cX3_sign : ByteArray := prog_5_method_6_code
def yX3_sign : MethodName := ⟨RX3, "sign", "()I"⟩
abbrev cX3_readSign : ByteArray := prog_5_method_7_code
def yX3_readSign : MethodName := ⟨RX3, "readSign", "(C)Z"⟩
abbrev cX3_readNumber : ByteArray := prog_5_method_8_code
def yX3_readNumber : MethodName := ⟨RX3, "readNumber", "(I)I"⟩
abbrev cX3_isDigit : ByteArray := prog_5_method_9_code
def yX3_isDigit : MethodName := ⟨RX3, "isDigit", "(I)Z"⟩
def RX4 : String := "BallastClub"
def TX4 : u_T := fun k => match k with
  | 0 => ("BallastClub", "now", "LBallastClub$State;", true)
  | 1 => ("BallastClub", "snapshot", "LBallastClub$State;", true)
  | 2 => ("BallastClub", "forecast", "LBallastClub$State;", true)
  | 3 => ("BallastClub", "history", "LBallastClub$History;", true)
  | 4 => ("BallastClub", "text", "LBallastClub$WindText;", true)
  | _ => ("BallastClub", "hasSnapshot", "Z", false)
def tyX4 : Nat → FieldType := fun k => match k with
  | 0 => .object "BallastClub$State"
  | 1 => .object "BallastClub$State"
  | 2 => .object "BallastClub$State"
  | 3 => .object "BallastClub$History"
  | 4 => .object "BallastClub$WindText"
  | _ => .boolean
abbrev wsX40 : List Cond := u_ws RX4 TX4 6
theorem nmX4 : ∀ a, a < 6 → ∀ b, b < 6 → a ≠ b → (TX4 a).2.1 ≠ (TX4 b).2.1 := by decide +kernel
theorem tyX4_ok : ∀ k, k < 6 → parseFieldDescriptor (TX4 k).2.2.1 = some (tyX4 k) := by decide +kernel
abbrev cX4_init : ByteArray := prog_1_method_1_code
def yX4_init : MethodName := ⟨RX4, "<init>", "()V"⟩
abbrev cX4_addMachine : ByteArray := prog_1_method_2_code
def yX4_addMachine : MethodName := ⟨RX4, "addMachine", "(II)I"⟩
abbrev cX4_addMember : ByteArray := prog_1_method_3_code
def yX4_addMember : MethodName := ⟨RX4, "addMember", "()I"⟩
abbrev cX4_setWind : ByteArray := prog_1_method_4_code
def yX4_setWind : MethodName := ⟨RX4, "setWind", "(II)I"⟩
abbrev cX4_book : ByteArray := prog_1_method_5_code
def yX4_book : MethodName := ⟨RX4, "book", "(IIIII)I"⟩
abbrev cX4_cancel : ByteArray := prog_1_method_6_code
def yX4_cancel : MethodName := ⟨RX4, "cancel", "(I)I"⟩
abbrev cX4_swap : ByteArray := prog_1_method_7_code
def yX4_swap : MethodName := ⟨RX4, "swap", "(II)I"⟩
abbrev cX4_order : ByteArray := prog_1_method_8_code
def yX4_order : MethodName := ⟨RX4, "order", "(IIIII)I"⟩
abbrev cX4_takeBack : ByteArray := prog_1_method_9_code
def yX4_takeBack : MethodName := ⟨RX4, "takeBack", "(I)I"⟩
abbrev cX4_pass : ByteArray := prog_1_method_10_code
def yX4_pass : MethodName := ⟨RX4, "pass", "(I)I"⟩
abbrev cX4_type : ByteArray := prog_1_method_11_code
def yX4_type : MethodName := ⟨RX4, "type", "(C)I"⟩
abbrev cX4_clearText : ByteArray := prog_1_method_12_code
def yX4_clearText : MethodName := ⟨RX4, "clearText", "()I"⟩
abbrev cX4_readWinds : ByteArray := prog_1_method_13_code
def yX4_readWinds : MethodName := ⟨RX4, "readWinds", "()I"⟩
abbrev cX4_undo : ByteArray := prog_1_method_14_code
def yX4_undo : MethodName := ⟨RX4, "undo", "()I"⟩
abbrev cX4_keep : ByteArray := prog_1_method_15_code
def yX4_keep : MethodName := ⟨RX4, "keep", "()I"⟩
abbrev cX4_restore : ByteArray := prog_1_method_16_code
def yX4_restore : MethodName := ⟨RX4, "restore", "()I"⟩
abbrev cX4_bears : ByteArray := prog_1_method_17_code
def yX4_bears : MethodName := ⟨RX4, "bears", "(II)I"⟩
abbrev cX4_willBear : ByteArray := prog_1_method_18_code
def yX4_willBear : MethodName := ⟨RX4, "willBear", "(III)I"⟩
abbrev cX4_windLimit : ByteArray := prog_1_method_19_code
def yX4_windLimit : MethodName := ⟨RX4, "windLimit", "(II)I"⟩
abbrev cX4_machine : ByteArray := prog_1_method_20_code
def yX4_machine : MethodName := ⟨RX4, "machine", "(II)I"⟩
abbrev cX4_member : ByteArray := prog_1_method_21_code
def yX4_member : MethodName := ⟨RX4, "member", "(II)I"⟩
abbrev cX4_booking : ByteArray := prog_1_method_22_code
def yX4_booking : MethodName := ⟨RX4, "booking", "(II)I"⟩
abbrev cX4_move : ByteArray := prog_1_method_23_code
def yX4_move : MethodName := ⟨RX4, "move", "(II)I"⟩
abbrev cX4_bookedAt : ByteArray := prog_1_method_24_code
def yX4_bookedAt : MethodName := ⟨RX4, "bookedAt", "(II)I"⟩
abbrev cX4_machineFor : ByteArray := prog_1_method_25_code
def yX4_machineFor : MethodName := ⟨RX4, "machineFor", "(III)I"⟩
abbrev cX4_fate : ByteArray := prog_1_method_26_code
def yX4_fate : MethodName := ⟨RX4, "fate", "(I)I"⟩
abbrev cX4_wind : ByteArray := prog_1_method_27_code
def yX4_wind : MethodName := ⟨RX4, "wind", "(I)I"⟩
abbrev cX4_count : ByteArray := prog_1_method_28_code
def yX4_count : MethodName := ⟨RX4, "count", "(I)I"⟩
abbrev cX4_isWithin : ByteArray := prog_1_method_29_code
def yX4_isWithin : MethodName := ⟨RX4, "isWithin", "(III)Z"⟩
abbrev cX4_isHalfDay : ByteArray := prog_1_method_30_code
def yX4_isHalfDay : MethodName := ⟨RX4, "isHalfDay", "(I)Z"⟩
abbrev cX4_isRadius : ByteArray := prog_1_method_31_code
def yX4_isRadius : MethodName := ⟨RX4, "isRadius", "(I)Z"⟩
abbrev cX4_isLift : ByteArray := prog_1_method_32_code
def yX4_isLift : MethodName := ⟨RX4, "isLift", "(II)Z"⟩
abbrev cX4_limitFor : ByteArray := prog_1_method_33_code
def yX4_limitFor : MethodName := ⟨RX4, "limitFor", "(II)I"⟩
def RX5 : String := "BallastClubModel"
def TX5 : u_T := fun k => match k with
  | 0 => ("BallastClubModel", "row", "[I", true)
  | 1 => ("BallastClubModel", "states", "I", false)
  | 2 => ("BallastClubModel", "isKept", "Z", false)
  | 3 => ("BallastClubModel", "text", "[I", true)
  | 4 => ("BallastClubModel", "length", "I", false)
  | 5 => ("BallastClubModel", "watched", "I", false)
  | 6 => ("BallastClubModel", "fate", "I", false)
  | 7 => ("BallastClubModel", "pos", "I", false)
  | 8 => ("BallastClubModel", "first", "I", false)
  | _ => ("BallastClubModel", "second", "I", false)
def tyX5 : Nat → FieldType := fun k => match k with
  | 0 => .array .int
  | 1 => .int
  | 2 => .boolean
  | 3 => .array .int
  | 4 => .int
  | 5 => .int
  | 6 => .int
  | 7 => .int
  | 8 => .int
  | _ => .int
abbrev wsX50 : List Cond := u_ws RX5 TX5 10
theorem nmX5 : ∀ a, a < 10 → ∀ b, b < 10 → a ≠ b → (TX5 a).2.1 ≠ (TX5 b).2.1 := by decide +kernel
theorem tyX5_ok : ∀ k, k < 10 → parseFieldDescriptor (TX5 k).2.2.1 = some (tyX5 k) := by decide +kernel
abbrev cX5_init : ByteArray := prog_7_method_1_code
def yX5_init : MethodName := ⟨RX5, "<init>", "()V"⟩
abbrev cX5_in : ByteArray := prog_7_method_2_code
def yX5_in : MethodName := ⟨RX5, "in", "(III)Z"⟩
abbrev cX5_of : ByteArray := prog_7_method_3_code
def yX5_of : MethodName := ⟨RX5, "of", "(II)I"⟩
abbrev cX5_ofMember : ByteArray := prog_7_method_4_code
def yX5_ofMember : MethodName := ⟨RX5, "ofMember", "(II)I"⟩
abbrev cX5_ofBooking : ByteArray := prog_7_method_5_code
def yX5_ofBooking : MethodName := ⟨RX5, "ofBooking", "(II)I"⟩
abbrev cX5_ofMove : ByteArray := prog_7_method_6_code
def yX5_ofMove : MethodName := ⟨RX5, "ofMove", "(II)I"⟩
abbrev cX5_isMachine : ByteArray := prog_7_method_7_code
def yX5_isMachine : MethodName := ⟨RX5, "isMachine", "(I)Z"⟩
abbrev cX5_isMember : ByteArray := prog_7_method_8_code
def yX5_isMember : MethodName := ⟨RX5, "isMember", "(I)Z"⟩
abbrev cX5_isBooking : ByteArray := prog_7_method_9_code
def yX5_isBooking : MethodName := ⟨RX5, "isBooking", "(I)Z"⟩
abbrev cX5_isMove : ByteArray := prog_7_method_10_code
def yX5_isMove : MethodName := ⟨RX5, "isMove", "(I)Z"⟩
abbrev cX5_isToCome : ByteArray := prog_7_method_11_code
def yX5_isToCome : MethodName := ⟨RX5, "isToCome", "(I)Z"⟩
abbrev cX5_isLift : ByteArray := prog_7_method_12_code
def yX5_isLift : MethodName := ⟨RX5, "isLift", "(II)Z"⟩
abbrev cX5_copy : ByteArray := prog_7_method_13_code
def yX5_copy : MethodName := ⟨RX5, "copy", "(II)V"⟩
abbrev cX5_record : ByteArray := prog_7_method_14_code
def yX5_record : MethodName := ⟨RX5, "record", "()V"⟩
abbrev cX5_undo : ByteArray := prog_7_method_15_code
def yX5_undo : MethodName := ⟨RX5, "undo", "()I"⟩
abbrev cX5_keep : ByteArray := prog_7_method_16_code
def yX5_keep : MethodName := ⟨RX5, "keep", "()I"⟩
abbrev cX5_restore : ByteArray := prog_7_method_17_code
def yX5_restore : MethodName := ⟨RX5, "restore", "()I"⟩
abbrev cX5_addMachine : ByteArray := prog_7_method_18_code
def yX5_addMachine : MethodName := ⟨RX5, "addMachine", "(II)I"⟩
abbrev cX5_addMember : ByteArray := prog_7_method_19_code
def yX5_addMember : MethodName := ⟨RX5, "addMember", "()I"⟩
abbrev cX5_setWind : ByteArray := prog_7_method_20_code
def yX5_setWind : MethodName := ⟨RX5, "setWind", "(II)I"⟩
abbrev cX5_bearsBy : ByteArray := prog_7_method_21_code
def yX5_bearsBy : MethodName := ⟨RX5, "bearsBy", "(III)I"⟩
abbrev cX5_canBear : ByteArray := prog_7_method_22_code
def yX5_canBear : MethodName := ⟨RX5, "canBear", "(III)Z"⟩
abbrev cX5_limitOf : ByteArray := prog_7_method_23_code
def yX5_limitOf : MethodName := ⟨RX5, "limitOf", "(II)I"⟩
abbrev cX5_bookingAt : ByteArray := prog_7_method_24_code
def yX5_bookingAt : MethodName := ⟨RX5, "bookingAt", "(II)I"⟩
abbrev cX5_give : ByteArray := prog_7_method_25_code
def yX5_give : MethodName := ⟨RX5, "give", "(III)V"⟩
abbrev cX5_book : ByteArray := prog_7_method_26_code
def yX5_book : MethodName := ⟨RX5, "book", "(IIIII)I"⟩
abbrev cX5_pay : ByteArray := prog_7_method_27_code
def yX5_pay : MethodName := ⟨RX5, "pay", "(II)V"⟩
abbrev cX5_isBooked : ByteArray := prog_7_method_28_code
def yX5_isBooked : MethodName := ⟨RX5, "isBooked", "(I)Z"⟩
abbrev cX5_cancel : ByteArray := prog_7_method_29_code
def yX5_cancel : MethodName := ⟨RX5, "cancel", "(I)I"⟩
abbrev cX5_canGet : ByteArray := prog_7_method_30_code
def yX5_canGet : MethodName := ⟨RX5, "canGet", "(II)Z"⟩
abbrev cX5_swap : ByteArray := prog_7_method_31_code
def yX5_swap : MethodName := ⟨RX5, "swap", "(II)I"⟩
abbrev cX5_order : ByteArray := prog_7_method_32_code
def yX5_order : MethodName := ⟨RX5, "order", "(IIIII)I"⟩
abbrev cX5_close : ByteArray := prog_7_method_33_code
def yX5_close : MethodName := ⟨RX5, "close", "(I)V"⟩
abbrev cX5_takeBack : ByteArray := prog_7_method_34_code
def yX5_takeBack : MethodName := ⟨RX5, "takeBack", "(I)I"⟩
abbrev cX5_carry : ByteArray := prog_7_method_35_code
def yX5_carry : MethodName := ⟨RX5, "carry", "(I)Z"⟩
abbrev cX5_moveAll : ByteArray := prog_7_method_36_code
def yX5_moveAll : MethodName := ⟨RX5, "moveAll", "()V"⟩
abbrev cX5_standBy : ByteArray := prog_7_method_37_code
def yX5_standBy : MethodName := ⟨RX5, "standBy", "(II)V"⟩
abbrev cX5_lift : ByteArray := prog_7_method_38_code
def yX5_lift : MethodName := ⟨RX5, "lift", "(I)V"⟩
abbrev cX5_passOne : ByteArray := prog_7_method_39_code
def yX5_passOne : MethodName := ⟨RX5, "passOne", "()V"⟩
abbrev cX5_manyIn : ByteArray := prog_7_method_40_code
def yX5_manyIn : MethodName := ⟨RX5, "manyIn", "(I)I"⟩
abbrev cX5_pass : ByteArray := prog_7_method_41_code
def yX5_pass : MethodName := ⟨RX5, "pass", "(I)I"⟩
abbrev cX5_type : ByteArray := prog_7_method_42_code
def yX5_type : MethodName := ⟨RX5, "type", "(C)I"⟩
abbrev cX5_clearText : ByteArray := prog_7_method_43_code
def yX5_clearText : MethodName := ⟨RX5, "clearText", "()I"⟩
abbrev cX5_code : ByteArray := prog_7_method_44_code
def yX5_code : MethodName := ⟨RX5, "code", "()I"⟩
abbrev cX5_number : ByteArray := prog_7_method_45_code
def yX5_number : MethodName := ⟨RX5, "number", "(I)I"⟩
abbrev cX5_readsWind : ByteArray := prog_7_method_46_code
def yX5_readsWind : MethodName := ⟨RX5, "readsWind", "()Z"⟩
abbrev cX5_faultOf : ByteArray := prog_7_method_47_code
def yX5_faultOf : MethodName := ⟨RX5, "faultOf", "()I"⟩
abbrev cX5_goOn : ByteArray := prog_7_method_48_code
def yX5_goOn : MethodName := ⟨RX5, "goOn", "(Z)I"⟩
abbrev cX5_readWinds : ByteArray := prog_7_method_49_code
def yX5_readWinds : MethodName := ⟨RX5, "readWinds", "()I"⟩
abbrev cX5_bears : ByteArray := prog_7_method_50_code
def yX5_bears : MethodName := ⟨RX5, "bears", "(II)I"⟩
abbrev cX5_willBear : ByteArray := prog_7_method_51_code
def yX5_willBear : MethodName := ⟨RX5, "willBear", "(III)I"⟩
abbrev cX5_windLimit : ByteArray := prog_7_method_52_code
def yX5_windLimit : MethodName := ⟨RX5, "windLimit", "(II)I"⟩
abbrev cX5_bookingsOf : ByteArray := prog_7_method_53_code
def yX5_bookingsOf : MethodName := ⟨RX5, "bookingsOf", "(III)I"⟩
abbrev cX5_movesOf : ByteArray := prog_7_method_54_code
def yX5_movesOf : MethodName := ⟨RX5, "movesOf", "(II)I"⟩
abbrev cX5_machine : ByteArray := prog_7_method_55_code
def yX5_machine : MethodName := ⟨RX5, "machine", "(II)I"⟩
abbrev cX5_member : ByteArray := prog_7_method_56_code
def yX5_member : MethodName := ⟨RX5, "member", "(II)I"⟩
abbrev cX5_booking : ByteArray := prog_7_method_57_code
def yX5_booking : MethodName := ⟨RX5, "booking", "(II)I"⟩
abbrev cX5_move : ByteArray := prog_7_method_58_code
def yX5_move : MethodName := ⟨RX5, "move", "(II)I"⟩
abbrev cX5_bookedAt : ByteArray := prog_7_method_59_code
def yX5_bookedAt : MethodName := ⟨RX5, "bookedAt", "(II)I"⟩
abbrev cX5_machineFor : ByteArray := prog_7_method_60_code
def yX5_machineFor : MethodName := ⟨RX5, "machineFor", "(III)I"⟩
abbrev cX5_fate : ByteArray := prog_7_method_61_code
def yX5_fate : MethodName := ⟨RX5, "fate", "(I)I"⟩
abbrev cX5_wind : ByteArray := prog_7_method_62_code
def yX5_wind : MethodName := ⟨RX5, "wind", "(I)I"⟩
abbrev cX5_allPaid : ByteArray := prog_7_method_63_code
def yX5_allPaid : MethodName := ⟨RX5, "allPaid", "()I"⟩
abbrev cX5_allBlocks : ByteArray := prog_7_method_64_code
def yX5_allBlocks : MethodName := ⟨RX5, "allBlocks", "()I"⟩
abbrev cX5_count : ByteArray := prog_7_method_65_code
def yX5_count : MethodName := ⟨RX5, "count", "(I)I"⟩
def RJ9 : String := "java/lang/Math"
def TJ9 : u_T := fun k => match k with
  | _ => ("", "", "", false)
def tyJ9 : Nat → FieldType := fun k => match k with
  | _ => .int
abbrev wsJ90 : List Cond := u_ws RJ9 TJ9 0
theorem nmJ9 : ∀ a, a < 0 → ∀ b, b < 0 → a ≠ b → (TJ9 a).2.1 ≠ (TJ9 b).2.1 := by decide +kernel
theorem tyJ9_ok : ∀ k, k < 0 → parseFieldDescriptor (TJ9 k).2.2.1 = some (tyJ9 k) := by decide +kernel
abbrev cJ9_max_7cf53 : ByteArray := prog_8_method_65_code
def yJ9_max_7cf53 : MethodName := ⟨RJ9, "max", "(II)I"⟩
abbrev cJ9_min_7cf53 : ByteArray := prog_8_method_69_code
def yJ9_min_7cf53 : MethodName := ⟨RJ9, "min", "(II)I"⟩
def RJ10 : String := "java/lang/System"
def TJ10 : u_T := fun k => match k with
  | _ => ("", "", "", false)
def tyJ10 : Nat → FieldType := fun k => match k with
  | _ => .int
abbrev wsJ100 : List Cond := u_ws RJ10 TJ10 0
theorem nmJ10 : ∀ a, a < 0 → ∀ b, b < 0 → a ≠ b → (TJ10 a).2.1 ≠ (TJ10 b).2.1 := by decide +kernel
theorem tyJ10_ok : ∀ k, k < 0 → parseFieldDescriptor (TJ10 k).2.2.1 = some (tyJ10 k) := by decide +kernel
def RL : String := "BallastClubLaw"
abbrev cL_law : ByteArray := code
def yL_law : MethodName := ⟨RL, "law", "([I)Z"⟩
abbrev vwCl : List vw_C := [(RX0, TX0, 3), (RX1, TX1, 9), (RX2, TX2, 4), (RX3, TX3, 4), (RX4, TX4, 6), (RX5, TX5, 10)]
end
section
/-- every word of the tables that a call hands on -/
def kALL : List Cond := k2_sels lw_privs ++ tables_1.filter goodWord
theorem kALL_good : ∀ w ∈ kALL, goodWord w = true := by
  intro w h
  rcases List.mem_append.mp h with h | h
  · obtain ⟨q, -, rfl⟩ := List.mem_map.mp h
    rfl
  · exact (List.mem_filter.mp h).2
theorem kALL_tbl : ∀ w ∈ kALL, w ∈ lw_tbl := fun w h => (List.mem_append.mp h).elim (fun h => List.mem_append_left _ h) (fun h => List.mem_append_right _ (List.mem_filter.mp h).1)
theorem kin {w : Cond} (h : w ∈ tables_1) (g : goodWord w = true) : w ∈ kALL := List.mem_append_right _ (List.mem_filter.mpr ⟨h, g⟩)
theorem kin1 {w : Cond} (i : Nat) (h : tables_1_1[i]? = some w) (g : goodWord w = true) : w ∈ kALL := kin (List.mem_append_left _ (List.mem_of_getElem? h)) g
theorem kin2 {w : Cond} (i : Nat) (h : tables_1_2[i]? = some w) (g : goodWord w = true) : w ∈ kALL := kin (List.mem_append_right _ (List.mem_append_left _ (List.mem_of_getElem? h))) g
theorem kin3 {w : Cond} (i : Nat) (h : tables_1_3[i]? = some w) (g : goodWord w = true) : w ∈ kALL := kin (List.mem_append_right _ (List.mem_append_right _ (List.mem_append_left _ (List.mem_of_getElem? h)))) g
theorem kin4 {w : Cond} (i : Nat) (h : tables_1_4[i]? = some w) (g : goodWord w = true) : w ∈ kALL := kin (List.mem_append_right _ (List.mem_append_right _ (List.mem_append_right _ (List.mem_of_getElem? h)))) g
theorem kins {w : Cond} (i : Nat) (h : (k2_sels lw_privs)[i]? = some w) : w ∈ kALL := List.mem_append_left _ (List.mem_of_getElem? h)
theorem kGood {y : MethodName} {bytes : ByteArray} {nL : Nat} {ret : Option FieldType} (hc : Cond.code y bytes nL ret ∈ kALL) : GoodIn kALL (Cond.code y bytes nL ret :: kALL) := fun w h => by
  rcases List.mem_cons.mp h with rfl | h
  · exact ⟨hc, good_of_word (kALL_good _ hc)⟩
  · exact ⟨h, good_of_word (kALL_good _ h)⟩

theorem wi_L : Cond.initialized RL ∈ kALL := kin1 0 rfl rfl
theorem wi_X4 : Cond.initialized RX4 ∈ kALL := kin1 1 rfl rfl
theorem wi_X1 : Cond.initialized RX1 ∈ kALL := kin1 2 rfl rfl
theorem wi_X2 : Cond.initialized RX2 ∈ kALL := kin1 3 rfl rfl
theorem wi_J9 : Cond.initialized RJ9 ∈ kALL := kin1 4 rfl rfl
theorem wi_X0 : Cond.initialized RX0 ∈ kALL := kin1 5 rfl rfl
theorem wi_X3 : Cond.initialized RX3 ∈ kALL := kin1 6 rfl rfl
theorem wi_X5 : Cond.initialized RX5 ∈ kALL := kin1 7 rfl rfl
theorem wi_J10 : Cond.initialized RJ10 ∈ kALL := kin1 8 rfl rfl
theorem wl_L_7 : Cond.classLink RL 7 RX4 ∈ kALL := kin1 9 rfl rfl
theorem wn_X4 : Cond.instantiable RX4 6 ∈ kALL := kin1 10 rfl rfl
theorem wm_L_9 : Cond.methodLink RL 9 yX4_init ∈ kALL := kin1 11 rfl rfl
theorem wk_X4_init : Cond.instanceMethod yX4_init ∈ kALL := kin1 12 rfl rfl
theorem wc_X4_init : Cond.code yX4_init cX4_init 1 none ∈ kALL := kin1 13 rfl rfl
theorem wm_X4_3 : Cond.methodLink RX4 3 Lib.objectInit ∈ kALL := kin1 14 rfl rfl
theorem wk_obj : Cond.instanceMethod Lib.objectInit ∈ kALL := kin1 15 rfl rfl
theorem wc_obj : Cond.code Lib.objectInit ⟨#[0xb1]⟩ 1 none ∈ kALL := kin1 16 rfl rfl
theorem wl_X4_9 : Cond.classLink RX4 9 RX1 ∈ kALL := kin1 17 rfl rfl
theorem wn_X1 : Cond.instantiable RX1 9 ∈ kALL := kin1 18 rfl rfl
theorem wm_X4_11 : Cond.methodLink RX4 11 yX1_init ∈ kALL := kin1 19 rfl rfl
theorem wk_X1_init : Cond.instanceMethod yX1_init ∈ kALL := kin1 20 rfl rfl
theorem wc_X1_init : Cond.code yX1_init cX1_init 1 none ∈ kALL := kin1 21 rfl rfl
theorem wm_X1_3 : Cond.methodLink RX1 3 Lib.objectInit ∈ kALL := kin1 22 rfl rfl
theorem wl_X1_9 : Cond.classLink RX1 9 RX2 ∈ kALL := kin1 23 rfl rfl
theorem wn_X2 : Cond.instantiable RX2 4 ∈ kALL := kin1 24 rfl rfl
theorem wm_X1_11 : Cond.methodLink RX1 11 yX2_init ∈ kALL := kin1 25 rfl rfl
theorem wk_X2_init : Cond.instanceMethod yX2_init ∈ kALL := kin1 26 rfl rfl
theorem wc_X2_init : Cond.code yX2_init cX2_init 3 none ∈ kALL := kin1 27 rfl rfl
theorem wm_X2_3 : Cond.methodLink RX2 3 Lib.objectInit ∈ kALL := kin1 28 rfl rfl
theorem wm_X2_18 : Cond.methodLink RX2 18 Lib.Math.max.name ∈ kALL := kin1 29 rfl rfl
theorem wt_max : Cond.static Lib.Math.max.name ∈ kALL := kin1 30 rfl rfl
theorem wc_max : Cond.code Lib.Math.max.name Lib.Math.max.code 2 (some .int) ∈ kALL := kin1 31 rfl rfl
theorem wf_X2_24 : Cond.fieldLink RX2 24 RX2 "cells" "[I" ∈ kALL := kin1 32 rfl rfl
theorem wf_X2_9 : Cond.fieldLink RX2 9 RX2 "mostRows" "I" ∈ kALL := kin1 33 rfl rfl
theorem wf_X2_15 : Cond.fieldLink RX2 15 RX2 "columns" "I" ∈ kALL := kin1 34 rfl rfl
theorem wf_X2_28 : Cond.fieldLink RX2 28 RX2 "rows" "I" ∈ kALL := kin1 35 rfl rfl
theorem wa_int : Cond.arrayClass .int ∈ kALL := kin1 45 rfl rfl
theorem wf_X1_14 : Cond.fieldLink RX1 14 RX1 "machines" "LBallastClub$Table;" ∈ kALL := kin1 46 rfl rfl
theorem wf_X4_44 : Cond.fieldLink RX4 44 RX1 "machines" "LBallastClub$Table;" ∈ kALL := kin1 47 rfl rfl
theorem wf_X1_20 : Cond.fieldLink RX1 20 RX1 "members" "LBallastClub$Table;" ∈ kALL := kin1 48 rfl rfl
theorem wf_X4_62 : Cond.fieldLink RX4 62 RX1 "members" "LBallastClub$Table;" ∈ kALL := kin1 49 rfl rfl
theorem wf_X1_23 : Cond.fieldLink RX1 23 RX1 "bookings" "LBallastClub$Table;" ∈ kALL := kin1 50 rfl rfl
theorem wf_X4_92 : Cond.fieldLink RX4 92 RX1 "bookings" "LBallastClub$Table;" ∈ kALL := kin1 51 rfl rfl
theorem wf_X1_26 : Cond.fieldLink RX1 26 RX1 "moves" "LBallastClub$Table;" ∈ kALL := kin1 52 rfl rfl
theorem wf_X4_122 : Cond.fieldLink RX4 122 RX1 "moves" "LBallastClub$Table;" ∈ kALL := kin1 53 rfl rfl
theorem wf_X1_29 : Cond.fieldLink RX1 29 RX1 "winds" "[I" ∈ kALL := kin1 54 rfl rfl
theorem wf_X1_49 : Cond.fieldLink RX1 49 RX1 "present" "I" ∈ kALL := kin1 55 rfl rfl
theorem wf_X4_109 : Cond.fieldLink RX4 109 RX1 "present" "I" ∈ kALL := kin1 56 rfl rfl
theorem wf_X1_53 : Cond.fieldLink RX1 53 RX1 "movesDone" "I" ∈ kALL := kin1 57 rfl rfl
theorem wf_X4_204 : Cond.fieldLink RX4 204 RX1 "movesDone" "I" ∈ kALL := kin1 58 rfl rfl
theorem wf_X1_56 : Cond.fieldLink RX1 56 RX1 "movesFailed" "I" ∈ kALL := kin1 59 rfl rfl
theorem wf_X4_207 : Cond.fieldLink RX4 207 RX1 "movesFailed" "I" ∈ kALL := kin1 60 rfl rfl
theorem wf_X1_59 : Cond.fieldLink RX1 59 RX1 "standbysOfNobody" "I" ∈ kALL := kin1 61 rfl rfl
theorem wf_X4_213 : Cond.fieldLink RX4 213 RX1 "standbysOfNobody" "I" ∈ kALL := kin1 62 rfl rfl
theorem wl_X4_22 : Cond.classLink RX4 22 RX0 ∈ kALL := kin1 82 rfl rfl
theorem wn_X0 : Cond.instantiable RX0 3 ∈ kALL := kin1 83 rfl rfl
theorem wm_X4_24 : Cond.methodLink RX4 24 yX0_init ∈ kALL := kin1 84 rfl rfl
theorem wk_X0_init : Cond.instanceMethod yX0_init ∈ kALL := kin1 85 rfl rfl
theorem wc_X0_init : Cond.code yX0_init cX0_init 2 none ∈ kALL := kin1 86 rfl rfl
theorem wm_X0_3 : Cond.methodLink RX0 3 Lib.objectInit ∈ kALL := kin1 87 rfl rfl
theorem wl_X0_9 : Cond.classLink RX0 9 RX1 ∈ kALL := kin1 88 rfl rfl
theorem wm_X0_17 : Cond.methodLink RX0 17 yX1_init ∈ kALL := kin1 90 rfl rfl
theorem wf_X0_11 : Cond.fieldLink RX0 11 RX0 "states" "[LBallastClub$State;" ∈ kALL := kin1 91 rfl rfl
theorem wf_X0_22 : Cond.fieldLink RX0 22 RX0 "next" "I" ∈ kALL := kin1 92 rfl rfl
theorem wf_X0_18 : Cond.fieldLink RX0 18 RX0 "size" "I" ∈ kALL := kin1 93 rfl rfl
theorem wl_X4_29 : Cond.classLink RX4 29 RX3 ∈ kALL := kin1 101 rfl rfl
theorem wn_X3 : Cond.instantiable RX3 4 ∈ kALL := kin1 102 rfl rfl
theorem wm_X4_31 : Cond.methodLink RX4 31 yX3_init ∈ kALL := kin1 103 rfl rfl
theorem wk_X3_init : Cond.instanceMethod yX3_init ∈ kALL := kin1 104 rfl rfl
theorem wc_X3_init : Cond.code yX3_init cX3_init 1 none ∈ kALL := kin1 105 rfl rfl
theorem wm_X3_3 : Cond.methodLink RX3 3 Lib.objectInit ∈ kALL := kin1 106 rfl rfl
theorem wl_X3_15 : Cond.classLink RX3 15 RX2 ∈ kALL := kin1 107 rfl rfl
theorem wm_X3_17 : Cond.methodLink RX3 17 yX2_init ∈ kALL := kin1 108 rfl rfl
theorem wf_X3_9 : Cond.fieldLink RX3 9 RX3 "signs" "[C" ∈ kALL := kin1 109 rfl rfl
theorem wf_X3_24 : Cond.fieldLink RX3 24 RX3 "length" "I" ∈ kALL := kin1 110 rfl rfl
theorem wf_X3_31 : Cond.fieldLink RX3 31 RX3 "at" "I" ∈ kALL := kin1 111 rfl rfl
theorem wf_X3_20 : Cond.fieldLink RX3 20 RX3 "told" "LBallastClub$Table;" ∈ kALL := kin1 112 rfl rfl
theorem wf_X4_152 : Cond.fieldLink RX4 152 RX3 "told" "LBallastClub$Table;" ∈ kALL := kin1 113 rfl rfl
theorem wa_char : Cond.arrayClass .char ∈ kALL := kin1 123 rfl rfl
theorem wf_X4_12 : Cond.fieldLink RX4 12 RX4 "now" "LBallastClub$State;" ∈ kALL := kin1 124 rfl rfl
theorem wf_X4_16 : Cond.fieldLink RX4 16 RX4 "snapshot" "LBallastClub$State;" ∈ kALL := kin1 125 rfl rfl
theorem wf_X4_19 : Cond.fieldLink RX4 19 RX4 "forecast" "LBallastClub$State;" ∈ kALL := kin1 126 rfl rfl
theorem wf_X4_25 : Cond.fieldLink RX4 25 RX4 "history" "LBallastClub$History;" ∈ kALL := kin1 127 rfl rfl
theorem wf_X4_32 : Cond.fieldLink RX4 32 RX4 "text" "LBallastClub$WindText;" ∈ kALL := kin1 128 rfl rfl
theorem wf_X4_36 : Cond.fieldLink RX4 36 RX4 "hasSnapshot" "Z" ∈ kALL := kin1 129 rfl rfl
theorem wm_L_13 : Cond.methodLink RL 13 yX4_addMachine ∈ kALL := kin1 143 rfl rfl
theorem wk_X4_addMachine : Cond.instanceMethod yX4_addMachine ∈ kALL := kin1 144 rfl rfl
theorem ws_X4_addMachine : Cond.selects RX4 yX4_addMachine yX4_addMachine ∈ kALL := kin1 145 rfl rfl
theorem wc_X4_addMachine : Cond.code yX4_addMachine cX4_addMachine 3 (some .int) ∈ kALL := kin1 146 rfl rfl
theorem wm_X4_40 : Cond.methodLink RX4 40 yX4_isWithin ∈ kALL := kin1 147 rfl rfl
theorem wt_X4_isWithin : Cond.static yX4_isWithin ∈ kALL := kin1 148 rfl rfl
theorem wc_X4_isWithin : Cond.code yX4_isWithin cX4_isWithin 3 (some .boolean) ∈ kALL := kin1 149 rfl rfl
theorem wm_X4_48 : Cond.methodLink RX4 48 yX2_isFull ∈ kALL := kin1 150 rfl rfl
theorem wk_X2_isFull : Cond.instanceMethod yX2_isFull ∈ kALL := kin1 151 rfl rfl
theorem ws_X2_isFull : Cond.selects RX2 yX2_isFull yX2_isFull ∈ kALL := kin1 152 rfl rfl
theorem wc_X2_isFull : Cond.code yX2_isFull cX2_isFull 1 (some .boolean) ∈ kALL := kin1 153 rfl rfl
theorem wm_X4_54 : Cond.methodLink RX4 54 yX0_push ∈ kALL := kin1 154 rfl rfl
theorem wk_X0_push : Cond.instanceMethod yX0_push ∈ kALL := kin1 155 rfl rfl
theorem ws_X0_push : Cond.selects RX0 yX0_push yX0_push ∈ kALL := kin1 156 rfl rfl
theorem wc_X0_push : Cond.code yX0_push cX0_push 3 none ∈ kALL := kin1 157 rfl rfl
theorem wm_X0_25 : Cond.methodLink RX0 25 yX0_stateAt ∈ kALL := kin1 158 rfl rfl
theorem wk_X0_stateAt : Cond.instanceMethod yX0_stateAt ∈ kALL := kin1 160 rfl rfl
theorem wc_X0_stateAt : Cond.code yX0_stateAt cX0_stateAt 2 (some (.object "BallastClub$State")) ∈ kALL := kin1 161 rfl rfl
theorem wm_X0_29 : Cond.methodLink RX0 29 yX1_copyFrom ∈ kALL := kin1 162 rfl rfl
theorem wk_X1_copyFrom : Cond.instanceMethod yX1_copyFrom ∈ kALL := kin1 163 rfl rfl
theorem ws_X1_copyFrom : Cond.selects RX1 yX1_copyFrom yX1_copyFrom ∈ kALL := kin1 164 rfl rfl
theorem wc_X1_copyFrom : Cond.code yX1_copyFrom cX1_copyFrom 2 none ∈ kALL := kin1 165 rfl rfl
theorem wm_X1_33 : Cond.methodLink RX1 33 yX2_copyFrom ∈ kALL := kin1 166 rfl rfl
theorem wk_X2_copyFrom : Cond.instanceMethod yX2_copyFrom ∈ kALL := kin1 167 rfl rfl
theorem ws_X2_copyFrom : Cond.selects RX2 yX2_copyFrom yX2_copyFrom ∈ kALL := kin1 168 rfl rfl
theorem wc_X2_copyFrom : Cond.code yX2_copyFrom cX2_copyFrom 2 none ∈ kALL := kin1 169 rfl rfl
theorem wm_X2_46 : Cond.methodLink RX2 46 Lib.Math.min.name ∈ kALL := kin1 170 rfl rfl
theorem wt_min : Cond.static Lib.Math.min.name ∈ kALL := kin1 171 rfl rfl
theorem wc_min : Cond.code Lib.Math.min.name Lib.Math.min.code 2 (some .int) ∈ kALL := kin1 172 rfl rfl
theorem wm_X2_49 : Cond.methodLink RX2 49 arraycopyName ∈ kALL := kin1 173 rfl rfl
theorem wt_acopy : Cond.static arraycopyName ∈ kALL := kin1 174 rfl rfl
theorem wx_acopy : Cond.native arraycopyName ∈ kALL := kin1 175 rfl rfl
theorem wm_X1_37 : Cond.methodLink RX1 37 Lib.Math.min.name ∈ kALL := kin1 176 rfl rfl
theorem wm_X1_43 : Cond.methodLink RX1 43 arraycopyName ∈ kALL := kin1 177 rfl rfl
theorem wm_X0_33 : Cond.methodLink RX0 33 Lib.Math.min.name ∈ kALL := kin1 178 rfl rfl
theorem wm_X4_58 : Cond.methodLink RX4 58 yX1_putMachine ∈ kALL := kin1 179 rfl rfl
theorem wk_X1_putMachine : Cond.instanceMethod yX1_putMachine ∈ kALL := kin1 180 rfl rfl
theorem ws_X1_putMachine : Cond.selects RX1 yX1_putMachine yX1_putMachine ∈ kALL := kin1 181 rfl rfl
theorem wc_X1_putMachine : Cond.code yX1_putMachine cX1_putMachine 4 (some .int) ∈ kALL := kin1 182 rfl rfl
theorem wm_X1_79 : Cond.methodLink RX1 79 yX2_addRow ∈ kALL := kin1 183 rfl rfl
theorem wk_X2_addRow : Cond.instanceMethod yX2_addRow ∈ kALL := kin1 184 rfl rfl
theorem ws_X2_addRow : Cond.selects RX2 yX2_addRow yX2_addRow ∈ kALL := kin1 185 rfl rfl
theorem wc_X2_addRow : Cond.code yX2_addRow cX2_addRow 3 (some .int) ∈ kALL := kin1 186 rfl rfl
theorem wm_X2_38 : Cond.methodLink RX2 38 yX2_isFull ∈ kALL := kin1 187 rfl rfl
theorem wm_X2_34 : Cond.methodLink RX2 34 yX2_set ∈ kALL := kin1 188 rfl rfl
theorem wk_X2_set : Cond.instanceMethod yX2_set ∈ kALL := kin1 189 rfl rfl
theorem ws_X2_set : Cond.selects RX2 yX2_set yX2_set ∈ kALL := kin1 190 rfl rfl
theorem wc_X2_set : Cond.code yX2_set cX2_set 5 none ∈ kALL := kin1 191 rfl rfl
theorem wm_X1_82 : Cond.methodLink RX1 82 yX2_set ∈ kALL := kin1 192 rfl rfl
theorem wm_L_18 : Cond.methodLink RL 18 yX4_addMember ∈ kALL := kin1 193 rfl rfl
theorem wk_X4_addMember : Cond.instanceMethod yX4_addMember ∈ kALL := kin1 194 rfl rfl
theorem ws_X4_addMember : Cond.selects RX4 yX4_addMember yX4_addMember ∈ kALL := kin1 195 rfl rfl
theorem wc_X4_addMember : Cond.code yX4_addMember cX4_addMember 1 (some .int) ∈ kALL := kin1 196 rfl rfl
theorem wm_X4_65 : Cond.methodLink RX4 65 yX2_addRow ∈ kALL := kin1 197 rfl rfl
theorem wm_L_23 : Cond.methodLink RL 23 yX4_setWind ∈ kALL := kin1 198 rfl rfl
theorem wk_X4_setWind : Cond.instanceMethod yX4_setWind ∈ kALL := kin1 199 rfl rfl
theorem ws_X4_setWind : Cond.selects RX4 yX4_setWind yX4_setWind ∈ kALL := kin1 200 rfl rfl
theorem wc_X4_setWind : Cond.code yX4_setWind cX4_setWind 4 (some .int) ∈ kALL := kin1 201 rfl rfl
theorem wm_X4_69 : Cond.methodLink RX4 69 yX1_isToCome ∈ kALL := kin1 202 rfl rfl
theorem wk_X1_isToCome : Cond.instanceMethod yX1_isToCome ∈ kALL := kin1 203 rfl rfl
theorem ws_X1_isToCome : Cond.selects RX1 yX1_isToCome yX1_isToCome ∈ kALL := kin1 204 rfl rfl
theorem wc_X1_isToCome : Cond.code yX1_isToCome cX1_isToCome 2 (some .boolean) ∈ kALL := kin1 205 rfl rfl
theorem wt_X4_isHalfDay : Cond.static yX4_isHalfDay ∈ kALL := kin1 207 rfl rfl
theorem wc_X4_isHalfDay : Cond.code yX4_isHalfDay cX4_isHalfDay 1 (some .boolean) ∈ kALL := kin1 208 rfl rfl
theorem wm_X4_73 : Cond.methodLink RX4 73 yX1_windAt ∈ kALL := kin1 209 rfl rfl
theorem wk_X1_windAt : Cond.instanceMethod yX1_windAt ∈ kALL := kin1 210 rfl rfl
theorem ws_X1_windAt : Cond.selects RX1 yX1_windAt yX1_windAt ∈ kALL := kin1 211 rfl rfl
theorem wc_X1_windAt : Cond.code yX1_windAt cX1_windAt 2 (some .int) ∈ kALL := kin1 212 rfl rfl
theorem wm_X4_77 : Cond.methodLink RX4 77 yX1_tellWind ∈ kALL := kin1 213 rfl rfl
theorem wk_X1_tellWind : Cond.instanceMethod yX1_tellWind ∈ kALL := kin1 214 rfl rfl
theorem ws_X1_tellWind : Cond.selects RX1 yX1_tellWind yX1_tellWind ∈ kALL := kin1 215 rfl rfl
theorem wc_X1_tellWind : Cond.code yX1_tellWind cX1_tellWind 3 none ∈ kALL := kin1 216 rfl rfl
theorem wm_L_27 : Cond.methodLink RL 27 yX4_book ∈ kALL := kin1 217 rfl rfl
theorem wk_X4_book : Cond.instanceMethod yX4_book ∈ kALL := kin1 218 rfl rfl
theorem ws_X4_book : Cond.selects RX4 yX4_book yX4_book ∈ kALL := kin1 219 rfl rfl
theorem wc_X4_book : Cond.code yX4_book cX4_book 7 (some .int) ∈ kALL := kin1 220 rfl rfl
theorem wm_X4_81 : Cond.methodLink RX4 81 yX2_has ∈ kALL := kin1 221 rfl rfl
theorem wk_X2_has : Cond.instanceMethod yX2_has ∈ kALL := kin1 222 rfl rfl
theorem ws_X2_has : Cond.selects RX2 yX2_has yX2_has ∈ kALL := kin1 223 rfl rfl
theorem wc_X2_has : Cond.code yX2_has cX2_has 2 (some .boolean) ∈ kALL := kin1 224 rfl rfl
theorem wm_X4_84 : Cond.methodLink RX4 84 yX4_isLift ∈ kALL := kin1 225 rfl rfl
theorem wt_X4_isLift : Cond.static yX4_isLift ∈ kALL := kin1 226 rfl rfl
theorem wc_X4_isLift : Cond.code yX4_isLift cX4_isLift 2 (some .boolean) ∈ kALL := kin1 227 rfl rfl
theorem wm_X4_170 : Cond.methodLink RX4 170 yX4_isRadius ∈ kALL := kin1 228 rfl rfl
theorem wt_X4_isRadius : Cond.static yX4_isRadius ∈ kALL := kin1 229 rfl rfl
theorem wc_X4_isRadius : Cond.code yX4_isRadius cX4_isRadius 1 (some .boolean) ∈ kALL := kin1 230 rfl rfl
theorem wm_X4_88 : Cond.methodLink RX4 88 yX1_canTake ∈ kALL := kin1 231 rfl rfl
theorem wk_X1_canTake : Cond.instanceMethod yX1_canTake ∈ kALL := kin1 232 rfl rfl
theorem ws_X1_canTake : Cond.selects RX1 yX1_canTake yX1_canTake ∈ kALL := kin1 233 rfl rfl
theorem wc_X1_canTake : Cond.code yX1_canTake cX1_canTake 5 (some .boolean) ∈ kALL := kin1 234 rfl rfl
theorem wm_X1_89 : Cond.methodLink RX1 89 yX1_borneBy ∈ kALL := kin1 235 rfl rfl
theorem wk_X1_borneBy : Cond.instanceMethod yX1_borneBy ∈ kALL := kin1 236 rfl rfl
theorem ws_X1_borneBy : Cond.selects RX1 yX1_borneBy yX1_borneBy ∈ kALL := kin1 237 rfl rfl
theorem wc_X1_borneBy : Cond.code yX1_borneBy cX1_borneBy 6 (some .int) ∈ kALL := kin1 238 rfl rfl
theorem wm_X1_70 : Cond.methodLink RX1 70 yX2_get ∈ kALL := kin1 239 rfl rfl
theorem wk_X2_get : Cond.instanceMethod yX2_get ∈ kALL := kin2 0 rfl rfl
theorem ws_X2_get : Cond.selects RX2 yX2_get yX2_get ∈ kALL := kin2 1 rfl rfl
theorem wc_X2_get : Cond.code yX2_get cX2_get 4 (some .int) ∈ kALL := kin2 2 rfl rfl
theorem wm_X1_86 : Cond.methodLink RX1 86 Lib.Math.max.name ∈ kALL := kin2 3 rfl rfl
theorem wm_X1_92 : Cond.methodLink RX1 92 yX1_bookingFor ∈ kALL := kin2 4 rfl rfl
theorem wk_X1_bookingFor : Cond.instanceMethod yX1_bookingFor ∈ kALL := kin2 5 rfl rfl
theorem ws_X1_bookingFor : Cond.selects RX1 yX1_bookingFor yX1_bookingFor ∈ kALL := kin2 6 rfl rfl
theorem wc_X1_bookingFor : Cond.code yX1_bookingFor cX1_bookingFor 4 (some .int) ∈ kALL := kin2 7 rfl rfl
theorem wm_X1_66 : Cond.methodLink RX1 66 yX2_size ∈ kALL := kin2 8 rfl rfl
theorem wk_X2_size : Cond.instanceMethod yX2_size ∈ kALL := kin2 9 rfl rfl
theorem ws_X2_size : Cond.selects RX2 yX2_size yX2_size ∈ kALL := kin2 10 rfl rfl
theorem wc_X2_size : Cond.code yX2_size cX2_size 1 (some .int) ∈ kALL := kin2 11 rfl rfl
theorem wm_X4_95 : Cond.methodLink RX4 95 yX1_putBooking ∈ kALL := kin2 12 rfl rfl
theorem wk_X1_putBooking : Cond.instanceMethod yX1_putBooking ∈ kALL := kin2 13 rfl rfl
theorem ws_X1_putBooking : Cond.selects RX1 yX1_putBooking yX1_putBooking ∈ kALL := kin2 14 rfl rfl
theorem wc_X1_putBooking : Cond.code yX1_putBooking cX1_putBooking 5 (some .int) ∈ kALL := kin2 15 rfl rfl
theorem wm_X4_99 : Cond.methodLink RX4 99 yX1_place ∈ kALL := kin2 16 rfl rfl
theorem wk_X1_place : Cond.instanceMethod yX1_place ∈ kALL := kin2 17 rfl rfl
theorem ws_X1_place : Cond.selects RX1 yX1_place yX1_place ∈ kALL := kin2 18 rfl rfl
theorem wc_X1_place : Cond.code yX1_place cX1_place 4 none ∈ kALL := kin2 19 rfl rfl
theorem wm_X1_98 : Cond.methodLink RX1 98 yX1_windAt ∈ kALL := kin2 20 rfl rfl
theorem wm_L_32 : Cond.methodLink RL 32 yX4_cancel ∈ kALL := kin2 21 rfl rfl
theorem wk_X4_cancel : Cond.instanceMethod yX4_cancel ∈ kALL := kin2 22 rfl rfl
theorem ws_X4_cancel : Cond.selects RX4 yX4_cancel yX4_cancel ∈ kALL := kin2 23 rfl rfl
theorem wc_X4_cancel : Cond.code yX4_cancel cX4_cancel 3 (some .int) ∈ kALL := kin2 24 rfl rfl
theorem wm_X4_103 : Cond.methodLink RX4 103 yX1_isBooked ∈ kALL := kin2 25 rfl rfl
theorem wk_X1_isBooked : Cond.instanceMethod yX1_isBooked ∈ kALL := kin2 26 rfl rfl
theorem ws_X1_isBooked : Cond.selects RX1 yX1_isBooked yX1_isBooked ∈ kALL := kin2 27 rfl rfl
theorem wc_X1_isBooked : Cond.code yX1_isBooked cX1_isBooked 2 (some .boolean) ∈ kALL := kin2 28 rfl rfl
theorem wm_X4_106 : Cond.methodLink RX4 106 yX2_get ∈ kALL := kin2 29 rfl rfl
theorem wm_X4_113 : Cond.methodLink RX4 113 yX1_pay ∈ kALL := kin2 30 rfl rfl
theorem wk_X1_pay : Cond.instanceMethod yX1_pay ∈ kALL := kin2 31 rfl rfl
theorem ws_X1_pay : Cond.selects RX1 yX1_pay yX1_pay ∈ kALL := kin2 32 rfl rfl
theorem wc_X1_pay : Cond.code yX1_pay cX1_pay 3 none ∈ kALL := kin2 33 rfl rfl
theorem wm_X1_95 : Cond.methodLink RX1 95 yX2_increase ∈ kALL := kin2 34 rfl rfl
theorem wk_X2_increase : Cond.instanceMethod yX2_increase ∈ kALL := kin2 35 rfl rfl
theorem ws_X2_increase : Cond.selects RX2 yX2_increase yX2_increase ∈ kALL := kin2 36 rfl rfl
theorem wc_X2_increase : Cond.code yX2_increase cX2_increase 4 none ∈ kALL := kin2 37 rfl rfl
theorem wm_X2_31 : Cond.methodLink RX2 31 yX2_get ∈ kALL := kin2 38 rfl rfl
theorem wm_X4_116 : Cond.methodLink RX4 116 yX2_set ∈ kALL := kin2 39 rfl rfl
theorem wm_L_37 : Cond.methodLink RL 37 yX4_swap ∈ kALL := kin2 40 rfl rfl
theorem wk_X4_swap : Cond.instanceMethod yX4_swap ∈ kALL := kin2 41 rfl rfl
theorem ws_X4_swap : Cond.selects RX4 yX4_swap yX4_swap ∈ kALL := kin2 42 rfl rfl
theorem wc_X4_swap : Cond.code yX4_swap cX4_swap 7 (some .int) ∈ kALL := kin2 43 rfl rfl
theorem wm_X4_119 : Cond.methodLink RX4 119 yX1_bearsLiftOf ∈ kALL := kin2 44 rfl rfl
theorem wk_X1_bearsLiftOf : Cond.instanceMethod yX1_bearsLiftOf ∈ kALL := kin2 45 rfl rfl
theorem ws_X1_bearsLiftOf : Cond.selects RX1 yX1_bearsLiftOf yX1_bearsLiftOf ∈ kALL := kin2 46 rfl rfl
theorem wc_X1_bearsLiftOf : Cond.code yX1_bearsLiftOf cX1_bearsLiftOf 3 (some .boolean) ∈ kALL := kin2 47 rfl rfl
theorem wm_L_41 : Cond.methodLink RL 41 yX4_order ∈ kALL := kin2 48 rfl rfl
theorem wk_X4_order : Cond.instanceMethod yX4_order ∈ kALL := kin2 49 rfl rfl
theorem ws_X4_order : Cond.selects RX4 yX4_order yX4_order ∈ kALL := kin2 50 rfl rfl
theorem wc_X4_order : Cond.code yX4_order cX4_order 6 (some .int) ∈ kALL := kin2 51 rfl rfl
theorem wm_X4_125 : Cond.methodLink RX4 125 yX1_putMove ∈ kALL := kin2 52 rfl rfl
theorem wk_X1_putMove : Cond.instanceMethod yX1_putMove ∈ kALL := kin2 53 rfl rfl
theorem ws_X1_putMove : Cond.selects RX1 yX1_putMove yX1_putMove ∈ kALL := kin2 54 rfl rfl
theorem wc_X1_putMove : Cond.code yX1_putMove cX1_putMove 7 (some .int) ∈ kALL := kin2 55 rfl rfl
theorem wm_L_45 : Cond.methodLink RL 45 yX4_takeBack ∈ kALL := kin2 56 rfl rfl
theorem wk_X4_takeBack : Cond.instanceMethod yX4_takeBack ∈ kALL := kin2 57 rfl rfl
theorem ws_X4_takeBack : Cond.selects RX4 yX4_takeBack yX4_takeBack ∈ kALL := kin2 58 rfl rfl
theorem wc_X4_takeBack : Cond.code yX4_takeBack cX4_takeBack 2 (some .int) ∈ kALL := kin2 59 rfl rfl
theorem wm_X4_129 : Cond.methodLink RX4 129 yX2_removeRow ∈ kALL := kin2 60 rfl rfl
theorem wk_X2_removeRow : Cond.instanceMethod yX2_removeRow ∈ kALL := kin2 61 rfl rfl
theorem ws_X2_removeRow : Cond.selects RX2 yX2_removeRow yX2_removeRow ∈ kALL := kin2 62 rfl rfl
theorem wc_X2_removeRow : Cond.code yX2_removeRow cX2_removeRow 4 none ∈ kALL := kin2 63 rfl rfl
theorem wm_X2_42 : Cond.methodLink RX2 42 yX2_has ∈ kALL := kin2 64 rfl rfl
theorem wm_X4_133 : Cond.methodLink RX4 133 yX2_size ∈ kALL := kin2 65 rfl rfl
theorem wm_L_49 : Cond.methodLink RL 49 yX4_pass ∈ kALL := kin2 66 rfl rfl
theorem wk_X4_pass : Cond.instanceMethod yX4_pass ∈ kALL := kin2 67 rfl rfl
theorem ws_X4_pass : Cond.selects RX4 yX4_pass yX4_pass ∈ kALL := kin2 68 rfl rfl
theorem wc_X4_pass : Cond.code yX4_pass cX4_pass 4 (some .int) ∈ kALL := kin2 69 rfl rfl
theorem wm_X4_136 : Cond.methodLink RX4 136 yX1_passHalfDay ∈ kALL := kin2 70 rfl rfl
theorem wk_X1_passHalfDay : Cond.instanceMethod yX1_passHalfDay ∈ kALL := kin2 71 rfl rfl
theorem ws_X1_passHalfDay : Cond.selects RX1 yX1_passHalfDay yX1_passHalfDay ∈ kALL := kin2 72 rfl rfl
theorem wc_X1_passHalfDay : Cond.code yX1_passHalfDay cX1_passHalfDay 3 (some .int) ∈ kALL := kin2 73 rfl rfl
theorem wm_X1_125 : Cond.methodLink RX1 125 yX1_closeMovesUpTo ∈ kALL := kin2 74 rfl rfl
theorem wk_X1_closeMovesUpTo : Cond.instanceMethod yX1_closeMovesUpTo ∈ kALL := kin2 75 rfl rfl
theorem ws_X1_closeMovesUpTo : Cond.selects RX1 yX1_closeMovesUpTo yX1_closeMovesUpTo ∈ kALL := kin2 76 rfl rfl
theorem wc_X1_closeMovesUpTo : Cond.code yX1_closeMovesUpTo cX1_closeMovesUpTo 4 none ∈ kALL := kin2 77 rfl rfl
theorem wm_X1_112 : Cond.methodLink RX1 112 yX1_nextMoveUpTo ∈ kALL := kin2 78 rfl rfl
theorem wk_X1_nextMoveUpTo : Cond.instanceMethod yX1_nextMoveUpTo ∈ kALL := kin2 79 rfl rfl
theorem ws_X1_nextMoveUpTo : Cond.selects RX1 yX1_nextMoveUpTo yX1_nextMoveUpTo ∈ kALL := kin2 80 rfl rfl
theorem wc_X1_nextMoveUpTo : Cond.code yX1_nextMoveUpTo cX1_nextMoveUpTo 5 (some .int) ∈ kALL := kin2 81 rfl rfl
theorem wm_X1_115 : Cond.methodLink RX1 115 yX1_closeMove ∈ kALL := kin2 82 rfl rfl
theorem wk_X1_closeMove : Cond.instanceMethod yX1_closeMove ∈ kALL := kin2 84 rfl rfl
theorem wc_X1_closeMove : Cond.code yX1_closeMove cX1_closeMove 6 none ∈ kALL := kin2 85 rfl rfl
theorem wm_X1_119 : Cond.methodLink RX1 119 yX2_removeRow ∈ kALL := kin2 86 rfl rfl
theorem wm_X1_122 : Cond.methodLink RX1 122 yX1_pay ∈ kALL := kin2 87 rfl rfl
theorem wm_X1_128 : Cond.methodLink RX1 128 yX1_isBooked ∈ kALL := kin2 88 rfl rfl
theorem wm_X1_131 : Cond.methodLink RX1 131 yX1_mustStandBy ∈ kALL := kin2 89 rfl rfl
theorem wk_X1_mustStandBy : Cond.instanceMethod yX1_mustStandBy ∈ kALL := kin2 90 rfl rfl
theorem ws_X1_mustStandBy : Cond.selects RX1 yX1_mustStandBy yX1_mustStandBy ∈ kALL := kin2 91 rfl rfl
theorem wc_X1_mustStandBy : Cond.code yX1_mustStandBy cX1_mustStandBy 2 (some .boolean) ∈ kALL := kin2 92 rfl rfl
theorem wm_X1_105 : Cond.methodLink RX1 105 yX1_bearsLiftOf ∈ kALL := kin2 93 rfl rfl
theorem wm_X1_109 : Cond.methodLink RX1 109 yX1_limitOf ∈ kALL := kin2 94 rfl rfl
theorem wk_X1_limitOf : Cond.instanceMethod yX1_limitOf ∈ kALL := kin2 95 rfl rfl
theorem ws_X1_limitOf : Cond.selects RX1 yX1_limitOf yX1_limitOf ∈ kALL := kin2 96 rfl rfl
theorem wc_X1_limitOf : Cond.code yX1_limitOf cX1_limitOf 2 (some .int) ∈ kALL := kin2 97 rfl rfl
theorem wt_X4_limitFor : Cond.static yX4_limitFor ∈ kALL := kin2 99 rfl rfl
theorem wc_X4_limitFor : Cond.code yX4_limitFor cX4_limitFor 2 (some .int) ∈ kALL := kin2 100 rfl rfl
theorem wm_X4_216 : Cond.methodLink RX4 216 Lib.Math.max.name ∈ kALL := kin2 101 rfl rfl
theorem wm_X1_134 : Cond.methodLink RX1 134 yX1_standBy ∈ kALL := kin2 102 rfl rfl
theorem wk_X1_standBy : Cond.instanceMethod yX1_standBy ∈ kALL := kin2 104 rfl rfl
theorem wc_X1_standBy : Cond.code yX1_standBy cX1_standBy 3 none ∈ kALL := kin2 105 rfl rfl
theorem wm_X1_140 : Cond.methodLink RX1 140 yX1_causerOf ∈ kALL := kin2 106 rfl rfl
theorem wk_X1_causerOf : Cond.instanceMethod yX1_causerOf ∈ kALL := kin2 107 rfl rfl
theorem ws_X1_causerOf : Cond.selects RX1 yX1_causerOf yX1_causerOf ∈ kALL := kin2 108 rfl rfl
theorem wc_X1_causerOf : Cond.code yX1_causerOf cX1_causerOf 4 (some .int) ∈ kALL := kin2 109 rfl rfl
theorem wm_X1_143 : Cond.methodLink RX1 143 yX1_carryOver ∈ kALL := kin2 110 rfl rfl
theorem wk_X1_carryOver : Cond.instanceMethod yX1_carryOver ∈ kALL := kin2 112 rfl rfl
theorem wc_X1_carryOver : Cond.code yX1_carryOver cX1_carryOver 5 none ∈ kALL := kin2 113 rfl rfl
theorem wm_X1_146 : Cond.methodLink RX1 146 yX1_place ∈ kALL := kin2 114 rfl rfl
theorem wm_X1_137 : Cond.methodLink RX1 137 yX1_lift ∈ kALL := kin2 115 rfl rfl
theorem wk_X1_lift : Cond.instanceMethod yX1_lift ∈ kALL := kin2 117 rfl rfl
theorem wc_X1_lift : Cond.code yX1_lift cX1_lift 2 none ∈ kALL := kin2 118 rfl rfl
theorem wm_L_53 : Cond.methodLink RL 53 yX4_type ∈ kALL := kin2 119 rfl rfl
theorem wk_X4_type : Cond.instanceMethod yX4_type ∈ kALL := kin2 120 rfl rfl
theorem ws_X4_type : Cond.selects RX4 yX4_type yX4_type ∈ kALL := kin2 121 rfl rfl
theorem wc_X4_type : Cond.code yX4_type cX4_type 2 (some .int) ∈ kALL := kin2 122 rfl rfl
theorem wm_X4_139 : Cond.methodLink RX4 139 yX3_append ∈ kALL := kin2 123 rfl rfl
theorem wk_X3_append : Cond.instanceMethod yX3_append ∈ kALL := kin2 124 rfl rfl
theorem ws_X3_append : Cond.selects RX3 yX3_append yX3_append ∈ kALL := kin2 125 rfl rfl
theorem wc_X3_append : Cond.code yX3_append cX3_append 2 (some .boolean) ∈ kALL := kin2 126 rfl rfl
theorem wm_X4_143 : Cond.methodLink RX4 143 yX3_length ∈ kALL := kin2 127 rfl rfl
theorem wk_X3_length : Cond.instanceMethod yX3_length ∈ kALL := kin2 128 rfl rfl
theorem ws_X3_length : Cond.selects RX3 yX3_length yX3_length ∈ kALL := kin2 129 rfl rfl
theorem wc_X3_length : Cond.code yX3_length cX3_length 1 (some .int) ∈ kALL := kin2 130 rfl rfl
theorem wm_L_58 : Cond.methodLink RL 58 yX4_clearText ∈ kALL := kin2 131 rfl rfl
theorem wk_X4_clearText : Cond.instanceMethod yX4_clearText ∈ kALL := kin2 132 rfl rfl
theorem ws_X4_clearText : Cond.selects RX4 yX4_clearText yX4_clearText ∈ kALL := kin2 133 rfl rfl
theorem wc_X4_clearText : Cond.code yX4_clearText cX4_clearText 2 (some .int) ∈ kALL := kin2 134 rfl rfl
theorem wm_X4_146 : Cond.methodLink RX4 146 yX3_empty ∈ kALL := kin2 135 rfl rfl
theorem wk_X3_empty : Cond.instanceMethod yX3_empty ∈ kALL := kin2 136 rfl rfl
theorem ws_X3_empty : Cond.selects RX3 yX3_empty yX3_empty ∈ kALL := kin2 137 rfl rfl
theorem wc_X3_empty : Cond.code yX3_empty cX3_empty 1 none ∈ kALL := kin2 138 rfl rfl
theorem wm_L_62 : Cond.methodLink RL 62 yX4_readWinds ∈ kALL := kin2 139 rfl rfl
theorem wk_X4_readWinds : Cond.instanceMethod yX4_readWinds ∈ kALL := kin2 140 rfl rfl
theorem ws_X4_readWinds : Cond.selects RX4 yX4_readWinds yX4_readWinds ∈ kALL := kin2 141 rfl rfl
theorem wc_X4_readWinds : Cond.code yX4_readWinds cX4_readWinds 2 (some .int) ∈ kALL := kin2 142 rfl rfl
theorem wm_X4_149 : Cond.methodLink RX4 149 yX3_parse ∈ kALL := kin2 143 rfl rfl
theorem wk_X3_parse : Cond.instanceMethod yX3_parse ∈ kALL := kin2 144 rfl rfl
theorem ws_X3_parse : Cond.selects RX3 yX3_parse yX3_parse ∈ kALL := kin2 145 rfl rfl
theorem wc_X3_parse : Cond.code yX3_parse cX3_parse 5 (some .int) ∈ kALL := kin2 146 rfl rfl
theorem wm_X3_28 : Cond.methodLink RX3 28 yX2_removeAll ∈ kALL := kin2 147 rfl rfl
theorem wk_X2_removeAll : Cond.instanceMethod yX2_removeAll ∈ kALL := kin2 148 rfl rfl
theorem ws_X2_removeAll : Cond.selects RX2 yX2_removeAll yX2_removeAll ∈ kALL := kin2 149 rfl rfl
theorem wc_X2_removeAll : Cond.code yX2_removeAll cX2_removeAll 1 none ∈ kALL := kin2 150 rfl rfl
theorem wm_X3_34 : Cond.methodLink RX3 34 yX3_readNumber ∈ kALL := kin2 151 rfl rfl
theorem wk_X3_readNumber : Cond.instanceMethod yX3_readNumber ∈ kALL := kin2 153 rfl rfl
theorem wc_X3_readNumber : Cond.code yX3_readNumber cX3_readNumber 5 (some .int) ∈ kALL := kin2 154 rfl rfl
theorem wm_X3_50 : Cond.methodLink RX3 50 yX3_sign ∈ kALL := kin2 155 rfl rfl
theorem wk_X3_sign : Cond.instanceMethod yX3_sign ∈ kALL := kin2 157 rfl rfl
theorem wc_X3_sign : Cond.code yX3_sign cX3_sign 1 (some .int) ∈ kALL := kin2 158 rfl rfl
theorem wm_X3_53 : Cond.methodLink RX3 53 yX3_isDigit ∈ kALL := kin2 159 rfl rfl
theorem wt_X3_isDigit : Cond.static yX3_isDigit ∈ kALL := kin2 160 rfl rfl
theorem wc_X3_isDigit : Cond.code yX3_isDigit cX3_isDigit 1 (some .boolean) ∈ kALL := kin2 161 rfl rfl
theorem wm_X3_38 : Cond.methodLink RX3 38 yX3_readSign ∈ kALL := kin2 162 rfl rfl
theorem wk_X3_readSign : Cond.instanceMethod yX3_readSign ∈ kALL := kin2 164 rfl rfl
theorem wc_X3_readSign : Cond.code yX3_readSign cX3_readSign 2 (some .boolean) ∈ kALL := kin2 165 rfl rfl
theorem wm_X3_42 : Cond.methodLink RX3 42 yX2_addRow ∈ kALL := kin2 166 rfl rfl
theorem wm_X3_46 : Cond.methodLink RX3 46 yX2_set ∈ kALL := kin2 167 rfl rfl
theorem wm_X4_155 : Cond.methodLink RX4 155 yX1_areAllToCome ∈ kALL := kin2 168 rfl rfl
theorem wk_X1_areAllToCome : Cond.instanceMethod yX1_areAllToCome ∈ kALL := kin2 169 rfl rfl
theorem ws_X1_areAllToCome : Cond.selects RX1 yX1_areAllToCome yX1_areAllToCome ∈ kALL := kin2 170 rfl rfl
theorem wc_X1_areAllToCome : Cond.code yX1_areAllToCome cX1_areAllToCome 3 (some .boolean) ∈ kALL := kin2 171 rfl rfl
theorem wm_X1_73 : Cond.methodLink RX1 73 yX1_isToCome ∈ kALL := kin2 172 rfl rfl
theorem wm_X4_159 : Cond.methodLink RX4 159 yX1_tellWinds ∈ kALL := kin2 173 rfl rfl
theorem wk_X1_tellWinds : Cond.instanceMethod yX1_tellWinds ∈ kALL := kin2 174 rfl rfl
theorem ws_X1_tellWinds : Cond.selects RX1 yX1_tellWinds yX1_tellWinds ∈ kALL := kin2 175 rfl rfl
theorem wc_X1_tellWinds : Cond.code yX1_tellWinds cX1_tellWinds 3 none ∈ kALL := kin2 176 rfl rfl
theorem wm_X1_76 : Cond.methodLink RX1 76 yX1_tellWind ∈ kALL := kin2 177 rfl rfl
theorem wm_L_66 : Cond.methodLink RL 66 yX4_undo ∈ kALL := kin2 178 rfl rfl
theorem wk_X4_undo : Cond.instanceMethod yX4_undo ∈ kALL := kin2 179 rfl rfl
theorem ws_X4_undo : Cond.selects RX4 yX4_undo yX4_undo ∈ kALL := kin2 180 rfl rfl
theorem wc_X4_undo : Cond.code yX4_undo cX4_undo 1 (some .int) ∈ kALL := kin2 181 rfl rfl
theorem wm_X4_163 : Cond.methodLink RX4 163 yX0_size ∈ kALL := kin2 182 rfl rfl
theorem wk_X0_size : Cond.instanceMethod yX0_size ∈ kALL := kin2 183 rfl rfl
theorem ws_X0_size : Cond.selects RX0 yX0_size yX0_size ∈ kALL := kin2 184 rfl rfl
theorem wc_X0_size : Cond.code yX0_size cX0_size 1 (some .int) ∈ kALL := kin2 185 rfl rfl
theorem wm_X4_164 : Cond.methodLink RX4 164 yX0_popInto ∈ kALL := kin2 186 rfl rfl
theorem wk_X0_popInto : Cond.instanceMethod yX0_popInto ∈ kALL := kin2 187 rfl rfl
theorem ws_X0_popInto : Cond.selects RX0 yX0_popInto yX0_popInto ∈ kALL := kin2 188 rfl rfl
theorem wc_X0_popInto : Cond.code yX0_popInto cX0_popInto 4 none ∈ kALL := kin2 189 rfl rfl
theorem wm_L_70 : Cond.methodLink RL 70 yX4_keep ∈ kALL := kin2 190 rfl rfl
theorem wk_X4_keep : Cond.instanceMethod yX4_keep ∈ kALL := kin2 191 rfl rfl
theorem ws_X4_keep : Cond.selects RX4 yX4_keep yX4_keep ∈ kALL := kin2 192 rfl rfl
theorem wc_X4_keep : Cond.code yX4_keep cX4_keep 1 (some .int) ∈ kALL := kin2 193 rfl rfl
theorem wm_X4_167 : Cond.methodLink RX4 167 yX1_copyFrom ∈ kALL := kin2 194 rfl rfl
theorem wm_L_74 : Cond.methodLink RL 74 yX4_restore ∈ kALL := kin2 195 rfl rfl
theorem wk_X4_restore : Cond.instanceMethod yX4_restore ∈ kALL := kin2 196 rfl rfl
theorem ws_X4_restore : Cond.selects RX4 yX4_restore yX4_restore ∈ kALL := kin2 197 rfl rfl
theorem wc_X4_restore : Cond.code yX4_restore cX4_restore 1 (some .int) ∈ kALL := kin2 198 rfl rfl
theorem wm_L_78 : Cond.methodLink RL 78 yX4_bears ∈ kALL := kin2 199 rfl rfl
theorem wk_X4_bears : Cond.instanceMethod yX4_bears ∈ kALL := kin2 200 rfl rfl
theorem ws_X4_bears : Cond.selects RX4 yX4_bears yX4_bears ∈ kALL := kin2 201 rfl rfl
theorem wc_X4_bears : Cond.code yX4_bears cX4_bears 3 (some .int) ∈ kALL := kin2 202 rfl rfl
theorem wm_X4_173 : Cond.methodLink RX4 173 yX1_borneBy ∈ kALL := kin2 203 rfl rfl
theorem wm_L_82 : Cond.methodLink RL 82 yX4_willBear ∈ kALL := kin2 204 rfl rfl
theorem wk_X4_willBear : Cond.instanceMethod yX4_willBear ∈ kALL := kin2 205 rfl rfl
theorem ws_X4_willBear : Cond.selects RX4 yX4_willBear yX4_willBear ∈ kALL := kin2 206 rfl rfl
theorem wc_X4_willBear : Cond.code yX4_willBear cX4_willBear 4 (some .int) ∈ kALL := kin2 207 rfl rfl
theorem wm_X4_176 : Cond.methodLink RX4 176 yX1_closeMovesUpTo ∈ kALL := kin2 208 rfl rfl
theorem wm_L_87 : Cond.methodLink RL 87 yX4_windLimit ∈ kALL := kin2 209 rfl rfl
theorem wk_X4_windLimit : Cond.instanceMethod yX4_windLimit ∈ kALL := kin2 210 rfl rfl
theorem ws_X4_windLimit : Cond.selects RX4 yX4_windLimit yX4_windLimit ∈ kALL := kin2 211 rfl rfl
theorem wc_X4_windLimit : Cond.code yX4_windLimit cX4_windLimit 3 (some .int) ∈ kALL := kin2 212 rfl rfl
theorem wm_X4_179 : Cond.methodLink RX4 179 yX4_limitFor ∈ kALL := kin2 213 rfl rfl
theorem wm_L_91 : Cond.methodLink RL 91 yX4_machine ∈ kALL := kin2 214 rfl rfl
theorem wk_X4_machine : Cond.instanceMethod yX4_machine ∈ kALL := kin2 215 rfl rfl
theorem ws_X4_machine : Cond.selects RX4 yX4_machine yX4_machine ∈ kALL := kin2 216 rfl rfl
theorem wc_X4_machine : Cond.code yX4_machine cX4_machine 3 (some .int) ∈ kALL := kin2 217 rfl rfl
theorem wm_X4_182 : Cond.methodLink RX4 182 yX2_countBoth ∈ kALL := kin2 218 rfl rfl
theorem wk_X2_countBoth : Cond.instanceMethod yX2_countBoth ∈ kALL := kin2 219 rfl rfl
theorem ws_X2_countBoth : Cond.selects RX2 yX2_countBoth yX2_countBoth ∈ kALL := kin2 220 rfl rfl
theorem wc_X2_countBoth : Cond.code yX2_countBoth cX2_countBoth 7 (some .int) ∈ kALL := kin2 221 rfl rfl
theorem wm_X4_186 : Cond.methodLink RX4 186 yX2_countOf ∈ kALL := kin2 222 rfl rfl
theorem wk_X2_countOf : Cond.instanceMethod yX2_countOf ∈ kALL := kin2 223 rfl rfl
theorem ws_X2_countOf : Cond.selects RX2 yX2_countOf yX2_countOf ∈ kALL := kin2 224 rfl rfl
theorem wc_X2_countOf : Cond.code yX2_countOf cX2_countOf 5 (some .int) ∈ kALL := kin2 225 rfl rfl
theorem wm_L_95 : Cond.methodLink RL 95 yX4_member ∈ kALL := kin2 226 rfl rfl
theorem wk_X4_member : Cond.instanceMethod yX4_member ∈ kALL := kin2 227 rfl rfl
theorem ws_X4_member : Cond.selects RX4 yX4_member yX4_member ∈ kALL := kin2 228 rfl rfl
theorem wc_X4_member : Cond.code yX4_member cX4_member 3 (some .int) ∈ kALL := kin2 229 rfl rfl
theorem wm_L_99 : Cond.methodLink RL 99 yX4_booking ∈ kALL := kin2 230 rfl rfl
theorem wk_X4_booking : Cond.instanceMethod yX4_booking ∈ kALL := kin2 231 rfl rfl
theorem ws_X4_booking : Cond.selects RX4 yX4_booking yX4_booking ∈ kALL := kin2 232 rfl rfl
theorem wc_X4_booking : Cond.code yX4_booking cX4_booking 3 (some .int) ∈ kALL := kin2 233 rfl rfl
theorem wm_X4_189 : Cond.methodLink RX4 189 yX1_limitOf ∈ kALL := kin2 234 rfl rfl
theorem wm_L_103 : Cond.methodLink RL 103 yX4_move ∈ kALL := kin2 235 rfl rfl
theorem wk_X4_move : Cond.instanceMethod yX4_move ∈ kALL := kin2 236 rfl rfl
theorem ws_X4_move : Cond.selects RX4 yX4_move yX4_move ∈ kALL := kin2 237 rfl rfl
theorem wc_X4_move : Cond.code yX4_move cX4_move 3 (some .int) ∈ kALL := kin2 238 rfl rfl
theorem wm_L_107 : Cond.methodLink RL 107 yX4_bookedAt ∈ kALL := kin2 239 rfl rfl
theorem wk_X4_bookedAt : Cond.instanceMethod yX4_bookedAt ∈ kALL := kin3 0 rfl rfl
theorem ws_X4_bookedAt : Cond.selects RX4 yX4_bookedAt yX4_bookedAt ∈ kALL := kin3 1 rfl rfl
theorem wc_X4_bookedAt : Cond.code yX4_bookedAt cX4_bookedAt 3 (some .int) ∈ kALL := kin3 2 rfl rfl
theorem wm_X4_192 : Cond.methodLink RX4 192 yX4_isHalfDay ∈ kALL := kin3 3 rfl rfl
theorem wm_X4_195 : Cond.methodLink RX4 195 yX1_bookingFor ∈ kALL := kin3 4 rfl rfl
theorem wm_L_111 : Cond.methodLink RL 111 yX4_machineFor ∈ kALL := kin3 5 rfl rfl
theorem wk_X4_machineFor : Cond.instanceMethod yX4_machineFor ∈ kALL := kin3 6 rfl rfl
theorem ws_X4_machineFor : Cond.selects RX4 yX4_machineFor yX4_machineFor ∈ kALL := kin3 7 rfl rfl
theorem wc_X4_machineFor : Cond.code yX4_machineFor cX4_machineFor 5 (some .int) ∈ kALL := kin3 8 rfl rfl
theorem wm_L_115 : Cond.methodLink RL 115 yX4_fate ∈ kALL := kin3 9 rfl rfl
theorem wk_X4_fate : Cond.instanceMethod yX4_fate ∈ kALL := kin3 10 rfl rfl
theorem ws_X4_fate : Cond.selects RX4 yX4_fate yX4_fate ∈ kALL := kin3 11 rfl rfl
theorem wc_X4_fate : Cond.code yX4_fate cX4_fate 2 (some .int) ∈ kALL := kin3 12 rfl rfl
theorem wm_X4_198 : Cond.methodLink RX4 198 yX1_mustStandBy ∈ kALL := kin3 13 rfl rfl
theorem wm_X4_201 : Cond.methodLink RX4 201 yX1_causerOf ∈ kALL := kin3 14 rfl rfl
theorem wm_L_119 : Cond.methodLink RL 119 yX4_wind ∈ kALL := kin3 15 rfl rfl
theorem wk_X4_wind : Cond.instanceMethod yX4_wind ∈ kALL := kin3 16 rfl rfl
theorem ws_X4_wind : Cond.selects RX4 yX4_wind yX4_wind ∈ kALL := kin3 17 rfl rfl
theorem wc_X4_wind : Cond.code yX4_wind cX4_wind 2 (some .int) ∈ kALL := kin3 18 rfl rfl
theorem wm_L_123 : Cond.methodLink RL 123 yX4_count ∈ kALL := kin3 19 rfl rfl
theorem wk_X4_count : Cond.instanceMethod yX4_count ∈ kALL := kin3 20 rfl rfl
theorem ws_X4_count : Cond.selects RX4 yX4_count yX4_count ∈ kALL := kin3 21 rfl rfl
theorem wc_X4_count : Cond.code yX4_count cX4_count 2 (some .int) ∈ kALL := kin3 22 rfl rfl
theorem wm_X4_210 : Cond.methodLink RX4 210 yX2_sumOf ∈ kALL := kin3 23 rfl rfl
theorem wk_X2_sumOf : Cond.instanceMethod yX2_sumOf ∈ kALL := kin3 24 rfl rfl
theorem ws_X2_sumOf : Cond.selects RX2 yX2_sumOf yX2_sumOf ∈ kALL := kin3 25 rfl rfl
theorem wc_X2_sumOf : Cond.code yX2_sumOf cX2_sumOf 4 (some .int) ∈ kALL := kin3 26 rfl rfl
theorem wl_L_10 : Cond.classLink RL 10 RX5 ∈ kALL := kin3 27 rfl rfl
theorem wn_X5 : Cond.instantiable RX5 10 ∈ kALL := kin3 28 rfl rfl
theorem wm_L_12 : Cond.methodLink RL 12 yX5_init ∈ kALL := kin3 29 rfl rfl
theorem wk_X5_init : Cond.instanceMethod yX5_init ∈ kALL := kin3 30 rfl rfl
theorem wc_X5_init : Cond.code yX5_init cX5_init 1 none ∈ kALL := kin3 31 rfl rfl
theorem wm_X5_1 : Cond.methodLink RX5 1 Lib.objectInit ∈ kALL := kin3 32 rfl rfl
theorem wf_X5_7 : Cond.fieldLink RX5 7 RX5 "row" "[I" ∈ kALL := kin3 33 rfl rfl
theorem wf_X5_24 : Cond.fieldLink RX5 24 RX5 "states" "I" ∈ kALL := kin3 34 rfl rfl
theorem wf_X5_31 : Cond.fieldLink RX5 31 RX5 "isKept" "Z" ∈ kALL := kin3 35 rfl rfl
theorem wf_X5_13 : Cond.fieldLink RX5 13 RX5 "text" "[I" ∈ kALL := kin3 36 rfl rfl
theorem wf_X5_123 : Cond.fieldLink RX5 123 RX5 "length" "I" ∈ kALL := kin3 37 rfl rfl
theorem wf_X5_16 : Cond.fieldLink RX5 16 RX5 "watched" "I" ∈ kALL := kin3 38 rfl rfl
theorem wf_X5_101 : Cond.fieldLink RX5 101 RX5 "fate" "I" ∈ kALL := kin3 39 rfl rfl
theorem wf_X5_126 : Cond.fieldLink RX5 126 RX5 "pos" "I" ∈ kALL := kin3 40 rfl rfl
theorem wf_X5_136 : Cond.fieldLink RX5 136 RX5 "first" "I" ∈ kALL := kin3 41 rfl rfl
theorem wf_X5_139 : Cond.fieldLink RX5 139 RX5 "second" "I" ∈ kALL := kin3 42 rfl rfl
theorem wm_L_69 : Cond.methodLink RL 69 yX5_undo ∈ kALL := kin3 64 rfl rfl
theorem wk_X5_undo : Cond.instanceMethod yX5_undo ∈ kALL := kin3 65 rfl rfl
theorem ws_X5_undo : Cond.selects RX5 yX5_undo yX5_undo ∈ kALL := kin3 66 rfl rfl
theorem wc_X5_undo : Cond.code yX5_undo cX5_undo 1 (some .int) ∈ kALL := kin3 67 rfl rfl
theorem wm_X5_27 : Cond.methodLink RX5 27 yX5_copy ∈ kALL := kin3 68 rfl rfl
theorem wk_X5_copy : Cond.instanceMethod yX5_copy ∈ kALL := kin3 70 rfl rfl
theorem wc_X5_copy : Cond.code yX5_copy cX5_copy 4 none ∈ kALL := kin3 71 rfl rfl
theorem wm_L_73 : Cond.methodLink RL 73 yX5_keep ∈ kALL := kin3 72 rfl rfl
theorem wk_X5_keep : Cond.instanceMethod yX5_keep ∈ kALL := kin3 73 rfl rfl
theorem ws_X5_keep : Cond.selects RX5 yX5_keep yX5_keep ∈ kALL := kin3 74 rfl rfl
theorem wc_X5_keep : Cond.code yX5_keep cX5_keep 1 (some .int) ∈ kALL := kin3 75 rfl rfl
theorem wm_L_77 : Cond.methodLink RL 77 yX5_restore ∈ kALL := kin3 76 rfl rfl
theorem wk_X5_restore : Cond.instanceMethod yX5_restore ∈ kALL := kin3 77 rfl rfl
theorem ws_X5_restore : Cond.selects RX5 yX5_restore yX5_restore ∈ kALL := kin3 78 rfl rfl
theorem wc_X5_restore : Cond.code yX5_restore cX5_restore 1 (some .int) ∈ kALL := kin3 79 rfl rfl
theorem wm_X5_35 : Cond.methodLink RX5 35 yX5_record ∈ kALL := kin3 80 rfl rfl
theorem wk_X5_record : Cond.instanceMethod yX5_record ∈ kALL := kin3 82 rfl rfl
theorem wc_X5_record : Cond.code yX5_record cX5_record 2 none ∈ kALL := kin3 83 rfl rfl
theorem wm_L_17 : Cond.methodLink RL 17 yX5_addMachine ∈ kALL := kin3 84 rfl rfl
theorem wk_X5_addMachine : Cond.instanceMethod yX5_addMachine ∈ kALL := kin3 85 rfl rfl
theorem ws_X5_addMachine : Cond.selects RX5 yX5_addMachine yX5_addMachine ∈ kALL := kin3 86 rfl rfl
theorem wc_X5_addMachine : Cond.code yX5_addMachine cX5_addMachine 4 (some .int) ∈ kALL := kin3 87 rfl rfl
theorem wm_X5_20 : Cond.methodLink RX5 20 yX5_in ∈ kALL := kin3 88 rfl rfl
theorem wt_X5_in : Cond.static yX5_in ∈ kALL := kin3 89 rfl rfl
theorem wc_X5_in : Cond.code yX5_in cX5_in 3 (some .boolean) ∈ kALL := kin3 90 rfl rfl
theorem wm_X5_38 : Cond.methodLink RX5 38 yX5_of ∈ kALL := kin3 91 rfl rfl
theorem wt_X5_of : Cond.static yX5_of ∈ kALL := kin3 92 rfl rfl
theorem wc_X5_of : Cond.code yX5_of cX5_of 2 (some .int) ∈ kALL := kin3 93 rfl rfl
theorem wm_L_22 : Cond.methodLink RL 22 yX5_addMember ∈ kALL := kin3 94 rfl rfl
theorem wk_X5_addMember : Cond.instanceMethod yX5_addMember ∈ kALL := kin3 95 rfl rfl
theorem ws_X5_addMember : Cond.selects RX5 yX5_addMember yX5_addMember ∈ kALL := kin3 96 rfl rfl
theorem wc_X5_addMember : Cond.code yX5_addMember cX5_addMember 2 (some .int) ∈ kALL := kin3 97 rfl rfl
theorem wm_X5_42 : Cond.methodLink RX5 42 yX5_ofMember ∈ kALL := kin3 98 rfl rfl
theorem wt_X5_ofMember : Cond.static yX5_ofMember ∈ kALL := kin3 99 rfl rfl
theorem wc_X5_ofMember : Cond.code yX5_ofMember cX5_ofMember 2 (some .int) ∈ kALL := kin3 100 rfl rfl
theorem wm_L_26 : Cond.methodLink RL 26 yX5_setWind ∈ kALL := kin3 101 rfl rfl
theorem wk_X5_setWind : Cond.instanceMethod yX5_setWind ∈ kALL := kin3 102 rfl rfl
theorem ws_X5_setWind : Cond.selects RX5 yX5_setWind yX5_setWind ∈ kALL := kin3 103 rfl rfl
theorem wc_X5_setWind : Cond.code yX5_setWind cX5_setWind 4 (some .int) ∈ kALL := kin3 104 rfl rfl
theorem wm_X5_45 : Cond.methodLink RX5 45 yX5_isToCome ∈ kALL := kin3 105 rfl rfl
theorem wk_X5_isToCome : Cond.instanceMethod yX5_isToCome ∈ kALL := kin3 107 rfl rfl
theorem wc_X5_isToCome : Cond.code yX5_isToCome cX5_isToCome 2 (some .boolean) ∈ kALL := kin3 108 rfl rfl
theorem wm_L_31 : Cond.methodLink RL 31 yX5_book ∈ kALL := kin3 109 rfl rfl
theorem wk_X5_book : Cond.instanceMethod yX5_book ∈ kALL := kin3 110 rfl rfl
theorem ws_X5_book : Cond.selects RX5 yX5_book yX5_book ∈ kALL := kin3 111 rfl rfl
theorem wc_X5_book : Cond.code yX5_book cX5_book 7 (some .int) ∈ kALL := kin3 112 rfl rfl
theorem wm_X5_56 : Cond.methodLink RX5 56 yX5_isMember ∈ kALL := kin3 113 rfl rfl
theorem wk_X5_isMember : Cond.instanceMethod yX5_isMember ∈ kALL := kin3 115 rfl rfl
theorem wc_X5_isMember : Cond.code yX5_isMember cX5_isMember 2 (some .boolean) ∈ kALL := kin3 116 rfl rfl
theorem wm_X5_59 : Cond.methodLink RX5 59 yX5_isMachine ∈ kALL := kin3 117 rfl rfl
theorem wk_X5_isMachine : Cond.instanceMethod yX5_isMachine ∈ kALL := kin3 119 rfl rfl
theorem wc_X5_isMachine : Cond.code yX5_isMachine cX5_isMachine 2 (some .boolean) ∈ kALL := kin3 120 rfl rfl
theorem wm_X5_62 : Cond.methodLink RX5 62 yX5_isLift ∈ kALL := kin3 121 rfl rfl
theorem wt_X5_isLift : Cond.static yX5_isLift ∈ kALL := kin3 122 rfl rfl
theorem wc_X5_isLift : Cond.code yX5_isLift cX5_isLift 2 (some .boolean) ∈ kALL := kin3 123 rfl rfl
theorem wm_X5_66 : Cond.methodLink RX5 66 yX5_canBear ∈ kALL := kin3 124 rfl rfl
theorem wk_X5_canBear : Cond.instanceMethod yX5_canBear ∈ kALL := kin3 126 rfl rfl
theorem wc_X5_canBear : Cond.code yX5_canBear cX5_canBear 4 (some .boolean) ∈ kALL := kin3 127 rfl rfl
theorem wm_X5_49 : Cond.methodLink RX5 49 yX5_bearsBy ∈ kALL := kin3 128 rfl rfl
theorem wt_X5_bearsBy : Cond.static yX5_bearsBy ∈ kALL := kin3 129 rfl rfl
theorem wc_X5_bearsBy : Cond.code yX5_bearsBy cX5_bearsBy 4 (some .int) ∈ kALL := kin3 130 rfl rfl
theorem wm_X5_69 : Cond.methodLink RX5 69 yX5_bookingAt ∈ kALL := kin3 131 rfl rfl
theorem wk_X5_bookingAt : Cond.instanceMethod yX5_bookingAt ∈ kALL := kin3 133 rfl rfl
theorem wc_X5_bookingAt : Cond.code yX5_bookingAt cX5_bookingAt 4 (some .int) ∈ kALL := kin3 134 rfl rfl
theorem wm_X5_53 : Cond.methodLink RX5 53 yX5_ofBooking ∈ kALL := kin3 135 rfl rfl
theorem wt_X5_ofBooking : Cond.static yX5_ofBooking ∈ kALL := kin3 136 rfl rfl
theorem wc_X5_ofBooking : Cond.code yX5_ofBooking cX5_ofBooking 2 (some .int) ∈ kALL := kin3 137 rfl rfl
theorem wm_X5_72 : Cond.methodLink RX5 72 yX5_give ∈ kALL := kin3 138 rfl rfl
theorem wk_X5_give : Cond.instanceMethod yX5_give ∈ kALL := kin3 140 rfl rfl
theorem wc_X5_give : Cond.code yX5_give cX5_give 4 none ∈ kALL := kin3 141 rfl rfl
theorem wm_L_36 : Cond.methodLink RL 36 yX5_cancel ∈ kALL := kin3 142 rfl rfl
theorem wk_X5_cancel : Cond.instanceMethod yX5_cancel ∈ kALL := kin3 143 rfl rfl
theorem ws_X5_cancel : Cond.selects RX5 yX5_cancel yX5_cancel ∈ kALL := kin3 144 rfl rfl
theorem wc_X5_cancel : Cond.code yX5_cancel cX5_cancel 3 (some .int) ∈ kALL := kin3 145 rfl rfl
theorem wm_X5_76 : Cond.methodLink RX5 76 yX5_isBooking ∈ kALL := kin3 146 rfl rfl
theorem wk_X5_isBooking : Cond.instanceMethod yX5_isBooking ∈ kALL := kin3 148 rfl rfl
theorem wc_X5_isBooking : Cond.code yX5_isBooking cX5_isBooking 2 (some .boolean) ∈ kALL := kin3 149 rfl rfl
theorem wm_X5_79 : Cond.methodLink RX5 79 yX5_isBooked ∈ kALL := kin3 150 rfl rfl
theorem wk_X5_isBooked : Cond.instanceMethod yX5_isBooked ∈ kALL := kin3 152 rfl rfl
theorem wc_X5_isBooked : Cond.code yX5_isBooked cX5_isBooked 2 (some .boolean) ∈ kALL := kin3 153 rfl rfl
theorem wm_X5_82 : Cond.methodLink RX5 82 yX5_pay ∈ kALL := kin3 154 rfl rfl
theorem wk_X5_pay : Cond.instanceMethod yX5_pay ∈ kALL := kin3 156 rfl rfl
theorem wc_X5_pay : Cond.code yX5_pay cX5_pay 3 none ∈ kALL := kin3 157 rfl rfl
theorem wm_L_40 : Cond.methodLink RL 40 yX5_swap ∈ kALL := kin3 158 rfl rfl
theorem wk_X5_swap : Cond.instanceMethod yX5_swap ∈ kALL := kin3 159 rfl rfl
theorem ws_X5_swap : Cond.selects RX5 yX5_swap yX5_swap ∈ kALL := kin3 160 rfl rfl
theorem wc_X5_swap : Cond.code yX5_swap cX5_swap 5 (some .int) ∈ kALL := kin3 161 rfl rfl
theorem wm_X5_85 : Cond.methodLink RX5 85 yX5_canGet ∈ kALL := kin3 162 rfl rfl
theorem wk_X5_canGet : Cond.instanceMethod yX5_canGet ∈ kALL := kin3 164 rfl rfl
theorem wc_X5_canGet : Cond.code yX5_canGet cX5_canGet 3 (some .boolean) ∈ kALL := kin3 165 rfl rfl
theorem wm_L_44 : Cond.methodLink RL 44 yX5_order ∈ kALL := kin3 166 rfl rfl
theorem wk_X5_order : Cond.instanceMethod yX5_order ∈ kALL := kin3 167 rfl rfl
theorem ws_X5_order : Cond.selects RX5 yX5_order yX5_order ∈ kALL := kin3 168 rfl rfl
theorem wc_X5_order : Cond.code yX5_order cX5_order 7 (some .int) ∈ kALL := kin3 169 rfl rfl
theorem wm_X5_88 : Cond.methodLink RX5 88 yX5_ofMove ∈ kALL := kin3 170 rfl rfl
theorem wt_X5_ofMove : Cond.static yX5_ofMove ∈ kALL := kin3 171 rfl rfl
theorem wc_X5_ofMove : Cond.code yX5_ofMove cX5_ofMove 2 (some .int) ∈ kALL := kin3 172 rfl rfl
theorem wm_L_48 : Cond.methodLink RL 48 yX5_takeBack ∈ kALL := kin3 173 rfl rfl
theorem wk_X5_takeBack : Cond.instanceMethod yX5_takeBack ∈ kALL := kin3 174 rfl rfl
theorem ws_X5_takeBack : Cond.selects RX5 yX5_takeBack yX5_takeBack ∈ kALL := kin3 175 rfl rfl
theorem wc_X5_takeBack : Cond.code yX5_takeBack cX5_takeBack 2 (some .int) ∈ kALL := kin3 176 rfl rfl
theorem wm_X5_91 : Cond.methodLink RX5 91 yX5_isMove ∈ kALL := kin3 177 rfl rfl
theorem wk_X5_isMove : Cond.instanceMethod yX5_isMove ∈ kALL := kin3 179 rfl rfl
theorem wc_X5_isMove : Cond.code yX5_isMove cX5_isMove 2 (some .boolean) ∈ kALL := kin3 180 rfl rfl
theorem wm_X5_94 : Cond.methodLink RX5 94 yX5_close ∈ kALL := kin3 181 rfl rfl
theorem wk_X5_close : Cond.instanceMethod yX5_close ∈ kALL := kin3 183 rfl rfl
theorem wc_X5_close : Cond.code yX5_close cX5_close 3 none ∈ kALL := kin3 184 rfl rfl
theorem wm_L_52 : Cond.methodLink RL 52 yX5_pass ∈ kALL := kin3 185 rfl rfl
theorem wk_X5_pass : Cond.instanceMethod yX5_pass ∈ kALL := kin3 186 rfl rfl
theorem ws_X5_pass : Cond.selects RX5 yX5_pass yX5_pass ∈ kALL := kin3 187 rfl rfl
theorem wc_X5_pass : Cond.code yX5_pass cX5_pass 4 (some .int) ∈ kALL := kin3 188 rfl rfl
theorem wm_X5_116 : Cond.methodLink RX5 116 yX5_manyIn ∈ kALL := kin3 189 rfl rfl
theorem wk_X5_manyIn : Cond.instanceMethod yX5_manyIn ∈ kALL := kin3 191 rfl rfl
theorem wc_X5_manyIn : Cond.code yX5_manyIn cX5_manyIn 4 (some .int) ∈ kALL := kin3 192 rfl rfl
theorem wm_X5_120 : Cond.methodLink RX5 120 yX5_passOne ∈ kALL := kin3 193 rfl rfl
theorem wk_X5_passOne : Cond.instanceMethod yX5_passOne ∈ kALL := kin3 195 rfl rfl
theorem wc_X5_passOne : Cond.code yX5_passOne cX5_passOne 2 none ∈ kALL := kin3 196 rfl rfl
theorem wm_X5_110 : Cond.methodLink RX5 110 yX5_moveAll ∈ kALL := kin3 197 rfl rfl
theorem wk_X5_moveAll : Cond.instanceMethod yX5_moveAll ∈ kALL := kin3 199 rfl rfl
theorem wc_X5_moveAll : Cond.code yX5_moveAll cX5_moveAll 4 none ∈ kALL := kin3 200 rfl rfl
theorem wm_X5_98 : Cond.methodLink RX5 98 yX5_carry ∈ kALL := kin3 201 rfl rfl
theorem wk_X5_carry : Cond.instanceMethod yX5_carry ∈ kALL := kin3 203 rfl rfl
theorem wc_X5_carry : Cond.code yX5_carry cX5_carry 6 (some .boolean) ∈ kALL := kin3 204 rfl rfl
theorem wm_X5_113 : Cond.methodLink RX5 113 yX5_lift ∈ kALL := kin3 205 rfl rfl
theorem wk_X5_lift : Cond.instanceMethod yX5_lift ∈ kALL := kin3 207 rfl rfl
theorem wc_X5_lift : Cond.code yX5_lift cX5_lift 7 none ∈ kALL := kin3 208 rfl rfl
theorem wm_X5_104 : Cond.methodLink RX5 104 yX5_limitOf ∈ kALL := kin3 209 rfl rfl
theorem wt_X5_limitOf : Cond.static yX5_limitOf ∈ kALL := kin3 210 rfl rfl
theorem wc_X5_limitOf : Cond.code yX5_limitOf cX5_limitOf 3 (some .int) ∈ kALL := kin3 211 rfl rfl
theorem wm_X5_107 : Cond.methodLink RX5 107 yX5_standBy ∈ kALL := kin3 212 rfl rfl
theorem wk_X5_standBy : Cond.instanceMethod yX5_standBy ∈ kALL := kin3 214 rfl rfl
theorem wc_X5_standBy : Cond.code yX5_standBy cX5_standBy 6 none ∈ kALL := kin3 215 rfl rfl
theorem wm_L_57 : Cond.methodLink RL 57 yX5_type ∈ kALL := kin3 216 rfl rfl
theorem wk_X5_type : Cond.instanceMethod yX5_type ∈ kALL := kin3 217 rfl rfl
theorem ws_X5_type : Cond.selects RX5 yX5_type yX5_type ∈ kALL := kin3 218 rfl rfl
theorem wc_X5_type : Cond.code yX5_type cX5_type 2 (some .int) ∈ kALL := kin3 219 rfl rfl
theorem wm_L_61 : Cond.methodLink RL 61 yX5_clearText ∈ kALL := kin3 220 rfl rfl
theorem wk_X5_clearText : Cond.instanceMethod yX5_clearText ∈ kALL := kin3 221 rfl rfl
theorem ws_X5_clearText : Cond.selects RX5 yX5_clearText yX5_clearText ∈ kALL := kin3 222 rfl rfl
theorem wc_X5_clearText : Cond.code yX5_clearText cX5_clearText 2 (some .int) ∈ kALL := kin3 223 rfl rfl
theorem wm_L_65 : Cond.methodLink RL 65 yX5_readWinds ∈ kALL := kin3 224 rfl rfl
theorem wk_X5_readWinds : Cond.instanceMethod yX5_readWinds ∈ kALL := kin3 225 rfl rfl
theorem ws_X5_readWinds : Cond.selects RX5 yX5_readWinds yX5_readWinds ∈ kALL := kin3 226 rfl rfl
theorem wc_X5_readWinds : Cond.code yX5_readWinds cX5_readWinds 2 (some .int) ∈ kALL := kin3 227 rfl rfl
theorem wm_X5_146 : Cond.methodLink RX5 146 yX5_faultOf ∈ kALL := kin3 228 rfl rfl
theorem wk_X5_faultOf : Cond.instanceMethod yX5_faultOf ∈ kALL := kin3 230 rfl rfl
theorem wc_X5_faultOf : Cond.code yX5_faultOf cX5_faultOf 2 (some .int) ∈ kALL := kin3 231 rfl rfl
theorem wm_X5_142 : Cond.methodLink RX5 142 yX5_readsWind ∈ kALL := kin3 232 rfl rfl
theorem wk_X5_readsWind : Cond.instanceMethod yX5_readsWind ∈ kALL := kin3 234 rfl rfl
theorem wc_X5_readsWind : Cond.code yX5_readsWind cX5_readsWind 1 (some .boolean) ∈ kALL := kin3 235 rfl rfl
theorem wm_X5_133 : Cond.methodLink RX5 133 yX5_number ∈ kALL := kin3 236 rfl rfl
theorem wk_X5_number : Cond.instanceMethod yX5_number ∈ kALL := kin3 238 rfl rfl
theorem wc_X5_number : Cond.code yX5_number cX5_number 4 (some .int) ∈ kALL := kin3 239 rfl rfl
theorem wm_X5_129 : Cond.methodLink RX5 129 yX5_code ∈ kALL := kin4 0 rfl rfl
theorem wk_X5_code : Cond.instanceMethod yX5_code ∈ kALL := kin4 2 rfl rfl
theorem wc_X5_code : Cond.code yX5_code cX5_code 1 (some .int) ∈ kALL := kin4 3 rfl rfl
theorem wm_X5_149 : Cond.methodLink RX5 149 yX5_goOn ∈ kALL := kin4 4 rfl rfl
theorem wk_X5_goOn : Cond.instanceMethod yX5_goOn ∈ kALL := kin4 6 rfl rfl
theorem wc_X5_goOn : Cond.code yX5_goOn cX5_goOn 3 (some .int) ∈ kALL := kin4 7 rfl rfl
theorem wm_L_81 : Cond.methodLink RL 81 yX5_bears ∈ kALL := kin4 8 rfl rfl
theorem wk_X5_bears : Cond.instanceMethod yX5_bears ∈ kALL := kin4 9 rfl rfl
theorem ws_X5_bears : Cond.selects RX5 yX5_bears yX5_bears ∈ kALL := kin4 10 rfl rfl
theorem wc_X5_bears : Cond.code yX5_bears cX5_bears 3 (some .int) ∈ kALL := kin4 11 rfl rfl
theorem wm_L_86 : Cond.methodLink RL 86 yX5_willBear ∈ kALL := kin4 12 rfl rfl
theorem wk_X5_willBear : Cond.instanceMethod yX5_willBear ∈ kALL := kin4 13 rfl rfl
theorem ws_X5_willBear : Cond.selects RX5 yX5_willBear yX5_willBear ∈ kALL := kin4 14 rfl rfl
theorem wc_X5_willBear : Cond.code yX5_willBear cX5_willBear 6 (some .int) ∈ kALL := kin4 15 rfl rfl
theorem wm_L_90 : Cond.methodLink RL 90 yX5_windLimit ∈ kALL := kin4 16 rfl rfl
theorem wk_X5_windLimit : Cond.instanceMethod yX5_windLimit ∈ kALL := kin4 17 rfl rfl
theorem ws_X5_windLimit : Cond.selects RX5 yX5_windLimit yX5_windLimit ∈ kALL := kin4 18 rfl rfl
theorem wc_X5_windLimit : Cond.code yX5_windLimit cX5_windLimit 3 (some .int) ∈ kALL := kin4 19 rfl rfl
theorem wm_L_94 : Cond.methodLink RL 94 yX5_machine ∈ kALL := kin4 20 rfl rfl
theorem wk_X5_machine : Cond.instanceMethod yX5_machine ∈ kALL := kin4 21 rfl rfl
theorem ws_X5_machine : Cond.selects RX5 yX5_machine yX5_machine ∈ kALL := kin4 22 rfl rfl
theorem wc_X5_machine : Cond.code yX5_machine cX5_machine 3 (some .int) ∈ kALL := kin4 23 rfl rfl
theorem wm_X5_153 : Cond.methodLink RX5 153 yX5_bookingsOf ∈ kALL := kin4 24 rfl rfl
theorem wk_X5_bookingsOf : Cond.instanceMethod yX5_bookingsOf ∈ kALL := kin4 26 rfl rfl
theorem wc_X5_bookingsOf : Cond.code yX5_bookingsOf cX5_bookingsOf 6 (some .int) ∈ kALL := kin4 27 rfl rfl
theorem wm_X5_156 : Cond.methodLink RX5 156 yX5_movesOf ∈ kALL := kin4 28 rfl rfl
theorem wk_X5_movesOf : Cond.instanceMethod yX5_movesOf ∈ kALL := kin4 30 rfl rfl
theorem wc_X5_movesOf : Cond.code yX5_movesOf cX5_movesOf 5 (some .int) ∈ kALL := kin4 31 rfl rfl
theorem wm_L_98 : Cond.methodLink RL 98 yX5_member ∈ kALL := kin4 32 rfl rfl
theorem wk_X5_member : Cond.instanceMethod yX5_member ∈ kALL := kin4 33 rfl rfl
theorem ws_X5_member : Cond.selects RX5 yX5_member yX5_member ∈ kALL := kin4 34 rfl rfl
theorem wc_X5_member : Cond.code yX5_member cX5_member 3 (some .int) ∈ kALL := kin4 35 rfl rfl
theorem wm_L_102 : Cond.methodLink RL 102 yX5_booking ∈ kALL := kin4 36 rfl rfl
theorem wk_X5_booking : Cond.instanceMethod yX5_booking ∈ kALL := kin4 37 rfl rfl
theorem ws_X5_booking : Cond.selects RX5 yX5_booking yX5_booking ∈ kALL := kin4 38 rfl rfl
theorem wc_X5_booking : Cond.code yX5_booking cX5_booking 3 (some .int) ∈ kALL := kin4 39 rfl rfl
theorem wm_L_106 : Cond.methodLink RL 106 yX5_move ∈ kALL := kin4 40 rfl rfl
theorem wk_X5_move : Cond.instanceMethod yX5_move ∈ kALL := kin4 41 rfl rfl
theorem ws_X5_move : Cond.selects RX5 yX5_move yX5_move ∈ kALL := kin4 42 rfl rfl
theorem wc_X5_move : Cond.code yX5_move cX5_move 3 (some .int) ∈ kALL := kin4 43 rfl rfl
theorem wm_L_110 : Cond.methodLink RL 110 yX5_bookedAt ∈ kALL := kin4 44 rfl rfl
theorem wk_X5_bookedAt : Cond.instanceMethod yX5_bookedAt ∈ kALL := kin4 45 rfl rfl
theorem ws_X5_bookedAt : Cond.selects RX5 yX5_bookedAt yX5_bookedAt ∈ kALL := kin4 46 rfl rfl
theorem wc_X5_bookedAt : Cond.code yX5_bookedAt cX5_bookedAt 3 (some .int) ∈ kALL := kin4 47 rfl rfl
theorem wm_L_114 : Cond.methodLink RL 114 yX5_machineFor ∈ kALL := kin4 48 rfl rfl
theorem wk_X5_machineFor : Cond.instanceMethod yX5_machineFor ∈ kALL := kin4 49 rfl rfl
theorem ws_X5_machineFor : Cond.selects RX5 yX5_machineFor yX5_machineFor ∈ kALL := kin4 50 rfl rfl
theorem wc_X5_machineFor : Cond.code yX5_machineFor cX5_machineFor 5 (some .int) ∈ kALL := kin4 51 rfl rfl
theorem wm_L_118 : Cond.methodLink RL 118 yX5_fate ∈ kALL := kin4 52 rfl rfl
theorem wk_X5_fate : Cond.instanceMethod yX5_fate ∈ kALL := kin4 53 rfl rfl
theorem ws_X5_fate : Cond.selects RX5 yX5_fate yX5_fate ∈ kALL := kin4 54 rfl rfl
theorem wc_X5_fate : Cond.code yX5_fate cX5_fate 3 (some .int) ∈ kALL := kin4 55 rfl rfl
theorem wm_L_122 : Cond.methodLink RL 122 yX5_wind ∈ kALL := kin4 56 rfl rfl
theorem wk_X5_wind : Cond.instanceMethod yX5_wind ∈ kALL := kin4 57 rfl rfl
theorem ws_X5_wind : Cond.selects RX5 yX5_wind yX5_wind ∈ kALL := kin4 58 rfl rfl
theorem wc_X5_wind : Cond.code yX5_wind cX5_wind 2 (some .int) ∈ kALL := kin4 59 rfl rfl
theorem wm_L_126 : Cond.methodLink RL 126 yX5_count ∈ kALL := kin4 60 rfl rfl
theorem wk_X5_count : Cond.instanceMethod yX5_count ∈ kALL := kin4 61 rfl rfl
theorem ws_X5_count : Cond.selects RX5 yX5_count yX5_count ∈ kALL := kin4 62 rfl rfl
theorem wc_X5_count : Cond.code yX5_count cX5_count 2 (some .int) ∈ kALL := kin4 63 rfl rfl
theorem wm_X5_159 : Cond.methodLink RX5 159 yX5_allPaid ∈ kALL := kin4 64 rfl rfl
theorem wk_X5_allPaid : Cond.instanceMethod yX5_allPaid ∈ kALL := kin4 66 rfl rfl
theorem wc_X5_allPaid : Cond.code yX5_allPaid cX5_allPaid 3 (some .int) ∈ kALL := kin4 67 rfl rfl
theorem wm_X5_162 : Cond.methodLink RX5 162 yX5_allBlocks ∈ kALL := kin4 68 rfl rfl
theorem wk_X5_allBlocks : Cond.instanceMethod yX5_allBlocks ∈ kALL := kin4 70 rfl rfl
theorem wc_X5_allBlocks : Cond.code yX5_allBlocks cX5_allBlocks 3 (some .int) ∈ kALL := kin4 71 rfl rfl
theorem ws_X0_stateAt : Cond.selects RX0 yX0_stateAt yX0_stateAt ∈ kALL := kins 0 rfl
theorem ws_X1_closeMove : Cond.selects RX1 yX1_closeMove yX1_closeMove ∈ kALL := kins 1 rfl
theorem ws_X1_standBy : Cond.selects RX1 yX1_standBy yX1_standBy ∈ kALL := kins 2 rfl
theorem ws_X1_carryOver : Cond.selects RX1 yX1_carryOver yX1_carryOver ∈ kALL := kins 3 rfl
theorem ws_X1_lift : Cond.selects RX1 yX1_lift yX1_lift ∈ kALL := kins 4 rfl
theorem ws_X3_readNumber : Cond.selects RX3 yX3_readNumber yX3_readNumber ∈ kALL := kins 5 rfl
theorem ws_X3_sign : Cond.selects RX3 yX3_sign yX3_sign ∈ kALL := kins 6 rfl
theorem ws_X3_readSign : Cond.selects RX3 yX3_readSign yX3_readSign ∈ kALL := kins 7 rfl
theorem ws_X5_copy : Cond.selects RX5 yX5_copy yX5_copy ∈ kALL := kins 8 rfl
theorem ws_X5_record : Cond.selects RX5 yX5_record yX5_record ∈ kALL := kins 9 rfl
theorem ws_X5_isToCome : Cond.selects RX5 yX5_isToCome yX5_isToCome ∈ kALL := kins 10 rfl
theorem ws_X5_isMember : Cond.selects RX5 yX5_isMember yX5_isMember ∈ kALL := kins 11 rfl
theorem ws_X5_isMachine : Cond.selects RX5 yX5_isMachine yX5_isMachine ∈ kALL := kins 12 rfl
theorem ws_X5_canBear : Cond.selects RX5 yX5_canBear yX5_canBear ∈ kALL := kins 13 rfl
theorem ws_X5_bookingAt : Cond.selects RX5 yX5_bookingAt yX5_bookingAt ∈ kALL := kins 14 rfl
theorem ws_X5_give : Cond.selects RX5 yX5_give yX5_give ∈ kALL := kins 15 rfl
theorem ws_X5_isBooking : Cond.selects RX5 yX5_isBooking yX5_isBooking ∈ kALL := kins 16 rfl
theorem ws_X5_isBooked : Cond.selects RX5 yX5_isBooked yX5_isBooked ∈ kALL := kins 17 rfl
theorem ws_X5_pay : Cond.selects RX5 yX5_pay yX5_pay ∈ kALL := kins 18 rfl
theorem ws_X5_canGet : Cond.selects RX5 yX5_canGet yX5_canGet ∈ kALL := kins 19 rfl
theorem ws_X5_isMove : Cond.selects RX5 yX5_isMove yX5_isMove ∈ kALL := kins 20 rfl
theorem ws_X5_close : Cond.selects RX5 yX5_close yX5_close ∈ kALL := kins 21 rfl
theorem ws_X5_manyIn : Cond.selects RX5 yX5_manyIn yX5_manyIn ∈ kALL := kins 22 rfl
theorem ws_X5_passOne : Cond.selects RX5 yX5_passOne yX5_passOne ∈ kALL := kins 23 rfl
theorem ws_X5_moveAll : Cond.selects RX5 yX5_moveAll yX5_moveAll ∈ kALL := kins 24 rfl
theorem ws_X5_carry : Cond.selects RX5 yX5_carry yX5_carry ∈ kALL := kins 25 rfl
theorem ws_X5_lift : Cond.selects RX5 yX5_lift yX5_lift ∈ kALL := kins 26 rfl
theorem ws_X5_standBy : Cond.selects RX5 yX5_standBy yX5_standBy ∈ kALL := kins 27 rfl
theorem ws_X5_faultOf : Cond.selects RX5 yX5_faultOf yX5_faultOf ∈ kALL := kins 28 rfl
theorem ws_X5_readsWind : Cond.selects RX5 yX5_readsWind yX5_readsWind ∈ kALL := kins 29 rfl
theorem ws_X5_number : Cond.selects RX5 yX5_number yX5_number ∈ kALL := kins 30 rfl
theorem ws_X5_code : Cond.selects RX5 yX5_code yX5_code ∈ kALL := kins 31 rfl
theorem ws_X5_goOn : Cond.selects RX5 yX5_goOn yX5_goOn ∈ kALL := kins 32 rfl
theorem ws_X5_bookingsOf : Cond.selects RX5 yX5_bookingsOf yX5_bookingsOf ∈ kALL := kins 33 rfl
theorem ws_X5_movesOf : Cond.selects RX5 yX5_movesOf yX5_movesOf ∈ kALL := kins 34 rfl
theorem ws_X5_allPaid : Cond.selects RX5 yX5_allPaid yX5_allPaid ∈ kALL := kins 35 rfl
theorem ws_X5_allBlocks : Cond.selects RX5 yX5_allBlocks yX5_allBlocks ∈ kALL := kins 36 rfl
theorem wz_X2 : ∀ w ∈ wsX20, w ∈ kALL := fun w h => by
  have e : [36, 38, 40, 42].filterMap (fun i => tables_1_1[i]?) = wsX20 := rfl
  have g : wsX20.all goodWord = true := rfl
  rw [← e] at h
  obtain ⟨i, -, hi⟩ := List.mem_filterMap.mp h
  rw [e] at h
  exact kin1 i hi (List.all_eq_true.mp g w h)
theorem wz_X1 : ∀ w ∈ wsX10, w ∈ kALL := fun w h => by
  have e : [63, 65, 67, 69, 71, 73, 75, 77, 79].filterMap (fun i => tables_1_1[i]?) = wsX10 := rfl
  have g : wsX10.all goodWord = true := rfl
  rw [← e] at h
  obtain ⟨i, -, hi⟩ := List.mem_filterMap.mp h
  rw [e] at h
  exact kin1 i hi (List.all_eq_true.mp g w h)
theorem wz_X0 : ∀ w ∈ wsX00, w ∈ kALL := fun w h => by
  have e : [94, 96, 98].filterMap (fun i => tables_1_1[i]?) = wsX00 := rfl
  have g : wsX00.all goodWord = true := rfl
  rw [← e] at h
  obtain ⟨i, -, hi⟩ := List.mem_filterMap.mp h
  rw [e] at h
  exact kin1 i hi (List.all_eq_true.mp g w h)
theorem wz_X3 : ∀ w ∈ wsX30, w ∈ kALL := fun w h => by
  have e : [114, 116, 118, 120].filterMap (fun i => tables_1_1[i]?) = wsX30 := rfl
  have g : wsX30.all goodWord = true := rfl
  rw [← e] at h
  obtain ⟨i, -, hi⟩ := List.mem_filterMap.mp h
  rw [e] at h
  exact kin1 i hi (List.all_eq_true.mp g w h)
theorem wz_X4 : ∀ w ∈ wsX40, w ∈ kALL := fun w h => by
  have e : [130, 132, 134, 136, 138, 140].filterMap (fun i => tables_1_1[i]?) = wsX40 := rfl
  have g : wsX40.all goodWord = true := rfl
  rw [← e] at h
  obtain ⟨i, -, hi⟩ := List.mem_filterMap.mp h
  rw [e] at h
  exact kin1 i hi (List.all_eq_true.mp g w h)
theorem wz_X5 : ∀ w ∈ wsX50, w ∈ kALL := fun w h => by
  have e : [43, 45, 47, 49, 51, 53, 55, 57, 59, 61].filterMap (fun i => tables_1_3[i]?) = wsX50 := rfl
  have g : wsX50.all goodWord = true := rfl
  rw [← e] at h
  obtain ⟨i, -, hi⟩ := List.mem_filterMap.mp h
  rw [e] at h
  exact kin3 i hi (List.all_eq_true.mp g w h)
end
section
theorem dX0_init_0 : decode cX0_init 0 = .ok (.aload_n 0, 1) := by decide +kernel
theorem dX0_init_1 : decode cX0_init 1 = .ok (.invokespecial 3, 3) := by decide +kernel
theorem dX0_init_4 : decode cX0_init 4 = .ok (.aload_n 0, 1) := by decide +kernel
theorem dX0_init_5 : decode cX0_init 5 = .ok (.iconst 4, 1) := by decide +kernel
theorem dX0_init_6 : decode cX0_init 6 = .ok (.anewarray 9, 3) := by decide +kernel
theorem dX0_init_9 : decode cX0_init 9 = .ok (.putfield 11, 3) := by decide +kernel
theorem dX0_init_12 : decode cX0_init 12 = .ok (.iconst 0, 1) := by decide +kernel
theorem dX0_init_13 : decode cX0_init 13 = .ok (.istore_n 1, 1) := by decide +kernel
theorem dX0_init_14 : decode cX0_init 14 = .ok (.iload_n 1, 1) := by decide +kernel
theorem dX0_init_15 : decode cX0_init 15 = .ok (.iconst 4, 1) := by decide +kernel
theorem dX0_init_16 : decode cX0_init 16 = .ok (.if_icmp .ge 22, 3) := by decide +kernel
theorem dX0_init_19 : decode cX0_init 19 = .ok (.aload_n 0, 1) := by decide +kernel
theorem dX0_init_20 : decode cX0_init 20 = .ok (.getfield 11, 3) := by decide +kernel
theorem dX0_init_23 : decode cX0_init 23 = .ok (.iload_n 1, 1) := by decide +kernel
theorem dX0_init_24 : decode cX0_init 24 = .ok (.new 9, 3) := by decide +kernel
theorem dX0_init_27 : decode cX0_init 27 = .ok (.dup, 1) := by decide +kernel
theorem dX0_init_28 : decode cX0_init 28 = .ok (.invokespecial 17, 3) := by decide +kernel
theorem dX0_init_31 : decode cX0_init 31 = .ok (.aastore, 1) := by decide +kernel
theorem dX0_init_32 : decode cX0_init 32 = .ok (.iinc 1 1, 3) := by decide +kernel
theorem dX0_init_35 : decode cX0_init 35 = .ok (.goto (-21), 3) := by decide +kernel
theorem dX0_init_38 : decode cX0_init 38 = .ok (.return_, 1) := by decide +kernel
theorem dX0_size_0 : decode cX0_size 0 = .ok (.aload_n 0, 1) := by decide +kernel
theorem dX0_size_1 : decode cX0_size 1 = .ok (.getfield 18, 3) := by decide +kernel
theorem dX0_size_4 : decode cX0_size 4 = .ok (.ireturn, 1) := by decide +kernel
theorem dX0_stateAt_0 : decode cX0_stateAt 0 = .ok (.iload_n 1, 1) := by decide +kernel
theorem dX0_stateAt_1 : decode cX0_stateAt 1 = .ok (.ifCond .lt 21, 3) := by decide +kernel
theorem dX0_stateAt_4 : decode cX0_stateAt 4 = .ok (.iload_n 1, 1) := by decide +kernel
theorem dX0_stateAt_5 : decode cX0_stateAt 5 = .ok (.aload_n 0, 1) := by decide +kernel
theorem dX0_stateAt_6 : decode cX0_stateAt 6 = .ok (.getfield 11, 3) := by decide +kernel
theorem dX0_stateAt_9 : decode cX0_stateAt 9 = .ok (.arraylength, 1) := by decide +kernel
theorem dX0_stateAt_10 : decode cX0_stateAt 10 = .ok (.if_icmp .ge 12, 3) := by decide +kernel
theorem dX0_stateAt_13 : decode cX0_stateAt 13 = .ok (.aload_n 0, 1) := by decide +kernel
theorem dX0_stateAt_14 : decode cX0_stateAt 14 = .ok (.getfield 11, 3) := by decide +kernel
theorem dX0_stateAt_17 : decode cX0_stateAt 17 = .ok (.iload_n 1, 1) := by decide +kernel
theorem dX0_stateAt_18 : decode cX0_stateAt 18 = .ok (.aaload, 1) := by decide +kernel
theorem dX0_stateAt_19 : decode cX0_stateAt 19 = .ok (.goto 4, 3) := by decide +kernel
theorem dX0_stateAt_22 : decode cX0_stateAt 22 = .ok (.aconst_null, 1) := by decide +kernel
theorem dX0_stateAt_23 : decode cX0_stateAt 23 = .ok (.areturn, 1) := by decide +kernel
theorem dX0_push_0 : decode cX0_push 0 = .ok (.aload_n 0, 1) := by decide +kernel
theorem dX0_push_1 : decode cX0_push 1 = .ok (.aload_n 0, 1) := by decide +kernel
theorem dX0_push_2 : decode cX0_push 2 = .ok (.getfield 22, 3) := by decide +kernel
theorem dX0_push_5 : decode cX0_push 5 = .ok (.invokevirtual 25, 3) := by decide +kernel
theorem dX0_push_8 : decode cX0_push 8 = .ok (.astore_n 2, 1) := by decide +kernel
theorem dX0_push_9 : decode cX0_push 9 = .ok (.aload_n 2, 1) := by decide +kernel
theorem dX0_push_10 : decode cX0_push 10 = .ok (.ifnonnull 4, 3) := by decide +kernel
theorem dX0_push_13 : decode cX0_push 13 = .ok (.return_, 1) := by decide +kernel
theorem dX0_push_14 : decode cX0_push 14 = .ok (.aload_n 2, 1) := by decide +kernel
theorem dX0_push_15 : decode cX0_push 15 = .ok (.aload_n 1, 1) := by decide +kernel
theorem dX0_push_16 : decode cX0_push 16 = .ok (.invokevirtual 29, 3) := by decide +kernel
theorem dX0_push_19 : decode cX0_push 19 = .ok (.aload_n 0, 1) := by decide +kernel
theorem dX0_push_20 : decode cX0_push 20 = .ok (.aload_n 0, 1) := by decide +kernel
theorem dX0_push_21 : decode cX0_push 21 = .ok (.getfield 22, 3) := by decide +kernel
theorem dX0_push_24 : decode cX0_push 24 = .ok (.iconst 1, 1) := by decide +kernel
theorem dX0_push_25 : decode cX0_push 25 = .ok (.iadd, 1) := by decide +kernel
theorem dX0_push_26 : decode cX0_push 26 = .ok (.iconst 4, 1) := by decide +kernel
theorem dX0_push_27 : decode cX0_push 27 = .ok (.irem, 1) := by decide +kernel
theorem dX0_push_28 : decode cX0_push 28 = .ok (.putfield 22, 3) := by decide +kernel
theorem dX0_push_31 : decode cX0_push 31 = .ok (.aload_n 0, 1) := by decide +kernel
theorem dX0_push_32 : decode cX0_push 32 = .ok (.aload_n 0, 1) := by decide +kernel
theorem dX0_push_33 : decode cX0_push 33 = .ok (.getfield 18, 3) := by decide +kernel
theorem dX0_push_36 : decode cX0_push 36 = .ok (.iconst 1, 1) := by decide +kernel
theorem dX0_push_37 : decode cX0_push 37 = .ok (.iadd, 1) := by decide +kernel
theorem dX0_push_38 : decode cX0_push 38 = .ok (.iconst 4, 1) := by decide +kernel
theorem dX0_push_39 : decode cX0_push 39 = .ok (.invokestatic 33, 3) := by decide +kernel
theorem dX0_push_42 : decode cX0_push 42 = .ok (.putfield 18, 3) := by decide +kernel
theorem dX0_push_45 : decode cX0_push 45 = .ok (.return_, 1) := by decide +kernel
theorem dX0_popInto_0 : decode cX0_popInto 0 = .ok (.aload_n 0, 1) := by decide +kernel
theorem dX0_popInto_1 : decode cX0_popInto 1 = .ok (.getfield 22, 3) := by decide +kernel
theorem dX0_popInto_4 : decode cX0_popInto 4 = .ok (.iconst 4, 1) := by decide +kernel
theorem dX0_popInto_5 : decode cX0_popInto 5 = .ok (.iadd, 1) := by decide +kernel
theorem dX0_popInto_6 : decode cX0_popInto 6 = .ok (.iconst 1, 1) := by decide +kernel
theorem dX0_popInto_7 : decode cX0_popInto 7 = .ok (.isub, 1) := by decide +kernel
theorem dX0_popInto_8 : decode cX0_popInto 8 = .ok (.iconst 4, 1) := by decide +kernel
theorem dX0_popInto_9 : decode cX0_popInto 9 = .ok (.irem, 1) := by decide +kernel
theorem dX0_popInto_10 : decode cX0_popInto 10 = .ok (.istore_n 2, 1) := by decide +kernel
theorem dX0_popInto_11 : decode cX0_popInto 11 = .ok (.aload_n 0, 1) := by decide +kernel
theorem dX0_popInto_12 : decode cX0_popInto 12 = .ok (.iload_n 2, 1) := by decide +kernel
theorem dX0_popInto_13 : decode cX0_popInto 13 = .ok (.invokevirtual 25, 3) := by decide +kernel
theorem dX0_popInto_16 : decode cX0_popInto 16 = .ok (.astore_n 3, 1) := by decide +kernel
theorem dX0_popInto_17 : decode cX0_popInto 17 = .ok (.aload_n 0, 1) := by decide +kernel
theorem dX0_popInto_18 : decode cX0_popInto 18 = .ok (.getfield 18, 3) := by decide +kernel
theorem dX0_popInto_21 : decode cX0_popInto 21 = .ok (.ifCond .eq 7, 3) := by decide +kernel
theorem dX0_popInto_24 : decode cX0_popInto 24 = .ok (.aload_n 3, 1) := by decide +kernel
theorem dX0_popInto_25 : decode cX0_popInto 25 = .ok (.ifnonnull 4, 3) := by decide +kernel
theorem dX0_popInto_28 : decode cX0_popInto 28 = .ok (.return_, 1) := by decide +kernel
theorem dX0_popInto_29 : decode cX0_popInto 29 = .ok (.aload_n 1, 1) := by decide +kernel
theorem dX0_popInto_30 : decode cX0_popInto 30 = .ok (.aload_n 3, 1) := by decide +kernel
theorem dX0_popInto_31 : decode cX0_popInto 31 = .ok (.invokevirtual 29, 3) := by decide +kernel
theorem dX0_popInto_34 : decode cX0_popInto 34 = .ok (.aload_n 0, 1) := by decide +kernel
theorem dX0_popInto_35 : decode cX0_popInto 35 = .ok (.iload_n 2, 1) := by decide +kernel
theorem dX0_popInto_36 : decode cX0_popInto 36 = .ok (.putfield 22, 3) := by decide +kernel
theorem dX0_popInto_39 : decode cX0_popInto 39 = .ok (.aload_n 0, 1) := by decide +kernel
theorem dX0_popInto_40 : decode cX0_popInto 40 = .ok (.dup, 1) := by decide +kernel
theorem dX0_popInto_41 : decode cX0_popInto 41 = .ok (.getfield 18, 3) := by decide +kernel
theorem dX0_popInto_44 : decode cX0_popInto 44 = .ok (.iconst 1, 1) := by decide +kernel
theorem dX0_popInto_45 : decode cX0_popInto 45 = .ok (.isub, 1) := by decide +kernel
theorem dX0_popInto_46 : decode cX0_popInto 46 = .ok (.putfield 18, 3) := by decide +kernel
theorem dX0_popInto_49 : decode cX0_popInto 49 = .ok (.return_, 1) := by decide +kernel
theorem dX1_init_0 : decode cX1_init 0 = .ok (.aload_n 0, 1) := by decide +kernel
theorem dX1_init_1 : decode cX1_init 1 = .ok (.invokespecial 3, 3) := by decide +kernel
theorem dX1_init_4 : decode cX1_init 4 = .ok (.aload_n 0, 1) := by decide +kernel
theorem dX1_init_5 : decode cX1_init 5 = .ok (.new 9, 3) := by decide +kernel
theorem dX1_init_8 : decode cX1_init 8 = .ok (.dup, 1) := by decide +kernel
theorem dX1_init_9 : decode cX1_init 9 = .ok (.iconst 5, 1) := by decide +kernel
theorem dX1_init_10 : decode cX1_init 10 = .ok (.iconst 3, 1) := by decide +kernel
theorem dX1_init_11 : decode cX1_init 11 = .ok (.invokespecial 11, 3) := by decide +kernel
theorem dX1_init_14 : decode cX1_init 14 = .ok (.putfield 14, 3) := by decide +kernel
theorem dX1_init_17 : decode cX1_init 17 = .ok (.aload_n 0, 1) := by decide +kernel
theorem dX1_init_18 : decode cX1_init 18 = .ok (.new 9, 3) := by decide +kernel
theorem dX1_init_21 : decode cX1_init 21 = .ok (.dup, 1) := by decide +kernel
theorem dX1_init_22 : decode cX1_init 22 = .ok (.bipush 8, 2) := by decide +kernel
theorem dX1_init_24 : decode cX1_init 24 = .ok (.iconst 2, 1) := by decide +kernel
theorem dX1_init_25 : decode cX1_init 25 = .ok (.invokespecial 11, 3) := by decide +kernel
theorem dX1_init_28 : decode cX1_init 28 = .ok (.putfield 20, 3) := by decide +kernel
theorem dX1_init_31 : decode cX1_init 31 = .ok (.aload_n 0, 1) := by decide +kernel
theorem dX1_init_32 : decode cX1_init 32 = .ok (.new 9, 3) := by decide +kernel
theorem dX1_init_35 : decode cX1_init 35 = .ok (.dup, 1) := by decide +kernel
theorem dX1_init_36 : decode cX1_init 36 = .ok (.bipush 30, 2) := by decide +kernel
theorem dX1_init_38 : decode cX1_init 38 = .ok (.bipush 8, 2) := by decide +kernel
theorem dX1_init_40 : decode cX1_init 40 = .ok (.invokespecial 11, 3) := by decide +kernel
theorem dX1_init_43 : decode cX1_init 43 = .ok (.putfield 23, 3) := by decide +kernel
theorem dX1_init_46 : decode cX1_init 46 = .ok (.aload_n 0, 1) := by decide +kernel
theorem dX1_init_47 : decode cX1_init 47 = .ok (.new 9, 3) := by decide +kernel
theorem dX1_init_50 : decode cX1_init 50 = .ok (.dup, 1) := by decide +kernel
theorem dX1_init_51 : decode cX1_init 51 = .ok (.bipush 10, 2) := by decide +kernel
theorem dX1_init_53 : decode cX1_init 53 = .ok (.iconst 5, 1) := by decide +kernel
theorem dX1_init_54 : decode cX1_init 54 = .ok (.invokespecial 11, 3) := by decide +kernel
theorem dX1_init_57 : decode cX1_init 57 = .ok (.putfield 26, 3) := by decide +kernel
theorem dX1_init_60 : decode cX1_init 60 = .ok (.aload_n 0, 1) := by decide +kernel
theorem dX1_init_61 : decode cX1_init 61 = .ok (.sipush 200, 3) := by decide +kernel
theorem dX1_init_64 : decode cX1_init 64 = .ok (.newarray .int, 2) := by decide +kernel
theorem dX1_init_66 : decode cX1_init 66 = .ok (.putfield 29, 3) := by decide +kernel
theorem dX1_init_69 : decode cX1_init 69 = .ok (.return_, 1) := by decide +kernel
theorem dX1_copyFrom_0 : decode cX1_copyFrom 0 = .ok (.aload_n 0, 1) := by decide +kernel
theorem dX1_copyFrom_1 : decode cX1_copyFrom 1 = .ok (.getfield 14, 3) := by decide +kernel
theorem dX1_copyFrom_4 : decode cX1_copyFrom 4 = .ok (.aload_n 1, 1) := by decide +kernel
theorem dX1_copyFrom_5 : decode cX1_copyFrom 5 = .ok (.getfield 14, 3) := by decide +kernel
theorem dX1_copyFrom_8 : decode cX1_copyFrom 8 = .ok (.invokevirtual 33, 3) := by decide +kernel
theorem dX1_copyFrom_11 : decode cX1_copyFrom 11 = .ok (.aload_n 0, 1) := by decide +kernel
theorem dX1_copyFrom_12 : decode cX1_copyFrom 12 = .ok (.getfield 20, 3) := by decide +kernel
theorem dX1_copyFrom_15 : decode cX1_copyFrom 15 = .ok (.aload_n 1, 1) := by decide +kernel
theorem dX1_copyFrom_16 : decode cX1_copyFrom 16 = .ok (.getfield 20, 3) := by decide +kernel
theorem dX1_copyFrom_19 : decode cX1_copyFrom 19 = .ok (.invokevirtual 33, 3) := by decide +kernel
theorem dX1_copyFrom_22 : decode cX1_copyFrom 22 = .ok (.aload_n 0, 1) := by decide +kernel
theorem dX1_copyFrom_23 : decode cX1_copyFrom 23 = .ok (.getfield 23, 3) := by decide +kernel
theorem dX1_copyFrom_26 : decode cX1_copyFrom 26 = .ok (.aload_n 1, 1) := by decide +kernel
theorem dX1_copyFrom_27 : decode cX1_copyFrom 27 = .ok (.getfield 23, 3) := by decide +kernel
theorem dX1_copyFrom_30 : decode cX1_copyFrom 30 = .ok (.invokevirtual 33, 3) := by decide +kernel
theorem dX1_copyFrom_33 : decode cX1_copyFrom 33 = .ok (.aload_n 0, 1) := by decide +kernel
theorem dX1_copyFrom_34 : decode cX1_copyFrom 34 = .ok (.getfield 26, 3) := by decide +kernel
theorem dX1_copyFrom_37 : decode cX1_copyFrom 37 = .ok (.aload_n 1, 1) := by decide +kernel
theorem dX1_copyFrom_38 : decode cX1_copyFrom 38 = .ok (.getfield 26, 3) := by decide +kernel
theorem dX1_copyFrom_41 : decode cX1_copyFrom 41 = .ok (.invokevirtual 33, 3) := by decide +kernel
theorem dX1_copyFrom_44 : decode cX1_copyFrom 44 = .ok (.aload_n 1, 1) := by decide +kernel
theorem dX1_copyFrom_45 : decode cX1_copyFrom 45 = .ok (.getfield 29, 3) := by decide +kernel
theorem dX1_copyFrom_48 : decode cX1_copyFrom 48 = .ok (.iconst 0, 1) := by decide +kernel
theorem dX1_copyFrom_49 : decode cX1_copyFrom 49 = .ok (.aload_n 0, 1) := by decide +kernel
theorem dX1_copyFrom_50 : decode cX1_copyFrom 50 = .ok (.getfield 29, 3) := by decide +kernel
theorem dX1_copyFrom_53 : decode cX1_copyFrom 53 = .ok (.iconst 0, 1) := by decide +kernel
theorem dX1_copyFrom_54 : decode cX1_copyFrom 54 = .ok (.aload_n 1, 1) := by decide +kernel
theorem dX1_copyFrom_55 : decode cX1_copyFrom 55 = .ok (.getfield 29, 3) := by decide +kernel
theorem dX1_copyFrom_58 : decode cX1_copyFrom 58 = .ok (.arraylength, 1) := by decide +kernel
theorem dX1_copyFrom_59 : decode cX1_copyFrom 59 = .ok (.aload_n 0, 1) := by decide +kernel
theorem dX1_copyFrom_60 : decode cX1_copyFrom 60 = .ok (.getfield 29, 3) := by decide +kernel
theorem dX1_copyFrom_63 : decode cX1_copyFrom 63 = .ok (.arraylength, 1) := by decide +kernel
theorem dX1_copyFrom_64 : decode cX1_copyFrom 64 = .ok (.invokestatic 37, 3) := by decide +kernel
theorem dX1_copyFrom_67 : decode cX1_copyFrom 67 = .ok (.invokestatic 43, 3) := by decide +kernel
theorem dX1_copyFrom_70 : decode cX1_copyFrom 70 = .ok (.aload_n 0, 1) := by decide +kernel
theorem dX1_copyFrom_71 : decode cX1_copyFrom 71 = .ok (.aload_n 1, 1) := by decide +kernel
theorem dX1_copyFrom_72 : decode cX1_copyFrom 72 = .ok (.getfield 49, 3) := by decide +kernel
theorem dX1_copyFrom_75 : decode cX1_copyFrom 75 = .ok (.putfield 49, 3) := by decide +kernel
theorem dX1_copyFrom_78 : decode cX1_copyFrom 78 = .ok (.aload_n 0, 1) := by decide +kernel
theorem dX1_copyFrom_79 : decode cX1_copyFrom 79 = .ok (.aload_n 1, 1) := by decide +kernel
theorem dX1_copyFrom_80 : decode cX1_copyFrom 80 = .ok (.getfield 53, 3) := by decide +kernel
theorem dX1_copyFrom_83 : decode cX1_copyFrom 83 = .ok (.putfield 53, 3) := by decide +kernel
theorem dX1_copyFrom_86 : decode cX1_copyFrom 86 = .ok (.aload_n 0, 1) := by decide +kernel
theorem dX1_copyFrom_87 : decode cX1_copyFrom 87 = .ok (.aload_n 1, 1) := by decide +kernel
theorem dX1_copyFrom_88 : decode cX1_copyFrom 88 = .ok (.getfield 56, 3) := by decide +kernel
theorem dX1_copyFrom_91 : decode cX1_copyFrom 91 = .ok (.putfield 56, 3) := by decide +kernel
theorem dX1_copyFrom_94 : decode cX1_copyFrom 94 = .ok (.aload_n 0, 1) := by decide +kernel
theorem dX1_copyFrom_95 : decode cX1_copyFrom 95 = .ok (.aload_n 1, 1) := by decide +kernel
theorem dX1_copyFrom_96 : decode cX1_copyFrom 96 = .ok (.getfield 59, 3) := by decide +kernel
theorem dX1_copyFrom_99 : decode cX1_copyFrom 99 = .ok (.putfield 59, 3) := by decide +kernel
theorem dX1_copyFrom_102 : decode cX1_copyFrom 102 = .ok (.return_, 1) := by decide +kernel
theorem dX1_isToCome_0 : decode cX1_isToCome 0 = .ok (.iload_n 1, 1) := by decide +kernel
theorem dX1_isToCome_1 : decode cX1_isToCome 1 = .ok (.aload_n 0, 1) := by decide +kernel
theorem dX1_isToCome_2 : decode cX1_isToCome 2 = .ok (.getfield 49, 3) := by decide +kernel
theorem dX1_isToCome_5 : decode cX1_isToCome 5 = .ok (.if_icmp .lt 14, 3) := by decide +kernel
theorem dX1_isToCome_8 : decode cX1_isToCome 8 = .ok (.iload_n 1, 1) := by decide +kernel
theorem dX1_isToCome_9 : decode cX1_isToCome 9 = .ok (.invokestatic 62, 3) := by decide +kernel
theorem dX1_isToCome_12 : decode cX1_isToCome 12 = .ok (.ifCond .eq 7, 3) := by decide +kernel
theorem dX1_isToCome_15 : decode cX1_isToCome 15 = .ok (.iconst 1, 1) := by decide +kernel
theorem dX1_isToCome_16 : decode cX1_isToCome 16 = .ok (.goto 4, 3) := by decide +kernel
theorem dX1_isToCome_19 : decode cX1_isToCome 19 = .ok (.iconst 0, 1) := by decide +kernel
theorem dX1_isToCome_20 : decode cX1_isToCome 20 = .ok (.ireturn, 1) := by decide +kernel
theorem dX1_areAllToCome_0 : decode cX1_areAllToCome 0 = .ok (.iconst 0, 1) := by decide +kernel
theorem dX1_areAllToCome_1 : decode cX1_areAllToCome 1 = .ok (.istore_n 2, 1) := by decide +kernel
theorem dX1_areAllToCome_2 : decode cX1_areAllToCome 2 = .ok (.iload_n 2, 1) := by decide +kernel
theorem dX1_areAllToCome_3 : decode cX1_areAllToCome 3 = .ok (.aload_n 1, 1) := by decide +kernel
theorem dX1_areAllToCome_4 : decode cX1_areAllToCome 4 = .ok (.invokevirtual 66, 3) := by decide +kernel
theorem dX1_areAllToCome_7 : decode cX1_areAllToCome 7 = .ok (.if_icmp .ge 24, 3) := by decide +kernel
theorem dX1_areAllToCome_10 : decode cX1_areAllToCome 10 = .ok (.aload_n 0, 1) := by decide +kernel
theorem dX1_areAllToCome_11 : decode cX1_areAllToCome 11 = .ok (.aload_n 1, 1) := by decide +kernel
theorem dX1_areAllToCome_12 : decode cX1_areAllToCome 12 = .ok (.iload_n 2, 1) := by decide +kernel
theorem dX1_areAllToCome_13 : decode cX1_areAllToCome 13 = .ok (.iconst 0, 1) := by decide +kernel
theorem dX1_areAllToCome_14 : decode cX1_areAllToCome 14 = .ok (.invokevirtual 70, 3) := by decide +kernel
theorem dX1_areAllToCome_17 : decode cX1_areAllToCome 17 = .ok (.invokevirtual 73, 3) := by decide +kernel
theorem dX1_areAllToCome_20 : decode cX1_areAllToCome 20 = .ok (.ifCond .ne 5, 3) := by decide +kernel
theorem dX1_areAllToCome_23 : decode cX1_areAllToCome 23 = .ok (.iconst 0, 1) := by decide +kernel
theorem dX1_areAllToCome_24 : decode cX1_areAllToCome 24 = .ok (.ireturn, 1) := by decide +kernel
theorem dX1_areAllToCome_25 : decode cX1_areAllToCome 25 = .ok (.iinc 2 1, 3) := by decide +kernel
theorem dX1_areAllToCome_28 : decode cX1_areAllToCome 28 = .ok (.goto (-26), 3) := by decide +kernel
theorem dX1_areAllToCome_31 : decode cX1_areAllToCome 31 = .ok (.iconst 1, 1) := by decide +kernel
theorem dX1_areAllToCome_32 : decode cX1_areAllToCome 32 = .ok (.ireturn, 1) := by decide +kernel
theorem dX1_windAt_0 : decode cX1_windAt 0 = .ok (.iload_n 1, 1) := by decide +kernel
theorem dX1_windAt_1 : decode cX1_windAt 1 = .ok (.ifCond .lt 21, 3) := by decide +kernel
theorem dX1_windAt_4 : decode cX1_windAt 4 = .ok (.iload_n 1, 1) := by decide +kernel
theorem dX1_windAt_5 : decode cX1_windAt 5 = .ok (.aload_n 0, 1) := by decide +kernel
theorem dX1_windAt_6 : decode cX1_windAt 6 = .ok (.getfield 29, 3) := by decide +kernel
theorem dX1_windAt_9 : decode cX1_windAt 9 = .ok (.arraylength, 1) := by decide +kernel
theorem dX1_windAt_10 : decode cX1_windAt 10 = .ok (.if_icmp .ge 12, 3) := by decide +kernel
theorem dX1_windAt_13 : decode cX1_windAt 13 = .ok (.aload_n 0, 1) := by decide +kernel
theorem dX1_windAt_14 : decode cX1_windAt 14 = .ok (.getfield 29, 3) := by decide +kernel
theorem dX1_windAt_17 : decode cX1_windAt 17 = .ok (.iload_n 1, 1) := by decide +kernel
theorem dX1_windAt_18 : decode cX1_windAt 18 = .ok (.iaload, 1) := by decide +kernel
theorem dX1_windAt_19 : decode cX1_windAt 19 = .ok (.goto 4, 3) := by decide +kernel
theorem dX1_windAt_22 : decode cX1_windAt 22 = .ok (.iconst 0, 1) := by decide +kernel
theorem dX1_windAt_23 : decode cX1_windAt 23 = .ok (.ireturn, 1) := by decide +kernel
theorem dX1_tellWind_0 : decode cX1_tellWind 0 = .ok (.iload_n 1, 1) := by decide +kernel
theorem dX1_tellWind_1 : decode cX1_tellWind 1 = .ok (.ifCond .lt 19, 3) := by decide +kernel
theorem dX1_tellWind_4 : decode cX1_tellWind 4 = .ok (.iload_n 1, 1) := by decide +kernel
theorem dX1_tellWind_5 : decode cX1_tellWind 5 = .ok (.aload_n 0, 1) := by decide +kernel
theorem dX1_tellWind_6 : decode cX1_tellWind 6 = .ok (.getfield 29, 3) := by decide +kernel
theorem dX1_tellWind_9 : decode cX1_tellWind 9 = .ok (.arraylength, 1) := by decide +kernel
theorem dX1_tellWind_10 : decode cX1_tellWind 10 = .ok (.if_icmp .ge 10, 3) := by decide +kernel
theorem dX1_tellWind_13 : decode cX1_tellWind 13 = .ok (.aload_n 0, 1) := by decide +kernel
theorem dX1_tellWind_14 : decode cX1_tellWind 14 = .ok (.getfield 29, 3) := by decide +kernel
theorem dX1_tellWind_17 : decode cX1_tellWind 17 = .ok (.iload_n 1, 1) := by decide +kernel
theorem dX1_tellWind_18 : decode cX1_tellWind 18 = .ok (.iload_n 2, 1) := by decide +kernel
theorem dX1_tellWind_19 : decode cX1_tellWind 19 = .ok (.iastore, 1) := by decide +kernel
theorem dX1_tellWind_20 : decode cX1_tellWind 20 = .ok (.return_, 1) := by decide +kernel
theorem dX1_tellWinds_0 : decode cX1_tellWinds 0 = .ok (.iconst 0, 1) := by decide +kernel
theorem dX1_tellWinds_1 : decode cX1_tellWinds 1 = .ok (.istore_n 2, 1) := by decide +kernel
theorem dX1_tellWinds_2 : decode cX1_tellWinds 2 = .ok (.iload_n 2, 1) := by decide +kernel
theorem dX1_tellWinds_3 : decode cX1_tellWinds 3 = .ok (.aload_n 1, 1) := by decide +kernel
theorem dX1_tellWinds_4 : decode cX1_tellWinds 4 = .ok (.invokevirtual 66, 3) := by decide +kernel
theorem dX1_tellWinds_7 : decode cX1_tellWinds 7 = .ok (.if_icmp .ge 25, 3) := by decide +kernel
theorem dX1_tellWinds_10 : decode cX1_tellWinds 10 = .ok (.aload_n 0, 1) := by decide +kernel
theorem dX1_tellWinds_11 : decode cX1_tellWinds 11 = .ok (.aload_n 1, 1) := by decide +kernel
theorem dX1_tellWinds_12 : decode cX1_tellWinds 12 = .ok (.iload_n 2, 1) := by decide +kernel
theorem dX1_tellWinds_13 : decode cX1_tellWinds 13 = .ok (.iconst 0, 1) := by decide +kernel
theorem dX1_tellWinds_14 : decode cX1_tellWinds 14 = .ok (.invokevirtual 70, 3) := by decide +kernel
theorem dX1_tellWinds_17 : decode cX1_tellWinds 17 = .ok (.aload_n 1, 1) := by decide +kernel
theorem dX1_tellWinds_18 : decode cX1_tellWinds 18 = .ok (.iload_n 2, 1) := by decide +kernel
theorem dX1_tellWinds_19 : decode cX1_tellWinds 19 = .ok (.iconst 1, 1) := by decide +kernel
theorem dX1_tellWinds_20 : decode cX1_tellWinds 20 = .ok (.invokevirtual 70, 3) := by decide +kernel
theorem dX1_tellWinds_23 : decode cX1_tellWinds 23 = .ok (.invokevirtual 76, 3) := by decide +kernel
theorem dX1_tellWinds_26 : decode cX1_tellWinds 26 = .ok (.iinc 2 1, 3) := by decide +kernel
theorem dX1_tellWinds_29 : decode cX1_tellWinds 29 = .ok (.goto (-27), 3) := by decide +kernel
theorem dX1_tellWinds_32 : decode cX1_tellWinds 32 = .ok (.return_, 1) := by decide +kernel
theorem dX1_putMachine_0 : decode cX1_putMachine 0 = .ok (.aload_n 0, 1) := by decide +kernel
theorem dX1_putMachine_1 : decode cX1_putMachine 1 = .ok (.getfield 14, 3) := by decide +kernel
theorem dX1_putMachine_4 : decode cX1_putMachine 4 = .ok (.invokevirtual 79, 3) := by decide +kernel
theorem dX1_putMachine_7 : decode cX1_putMachine 7 = .ok (.istore_n 3, 1) := by decide +kernel
theorem dX1_putMachine_8 : decode cX1_putMachine 8 = .ok (.aload_n 0, 1) := by decide +kernel
theorem dX1_putMachine_9 : decode cX1_putMachine 9 = .ok (.getfield 14, 3) := by decide +kernel
theorem dX1_putMachine_12 : decode cX1_putMachine 12 = .ok (.iload_n 3, 1) := by decide +kernel
theorem dX1_putMachine_13 : decode cX1_putMachine 13 = .ok (.iconst 0, 1) := by decide +kernel
theorem dX1_putMachine_14 : decode cX1_putMachine 14 = .ok (.iload_n 1, 1) := by decide +kernel
theorem dX1_putMachine_15 : decode cX1_putMachine 15 = .ok (.invokevirtual 82, 3) := by decide +kernel
theorem dX1_putMachine_18 : decode cX1_putMachine 18 = .ok (.aload_n 0, 1) := by decide +kernel
theorem dX1_putMachine_19 : decode cX1_putMachine 19 = .ok (.getfield 14, 3) := by decide +kernel
theorem dX1_putMachine_22 : decode cX1_putMachine 22 = .ok (.iload_n 3, 1) := by decide +kernel
theorem dX1_putMachine_23 : decode cX1_putMachine 23 = .ok (.iconst 1, 1) := by decide +kernel
theorem dX1_putMachine_24 : decode cX1_putMachine 24 = .ok (.iload_n 2, 1) := by decide +kernel
theorem dX1_putMachine_25 : decode cX1_putMachine 25 = .ok (.invokevirtual 82, 3) := by decide +kernel
theorem dX1_putMachine_28 : decode cX1_putMachine 28 = .ok (.aload_n 0, 1) := by decide +kernel
theorem dX1_putMachine_29 : decode cX1_putMachine 29 = .ok (.getfield 14, 3) := by decide +kernel
theorem dX1_putMachine_32 : decode cX1_putMachine 32 = .ok (.iload_n 3, 1) := by decide +kernel
theorem dX1_putMachine_33 : decode cX1_putMachine 33 = .ok (.iconst 2, 1) := by decide +kernel
theorem dX1_putMachine_34 : decode cX1_putMachine 34 = .ok (.bipush (-5), 2) := by decide +kernel
theorem dX1_putMachine_36 : decode cX1_putMachine 36 = .ok (.invokevirtual 82, 3) := by decide +kernel
theorem dX1_putMachine_39 : decode cX1_putMachine 39 = .ok (.iload_n 3, 1) := by decide +kernel
theorem dX1_putMachine_40 : decode cX1_putMachine 40 = .ok (.ireturn, 1) := by decide +kernel
theorem dX1_borneBy_0 : decode cX1_borneBy 0 = .ok (.aload_n 0, 1) := by decide +kernel
theorem dX1_borneBy_1 : decode cX1_borneBy 1 = .ok (.getfield 14, 3) := by decide +kernel
theorem dX1_borneBy_4 : decode cX1_borneBy 4 = .ok (.iload_n 1, 1) := by decide +kernel
theorem dX1_borneBy_5 : decode cX1_borneBy 5 = .ok (.iconst 0, 1) := by decide +kernel
theorem dX1_borneBy_6 : decode cX1_borneBy 6 = .ok (.invokevirtual 70, 3) := by decide +kernel
theorem dX1_borneBy_9 : decode cX1_borneBy 9 = .ok (.istore_n 3, 1) := by decide +kernel
theorem dX1_borneBy_10 : decode cX1_borneBy 10 = .ok (.aload_n 0, 1) := by decide +kernel
theorem dX1_borneBy_11 : decode cX1_borneBy 11 = .ok (.getfield 14, 3) := by decide +kernel
theorem dX1_borneBy_14 : decode cX1_borneBy 14 = .ok (.iload_n 1, 1) := by decide +kernel
theorem dX1_borneBy_15 : decode cX1_borneBy 15 = .ok (.iconst 1, 1) := by decide +kernel
theorem dX1_borneBy_16 : decode cX1_borneBy 16 = .ok (.invokevirtual 70, 3) := by decide +kernel
theorem dX1_borneBy_19 : decode cX1_borneBy 19 = .ok (.istore 4, 2) := by decide +kernel
theorem dX1_borneBy_21 : decode cX1_borneBy 21 = .ok (.iload_n 3, 1) := by decide +kernel
theorem dX1_borneBy_22 : decode cX1_borneBy 22 = .ok (.bipush 100, 2) := by decide +kernel
theorem dX1_borneBy_24 : decode cX1_borneBy 24 = .ok (.imul, 1) := by decide +kernel
theorem dX1_borneBy_25 : decode cX1_borneBy 25 = .ok (.iload 4, 2) := by decide +kernel
theorem dX1_borneBy_27 : decode cX1_borneBy 27 = .ok (.sipush 150, 3) := by decide +kernel
theorem dX1_borneBy_30 : decode cX1_borneBy 30 = .ok (.imul, 1) := by decide +kernel
theorem dX1_borneBy_31 : decode cX1_borneBy 31 = .ok (.iadd, 1) := by decide +kernel
theorem dX1_borneBy_32 : decode cX1_borneBy 32 = .ok (.iload_n 2, 1) := by decide +kernel
theorem dX1_borneBy_33 : decode cX1_borneBy 33 = .ok (.iconst 2, 1) := by decide +kernel
theorem dX1_borneBy_34 : decode cX1_borneBy 34 = .ok (.invokestatic 86, 3) := by decide +kernel
theorem dX1_borneBy_37 : decode cX1_borneBy 37 = .ok (.idiv, 1) := by decide +kernel
theorem dX1_borneBy_38 : decode cX1_borneBy 38 = .ok (.istore 5, 2) := by decide +kernel
theorem dX1_borneBy_40 : decode cX1_borneBy 40 = .ok (.iload 5, 2) := by decide +kernel
theorem dX1_borneBy_42 : decode cX1_borneBy 42 = .ok (.iload_n 3, 1) := by decide +kernel
theorem dX1_borneBy_43 : decode cX1_borneBy 43 = .ok (.bipush 10, 2) := by decide +kernel
theorem dX1_borneBy_45 : decode cX1_borneBy 45 = .ok (.imul, 1) := by decide +kernel
theorem dX1_borneBy_46 : decode cX1_borneBy 46 = .ok (.invokestatic 37, 3) := by decide +kernel
theorem dX1_borneBy_49 : decode cX1_borneBy 49 = .ok (.ireturn, 1) := by decide +kernel
theorem dX1_canTake_0 : decode cX1_canTake 0 = .ok (.iload_n 3, 1) := by decide +kernel
theorem dX1_canTake_1 : decode cX1_canTake 1 = .ok (.aload_n 0, 1) := by decide +kernel
theorem dX1_canTake_2 : decode cX1_canTake 2 = .ok (.iload_n 1, 1) := by decide +kernel
theorem dX1_canTake_3 : decode cX1_canTake 3 = .ok (.iload 4, 2) := by decide +kernel
theorem dX1_canTake_5 : decode cX1_canTake 5 = .ok (.invokevirtual 89, 3) := by decide +kernel
theorem dX1_canTake_8 : decode cX1_canTake 8 = .ok (.if_icmp .gt 18, 3) := by decide +kernel
theorem dX1_canTake_11 : decode cX1_canTake 11 = .ok (.aload_n 0, 1) := by decide +kernel
theorem dX1_canTake_12 : decode cX1_canTake 12 = .ok (.iload_n 1, 1) := by decide +kernel
theorem dX1_canTake_13 : decode cX1_canTake 13 = .ok (.iload_n 2, 1) := by decide +kernel
theorem dX1_canTake_14 : decode cX1_canTake 14 = .ok (.invokevirtual 92, 3) := by decide +kernel
theorem dX1_canTake_17 : decode cX1_canTake 17 = .ok (.bipush (-5), 2) := by decide +kernel
theorem dX1_canTake_19 : decode cX1_canTake 19 = .ok (.if_icmp .ne 7, 3) := by decide +kernel
theorem dX1_canTake_22 : decode cX1_canTake 22 = .ok (.iconst 1, 1) := by decide +kernel
theorem dX1_canTake_23 : decode cX1_canTake 23 = .ok (.goto 4, 3) := by decide +kernel
theorem dX1_canTake_26 : decode cX1_canTake 26 = .ok (.iconst 0, 1) := by decide +kernel
theorem dX1_canTake_27 : decode cX1_canTake 27 = .ok (.ireturn, 1) := by decide +kernel
theorem dX1_pay_0 : decode cX1_pay 0 = .ok (.aload_n 0, 1) := by decide +kernel
theorem dX1_pay_1 : decode cX1_pay 1 = .ok (.getfield 20, 3) := by decide +kernel
theorem dX1_pay_4 : decode cX1_pay 4 = .ok (.iload_n 1, 1) := by decide +kernel
theorem dX1_pay_5 : decode cX1_pay 5 = .ok (.iconst 0, 1) := by decide +kernel
theorem dX1_pay_6 : decode cX1_pay 6 = .ok (.iload_n 2, 1) := by decide +kernel
theorem dX1_pay_7 : decode cX1_pay 7 = .ok (.invokevirtual 95, 3) := by decide +kernel
theorem dX1_pay_10 : decode cX1_pay 10 = .ok (.return_, 1) := by decide +kernel
theorem dX1_putBooking_0 : decode cX1_putBooking 0 = .ok (.aload_n 0, 1) := by decide +kernel
theorem dX1_putBooking_1 : decode cX1_putBooking 1 = .ok (.getfield 23, 3) := by decide +kernel
theorem dX1_putBooking_4 : decode cX1_putBooking 4 = .ok (.invokevirtual 79, 3) := by decide +kernel
theorem dX1_putBooking_7 : decode cX1_putBooking 7 = .ok (.istore 4, 2) := by decide +kernel
theorem dX1_putBooking_9 : decode cX1_putBooking 9 = .ok (.aload_n 0, 1) := by decide +kernel
theorem dX1_putBooking_10 : decode cX1_putBooking 10 = .ok (.getfield 23, 3) := by decide +kernel
theorem dX1_putBooking_13 : decode cX1_putBooking 13 = .ok (.iload 4, 2) := by decide +kernel
theorem dX1_putBooking_15 : decode cX1_putBooking 15 = .ok (.iconst 0, 1) := by decide +kernel
theorem dX1_putBooking_16 : decode cX1_putBooking 16 = .ok (.iload_n 1, 1) := by decide +kernel
theorem dX1_putBooking_17 : decode cX1_putBooking 17 = .ok (.invokevirtual 82, 3) := by decide +kernel
theorem dX1_putBooking_20 : decode cX1_putBooking 20 = .ok (.aload_n 0, 1) := by decide +kernel
theorem dX1_putBooking_21 : decode cX1_putBooking 21 = .ok (.getfield 23, 3) := by decide +kernel
theorem dX1_putBooking_24 : decode cX1_putBooking 24 = .ok (.iload 4, 2) := by decide +kernel
theorem dX1_putBooking_26 : decode cX1_putBooking 26 = .ok (.iconst 3, 1) := by decide +kernel
theorem dX1_putBooking_27 : decode cX1_putBooking 27 = .ok (.iload_n 2, 1) := by decide +kernel
theorem dX1_putBooking_28 : decode cX1_putBooking 28 = .ok (.invokevirtual 82, 3) := by decide +kernel
theorem dX1_putBooking_31 : decode cX1_putBooking 31 = .ok (.aload_n 0, 1) := by decide +kernel
theorem dX1_putBooking_32 : decode cX1_putBooking 32 = .ok (.getfield 23, 3) := by decide +kernel
theorem dX1_putBooking_35 : decode cX1_putBooking 35 = .ok (.iload 4, 2) := by decide +kernel
theorem dX1_putBooking_37 : decode cX1_putBooking 37 = .ok (.iconst 4, 1) := by decide +kernel
theorem dX1_putBooking_38 : decode cX1_putBooking 38 = .ok (.iload_n 3, 1) := by decide +kernel
theorem dX1_putBooking_39 : decode cX1_putBooking 39 = .ok (.invokevirtual 82, 3) := by decide +kernel
theorem dX1_putBooking_42 : decode cX1_putBooking 42 = .ok (.aload_n 0, 1) := by decide +kernel
theorem dX1_putBooking_43 : decode cX1_putBooking 43 = .ok (.getfield 23, 3) := by decide +kernel
theorem dX1_putBooking_46 : decode cX1_putBooking 46 = .ok (.iload 4, 2) := by decide +kernel
theorem dX1_putBooking_48 : decode cX1_putBooking 48 = .ok (.iconst 5, 1) := by decide +kernel
theorem dX1_putBooking_49 : decode cX1_putBooking 49 = .ok (.iconst 0, 1) := by decide +kernel
theorem dX1_putBooking_50 : decode cX1_putBooking 50 = .ok (.invokevirtual 82, 3) := by decide +kernel
theorem dX1_putBooking_53 : decode cX1_putBooking 53 = .ok (.iload 4, 2) := by decide +kernel
theorem dX1_putBooking_55 : decode cX1_putBooking 55 = .ok (.ireturn, 1) := by decide +kernel
theorem dX1_place_0 : decode cX1_place 0 = .ok (.aload_n 0, 1) := by decide +kernel
theorem dX1_place_1 : decode cX1_place 1 = .ok (.getfield 23, 3) := by decide +kernel
theorem dX1_place_4 : decode cX1_place 4 = .ok (.iload_n 1, 1) := by decide +kernel
theorem dX1_place_5 : decode cX1_place 5 = .ok (.iconst 1, 1) := by decide +kernel
theorem dX1_place_6 : decode cX1_place 6 = .ok (.iload_n 2, 1) := by decide +kernel
theorem dX1_place_7 : decode cX1_place 7 = .ok (.invokevirtual 82, 3) := by decide +kernel
theorem dX1_place_10 : decode cX1_place 10 = .ok (.aload_n 0, 1) := by decide +kernel
theorem dX1_place_11 : decode cX1_place 11 = .ok (.getfield 23, 3) := by decide +kernel
theorem dX1_place_14 : decode cX1_place 14 = .ok (.iload_n 1, 1) := by decide +kernel
theorem dX1_place_15 : decode cX1_place 15 = .ok (.iconst 2, 1) := by decide +kernel
theorem dX1_place_16 : decode cX1_place 16 = .ok (.iload_n 3, 1) := by decide +kernel
theorem dX1_place_17 : decode cX1_place 17 = .ok (.invokevirtual 82, 3) := by decide +kernel
theorem dX1_place_20 : decode cX1_place 20 = .ok (.aload_n 0, 1) := by decide +kernel
theorem dX1_place_21 : decode cX1_place 21 = .ok (.getfield 23, 3) := by decide +kernel
theorem dX1_place_24 : decode cX1_place 24 = .ok (.iload_n 1, 1) := by decide +kernel
theorem dX1_place_25 : decode cX1_place 25 = .ok (.bipush 6, 2) := by decide +kernel
theorem dX1_place_27 : decode cX1_place 27 = .ok (.aload_n 0, 1) := by decide +kernel
theorem dX1_place_28 : decode cX1_place 28 = .ok (.iload_n 3, 1) := by decide +kernel
theorem dX1_place_29 : decode cX1_place 29 = .ok (.invokevirtual 98, 3) := by decide +kernel
theorem dX1_place_32 : decode cX1_place 32 = .ok (.invokevirtual 82, 3) := by decide +kernel
theorem dX1_place_35 : decode cX1_place 35 = .ok (.return_, 1) := by decide +kernel
theorem dX1_isBooked_0 : decode cX1_isBooked 0 = .ok (.aload_n 0, 1) := by decide +kernel
theorem dX1_isBooked_1 : decode cX1_isBooked 1 = .ok (.getfield 23, 3) := by decide +kernel
theorem dX1_isBooked_4 : decode cX1_isBooked 4 = .ok (.iload_n 1, 1) := by decide +kernel
theorem dX1_isBooked_5 : decode cX1_isBooked 5 = .ok (.iconst 5, 1) := by decide +kernel
theorem dX1_isBooked_6 : decode cX1_isBooked 6 = .ok (.invokevirtual 70, 3) := by decide +kernel
theorem dX1_isBooked_9 : decode cX1_isBooked 9 = .ok (.ifCond .ne 7, 3) := by decide +kernel
theorem dX1_isBooked_12 : decode cX1_isBooked 12 = .ok (.iconst 1, 1) := by decide +kernel
theorem dX1_isBooked_13 : decode cX1_isBooked 13 = .ok (.goto 4, 3) := by decide +kernel
theorem dX1_isBooked_16 : decode cX1_isBooked 16 = .ok (.iconst 0, 1) := by decide +kernel
theorem dX1_isBooked_17 : decode cX1_isBooked 17 = .ok (.ireturn, 1) := by decide +kernel
theorem dX1_bookingFor_0 : decode cX1_bookingFor 0 = .ok (.iconst 0, 1) := by decide +kernel
theorem dX1_bookingFor_1 : decode cX1_bookingFor 1 = .ok (.istore_n 3, 1) := by decide +kernel
theorem dX1_bookingFor_2 : decode cX1_bookingFor 2 = .ok (.iload_n 3, 1) := by decide +kernel
theorem dX1_bookingFor_3 : decode cX1_bookingFor 3 = .ok (.aload_n 0, 1) := by decide +kernel
theorem dX1_bookingFor_4 : decode cX1_bookingFor 4 = .ok (.getfield 23, 3) := by decide +kernel
theorem dX1_bookingFor_7 : decode cX1_bookingFor 7 = .ok (.invokevirtual 66, 3) := by decide +kernel
theorem dX1_bookingFor_10 : decode cX1_bookingFor 10 = .ok (.if_icmp .ge 49, 3) := by decide +kernel
theorem dX1_bookingFor_13 : decode cX1_bookingFor 13 = .ok (.aload_n 0, 1) := by decide +kernel
theorem dX1_bookingFor_14 : decode cX1_bookingFor 14 = .ok (.getfield 23, 3) := by decide +kernel
theorem dX1_bookingFor_17 : decode cX1_bookingFor 17 = .ok (.iload_n 3, 1) := by decide +kernel
theorem dX1_bookingFor_18 : decode cX1_bookingFor 18 = .ok (.iconst 5, 1) := by decide +kernel
theorem dX1_bookingFor_19 : decode cX1_bookingFor 19 = .ok (.invokevirtual 70, 3) := by decide +kernel
theorem dX1_bookingFor_22 : decode cX1_bookingFor 22 = .ok (.ifCond .ne 31, 3) := by decide +kernel
theorem dX1_bookingFor_25 : decode cX1_bookingFor 25 = .ok (.aload_n 0, 1) := by decide +kernel
theorem dX1_bookingFor_26 : decode cX1_bookingFor 26 = .ok (.getfield 23, 3) := by decide +kernel
theorem dX1_bookingFor_29 : decode cX1_bookingFor 29 = .ok (.iload_n 3, 1) := by decide +kernel
theorem dX1_bookingFor_30 : decode cX1_bookingFor 30 = .ok (.iconst 1, 1) := by decide +kernel
theorem dX1_bookingFor_31 : decode cX1_bookingFor 31 = .ok (.invokevirtual 70, 3) := by decide +kernel
theorem dX1_bookingFor_34 : decode cX1_bookingFor 34 = .ok (.iload_n 1, 1) := by decide +kernel
theorem dX1_bookingFor_35 : decode cX1_bookingFor 35 = .ok (.if_icmp .ne 18, 3) := by decide +kernel
theorem dX1_bookingFor_38 : decode cX1_bookingFor 38 = .ok (.aload_n 0, 1) := by decide +kernel
theorem dX1_bookingFor_39 : decode cX1_bookingFor 39 = .ok (.getfield 23, 3) := by decide +kernel
theorem dX1_bookingFor_42 : decode cX1_bookingFor 42 = .ok (.iload_n 3, 1) := by decide +kernel
theorem dX1_bookingFor_43 : decode cX1_bookingFor 43 = .ok (.iconst 2, 1) := by decide +kernel
theorem dX1_bookingFor_44 : decode cX1_bookingFor 44 = .ok (.invokevirtual 70, 3) := by decide +kernel
theorem dX1_bookingFor_47 : decode cX1_bookingFor 47 = .ok (.iload_n 2, 1) := by decide +kernel
theorem dX1_bookingFor_48 : decode cX1_bookingFor 48 = .ok (.if_icmp .ne 5, 3) := by decide +kernel
theorem dX1_bookingFor_51 : decode cX1_bookingFor 51 = .ok (.iload_n 3, 1) := by decide +kernel
theorem dX1_bookingFor_52 : decode cX1_bookingFor 52 = .ok (.ireturn, 1) := by decide +kernel
theorem dX1_bookingFor_53 : decode cX1_bookingFor 53 = .ok (.iinc 3 1, 3) := by decide +kernel
theorem dX1_bookingFor_56 : decode cX1_bookingFor 56 = .ok (.goto (-54), 3) := by decide +kernel
theorem dX1_bookingFor_59 : decode cX1_bookingFor 59 = .ok (.bipush (-5), 2) := by decide +kernel
theorem dX1_bookingFor_61 : decode cX1_bookingFor 61 = .ok (.ireturn, 1) := by decide +kernel
theorem dX1_limitOf_0 : decode cX1_limitOf 0 = .ok (.aload_n 0, 1) := by decide +kernel
theorem dX1_limitOf_1 : decode cX1_limitOf 1 = .ok (.getfield 23, 3) := by decide +kernel
theorem dX1_limitOf_4 : decode cX1_limitOf 4 = .ok (.iload_n 1, 1) := by decide +kernel
theorem dX1_limitOf_5 : decode cX1_limitOf 5 = .ok (.iconst 3, 1) := by decide +kernel
theorem dX1_limitOf_6 : decode cX1_limitOf 6 = .ok (.invokevirtual 70, 3) := by decide +kernel
theorem dX1_limitOf_9 : decode cX1_limitOf 9 = .ok (.aload_n 0, 1) := by decide +kernel
theorem dX1_limitOf_10 : decode cX1_limitOf 10 = .ok (.getfield 23, 3) := by decide +kernel
theorem dX1_limitOf_13 : decode cX1_limitOf 13 = .ok (.iload_n 1, 1) := by decide +kernel
theorem dX1_limitOf_14 : decode cX1_limitOf 14 = .ok (.iconst 4, 1) := by decide +kernel
theorem dX1_limitOf_15 : decode cX1_limitOf 15 = .ok (.invokevirtual 70, 3) := by decide +kernel
theorem dX1_limitOf_18 : decode cX1_limitOf 18 = .ok (.invokestatic 102, 3) := by decide +kernel
theorem dX1_limitOf_21 : decode cX1_limitOf 21 = .ok (.ireturn, 1) := by decide +kernel
theorem dX1_bearsLiftOf_0 : decode cX1_bearsLiftOf 0 = .ok (.aload_n 0, 1) := by decide +kernel
theorem dX1_bearsLiftOf_1 : decode cX1_bearsLiftOf 1 = .ok (.getfield 23, 3) := by decide +kernel
theorem dX1_bearsLiftOf_4 : decode cX1_bearsLiftOf 4 = .ok (.iload_n 2, 1) := by decide +kernel
theorem dX1_bearsLiftOf_5 : decode cX1_bearsLiftOf 5 = .ok (.iconst 3, 1) := by decide +kernel
theorem dX1_bearsLiftOf_6 : decode cX1_bearsLiftOf 6 = .ok (.invokevirtual 70, 3) := by decide +kernel
theorem dX1_bearsLiftOf_9 : decode cX1_bearsLiftOf 9 = .ok (.aload_n 0, 1) := by decide +kernel
theorem dX1_bearsLiftOf_10 : decode cX1_bearsLiftOf 10 = .ok (.iload_n 1, 1) := by decide +kernel
theorem dX1_bearsLiftOf_11 : decode cX1_bearsLiftOf 11 = .ok (.aload_n 0, 1) := by decide +kernel
theorem dX1_bearsLiftOf_12 : decode cX1_bearsLiftOf 12 = .ok (.getfield 23, 3) := by decide +kernel
theorem dX1_bearsLiftOf_15 : decode cX1_bearsLiftOf 15 = .ok (.iload_n 2, 1) := by decide +kernel
theorem dX1_bearsLiftOf_16 : decode cX1_bearsLiftOf 16 = .ok (.iconst 4, 1) := by decide +kernel
theorem dX1_bearsLiftOf_17 : decode cX1_bearsLiftOf 17 = .ok (.invokevirtual 70, 3) := by decide +kernel
theorem dX1_bearsLiftOf_20 : decode cX1_bearsLiftOf 20 = .ok (.invokevirtual 89, 3) := by decide +kernel
theorem dX1_bearsLiftOf_23 : decode cX1_bearsLiftOf 23 = .ok (.if_icmp .gt 7, 3) := by decide +kernel
theorem dX1_bearsLiftOf_26 : decode cX1_bearsLiftOf 26 = .ok (.iconst 1, 1) := by decide +kernel
theorem dX1_bearsLiftOf_27 : decode cX1_bearsLiftOf 27 = .ok (.goto 4, 3) := by decide +kernel
theorem dX1_bearsLiftOf_30 : decode cX1_bearsLiftOf 30 = .ok (.iconst 0, 1) := by decide +kernel
theorem dX1_bearsLiftOf_31 : decode cX1_bearsLiftOf 31 = .ok (.ireturn, 1) := by decide +kernel
theorem dX1_mustStandBy_0 : decode cX1_mustStandBy 0 = .ok (.aload_n 0, 1) := by decide +kernel
theorem dX1_mustStandBy_1 : decode cX1_mustStandBy 1 = .ok (.aload_n 0, 1) := by decide +kernel
theorem dX1_mustStandBy_2 : decode cX1_mustStandBy 2 = .ok (.getfield 23, 3) := by decide +kernel
theorem dX1_mustStandBy_5 : decode cX1_mustStandBy 5 = .ok (.iload_n 1, 1) := by decide +kernel
theorem dX1_mustStandBy_6 : decode cX1_mustStandBy 6 = .ok (.iconst 1, 1) := by decide +kernel
theorem dX1_mustStandBy_7 : decode cX1_mustStandBy 7 = .ok (.invokevirtual 70, 3) := by decide +kernel
theorem dX1_mustStandBy_10 : decode cX1_mustStandBy 10 = .ok (.iload_n 1, 1) := by decide +kernel
theorem dX1_mustStandBy_11 : decode cX1_mustStandBy 11 = .ok (.invokevirtual 105, 3) := by decide +kernel
theorem dX1_mustStandBy_14 : decode cX1_mustStandBy 14 = .ok (.ifCond .eq 24, 3) := by decide +kernel
theorem dX1_mustStandBy_17 : decode cX1_mustStandBy 17 = .ok (.aload_n 0, 1) := by decide +kernel
theorem dX1_mustStandBy_18 : decode cX1_mustStandBy 18 = .ok (.aload_n 0, 1) := by decide +kernel
theorem dX1_mustStandBy_19 : decode cX1_mustStandBy 19 = .ok (.getfield 23, 3) := by decide +kernel
theorem dX1_mustStandBy_22 : decode cX1_mustStandBy 22 = .ok (.iload_n 1, 1) := by decide +kernel
theorem dX1_mustStandBy_23 : decode cX1_mustStandBy 23 = .ok (.iconst 2, 1) := by decide +kernel
theorem dX1_mustStandBy_24 : decode cX1_mustStandBy 24 = .ok (.invokevirtual 70, 3) := by decide +kernel
theorem dX1_mustStandBy_27 : decode cX1_mustStandBy 27 = .ok (.invokevirtual 98, 3) := by decide +kernel
theorem dX1_mustStandBy_30 : decode cX1_mustStandBy 30 = .ok (.aload_n 0, 1) := by decide +kernel
theorem dX1_mustStandBy_31 : decode cX1_mustStandBy 31 = .ok (.iload_n 1, 1) := by decide +kernel
theorem dX1_mustStandBy_32 : decode cX1_mustStandBy 32 = .ok (.invokevirtual 109, 3) := by decide +kernel
theorem dX1_mustStandBy_35 : decode cX1_mustStandBy 35 = .ok (.if_icmp .le 7, 3) := by decide +kernel
theorem dX1_mustStandBy_38 : decode cX1_mustStandBy 38 = .ok (.iconst 1, 1) := by decide +kernel
theorem dX1_mustStandBy_39 : decode cX1_mustStandBy 39 = .ok (.goto 4, 3) := by decide +kernel
theorem dX1_mustStandBy_42 : decode cX1_mustStandBy 42 = .ok (.iconst 0, 1) := by decide +kernel
theorem dX1_mustStandBy_43 : decode cX1_mustStandBy 43 = .ok (.ireturn, 1) := by decide +kernel
theorem dX1_causerOf_0 : decode cX1_causerOf 0 = .ok (.aload_n 0, 1) := by decide +kernel
theorem dX1_causerOf_1 : decode cX1_causerOf 1 = .ok (.getfield 23, 3) := by decide +kernel
theorem dX1_causerOf_4 : decode cX1_causerOf 4 = .ok (.iload_n 1, 1) := by decide +kernel
theorem dX1_causerOf_5 : decode cX1_causerOf 5 = .ok (.iconst 1, 1) := by decide +kernel
theorem dX1_causerOf_6 : decode cX1_causerOf 6 = .ok (.invokevirtual 70, 3) := by decide +kernel
theorem dX1_causerOf_9 : decode cX1_causerOf 9 = .ok (.istore_n 2, 1) := by decide +kernel
theorem dX1_causerOf_10 : decode cX1_causerOf 10 = .ok (.aload_n 0, 1) := by decide +kernel
theorem dX1_causerOf_11 : decode cX1_causerOf 11 = .ok (.iload_n 2, 1) := by decide +kernel
theorem dX1_causerOf_12 : decode cX1_causerOf 12 = .ok (.iload_n 1, 1) := by decide +kernel
theorem dX1_causerOf_13 : decode cX1_causerOf 13 = .ok (.invokevirtual 105, 3) := by decide +kernel
theorem dX1_causerOf_16 : decode cX1_causerOf 16 = .ok (.ifCond .ne 13, 3) := by decide +kernel
theorem dX1_causerOf_19 : decode cX1_causerOf 19 = .ok (.aload_n 0, 1) := by decide +kernel
theorem dX1_causerOf_20 : decode cX1_causerOf 20 = .ok (.getfield 14, 3) := by decide +kernel
theorem dX1_causerOf_23 : decode cX1_causerOf 23 = .ok (.iload_n 2, 1) := by decide +kernel
theorem dX1_causerOf_24 : decode cX1_causerOf 24 = .ok (.iconst 2, 1) := by decide +kernel
theorem dX1_causerOf_25 : decode cX1_causerOf 25 = .ok (.invokevirtual 70, 3) := by decide +kernel
theorem dX1_causerOf_28 : decode cX1_causerOf 28 = .ok (.ireturn, 1) := by decide +kernel
theorem dX1_causerOf_29 : decode cX1_causerOf 29 = .ok (.aload_n 0, 1) := by decide +kernel
theorem dX1_causerOf_30 : decode cX1_causerOf 30 = .ok (.getfield 23, 3) := by decide +kernel
theorem dX1_causerOf_33 : decode cX1_causerOf 33 = .ok (.iload_n 1, 1) := by decide +kernel
theorem dX1_causerOf_34 : decode cX1_causerOf 34 = .ok (.bipush 6, 2) := by decide +kernel
theorem dX1_causerOf_36 : decode cX1_causerOf 36 = .ok (.invokevirtual 70, 3) := by decide +kernel
theorem dX1_causerOf_39 : decode cX1_causerOf 39 = .ok (.aload_n 0, 1) := by decide +kernel
theorem dX1_causerOf_40 : decode cX1_causerOf 40 = .ok (.iload_n 1, 1) := by decide +kernel
theorem dX1_causerOf_41 : decode cX1_causerOf 41 = .ok (.invokevirtual 109, 3) := by decide +kernel
theorem dX1_causerOf_44 : decode cX1_causerOf 44 = .ok (.if_icmp .le 7, 3) := by decide +kernel
theorem dX1_causerOf_47 : decode cX1_causerOf 47 = .ok (.iconst 1, 1) := by decide +kernel
theorem dX1_causerOf_48 : decode cX1_causerOf 48 = .ok (.goto 4, 3) := by decide +kernel
theorem dX1_causerOf_51 : decode cX1_causerOf 51 = .ok (.iconst 0, 1) := by decide +kernel
theorem dX1_causerOf_52 : decode cX1_causerOf 52 = .ok (.istore_n 3, 1) := by decide +kernel
theorem dX1_causerOf_53 : decode cX1_causerOf 53 = .ok (.iload_n 3, 1) := by decide +kernel
theorem dX1_causerOf_54 : decode cX1_causerOf 54 = .ok (.ifCond .eq 15, 3) := by decide +kernel
theorem dX1_causerOf_57 : decode cX1_causerOf 57 = .ok (.aload_n 0, 1) := by decide +kernel
theorem dX1_causerOf_58 : decode cX1_causerOf 58 = .ok (.getfield 23, 3) := by decide +kernel
theorem dX1_causerOf_61 : decode cX1_causerOf 61 = .ok (.iload_n 1, 1) := by decide +kernel
theorem dX1_causerOf_62 : decode cX1_causerOf 62 = .ok (.iconst 0, 1) := by decide +kernel
theorem dX1_causerOf_63 : decode cX1_causerOf 63 = .ok (.invokevirtual 70, 3) := by decide +kernel
theorem dX1_causerOf_66 : decode cX1_causerOf 66 = .ok (.goto 5, 3) := by decide +kernel
theorem dX1_causerOf_69 : decode cX1_causerOf 69 = .ok (.bipush (-5), 2) := by decide +kernel
theorem dX1_causerOf_71 : decode cX1_causerOf 71 = .ok (.ireturn, 1) := by decide +kernel
theorem dX1_putMove_0 : decode cX1_putMove 0 = .ok (.aload_n 0, 1) := by decide +kernel
theorem dX1_putMove_1 : decode cX1_putMove 1 = .ok (.getfield 26, 3) := by decide +kernel
theorem dX1_putMove_4 : decode cX1_putMove 4 = .ok (.invokevirtual 79, 3) := by decide +kernel
theorem dX1_putMove_7 : decode cX1_putMove 7 = .ok (.istore 6, 2) := by decide +kernel
theorem dX1_putMove_9 : decode cX1_putMove 9 = .ok (.aload_n 0, 1) := by decide +kernel
theorem dX1_putMove_10 : decode cX1_putMove 10 = .ok (.getfield 26, 3) := by decide +kernel
theorem dX1_putMove_13 : decode cX1_putMove 13 = .ok (.iload 6, 2) := by decide +kernel
theorem dX1_putMove_15 : decode cX1_putMove 15 = .ok (.iconst 0, 1) := by decide +kernel
theorem dX1_putMove_16 : decode cX1_putMove 16 = .ok (.iload_n 1, 1) := by decide +kernel
theorem dX1_putMove_17 : decode cX1_putMove 17 = .ok (.invokevirtual 82, 3) := by decide +kernel
theorem dX1_putMove_20 : decode cX1_putMove 20 = .ok (.aload_n 0, 1) := by decide +kernel
theorem dX1_putMove_21 : decode cX1_putMove 21 = .ok (.getfield 26, 3) := by decide +kernel
theorem dX1_putMove_24 : decode cX1_putMove 24 = .ok (.iload 6, 2) := by decide +kernel
theorem dX1_putMove_26 : decode cX1_putMove 26 = .ok (.iconst 1, 1) := by decide +kernel
theorem dX1_putMove_27 : decode cX1_putMove 27 = .ok (.iload_n 2, 1) := by decide +kernel
theorem dX1_putMove_28 : decode cX1_putMove 28 = .ok (.invokevirtual 82, 3) := by decide +kernel
theorem dX1_putMove_31 : decode cX1_putMove 31 = .ok (.aload_n 0, 1) := by decide +kernel
theorem dX1_putMove_32 : decode cX1_putMove 32 = .ok (.getfield 26, 3) := by decide +kernel
theorem dX1_putMove_35 : decode cX1_putMove 35 = .ok (.iload 6, 2) := by decide +kernel
theorem dX1_putMove_37 : decode cX1_putMove 37 = .ok (.iconst 2, 1) := by decide +kernel
theorem dX1_putMove_38 : decode cX1_putMove 38 = .ok (.iload_n 3, 1) := by decide +kernel
theorem dX1_putMove_39 : decode cX1_putMove 39 = .ok (.invokevirtual 82, 3) := by decide +kernel
theorem dX1_putMove_42 : decode cX1_putMove 42 = .ok (.aload_n 0, 1) := by decide +kernel
theorem dX1_putMove_43 : decode cX1_putMove 43 = .ok (.getfield 26, 3) := by decide +kernel
theorem dX1_putMove_46 : decode cX1_putMove 46 = .ok (.iload 6, 2) := by decide +kernel
theorem dX1_putMove_48 : decode cX1_putMove 48 = .ok (.iconst 3, 1) := by decide +kernel
theorem dX1_putMove_49 : decode cX1_putMove 49 = .ok (.iload 4, 2) := by decide +kernel
theorem dX1_putMove_51 : decode cX1_putMove 51 = .ok (.invokevirtual 82, 3) := by decide +kernel
theorem dX1_putMove_54 : decode cX1_putMove 54 = .ok (.aload_n 0, 1) := by decide +kernel
theorem dX1_putMove_55 : decode cX1_putMove 55 = .ok (.getfield 26, 3) := by decide +kernel
theorem dX1_putMove_58 : decode cX1_putMove 58 = .ok (.iload 6, 2) := by decide +kernel
theorem dX1_putMove_60 : decode cX1_putMove 60 = .ok (.iconst 4, 1) := by decide +kernel
theorem dX1_putMove_61 : decode cX1_putMove 61 = .ok (.iload 5, 2) := by decide +kernel
theorem dX1_putMove_63 : decode cX1_putMove 63 = .ok (.invokevirtual 82, 3) := by decide +kernel
theorem dX1_putMove_66 : decode cX1_putMove 66 = .ok (.iload 6, 2) := by decide +kernel
theorem dX1_putMove_68 : decode cX1_putMove 68 = .ok (.ireturn, 1) := by decide +kernel
theorem dX1_nextMoveUpTo_0 : decode cX1_nextMoveUpTo 0 = .ok (.bipush (-5), 2) := by decide +kernel
theorem dX1_nextMoveUpTo_2 : decode cX1_nextMoveUpTo 2 = .ok (.istore_n 2, 1) := by decide +kernel
theorem dX1_nextMoveUpTo_3 : decode cX1_nextMoveUpTo 3 = .ok (.iload_n 1, 1) := by decide +kernel
theorem dX1_nextMoveUpTo_4 : decode cX1_nextMoveUpTo 4 = .ok (.iconst 1, 1) := by decide +kernel
theorem dX1_nextMoveUpTo_5 : decode cX1_nextMoveUpTo 5 = .ok (.iadd, 1) := by decide +kernel
theorem dX1_nextMoveUpTo_6 : decode cX1_nextMoveUpTo 6 = .ok (.istore_n 3, 1) := by decide +kernel
theorem dX1_nextMoveUpTo_7 : decode cX1_nextMoveUpTo 7 = .ok (.iconst 0, 1) := by decide +kernel
theorem dX1_nextMoveUpTo_8 : decode cX1_nextMoveUpTo 8 = .ok (.istore 4, 2) := by decide +kernel
theorem dX1_nextMoveUpTo_10 : decode cX1_nextMoveUpTo 10 = .ok (.iload 4, 2) := by decide +kernel
theorem dX1_nextMoveUpTo_12 : decode cX1_nextMoveUpTo 12 = .ok (.aload_n 0, 1) := by decide +kernel
theorem dX1_nextMoveUpTo_13 : decode cX1_nextMoveUpTo 13 = .ok (.getfield 26, 3) := by decide +kernel
theorem dX1_nextMoveUpTo_16 : decode cX1_nextMoveUpTo 16 = .ok (.invokevirtual 66, 3) := by decide +kernel
theorem dX1_nextMoveUpTo_19 : decode cX1_nextMoveUpTo 19 = .ok (.if_icmp .ge 37, 3) := by decide +kernel
theorem dX1_nextMoveUpTo_22 : decode cX1_nextMoveUpTo 22 = .ok (.aload_n 0, 1) := by decide +kernel
theorem dX1_nextMoveUpTo_23 : decode cX1_nextMoveUpTo 23 = .ok (.getfield 26, 3) := by decide +kernel
theorem dX1_nextMoveUpTo_26 : decode cX1_nextMoveUpTo 26 = .ok (.iload 4, 2) := by decide +kernel
theorem dX1_nextMoveUpTo_28 : decode cX1_nextMoveUpTo 28 = .ok (.iconst 4, 1) := by decide +kernel
theorem dX1_nextMoveUpTo_29 : decode cX1_nextMoveUpTo 29 = .ok (.invokevirtual 70, 3) := by decide +kernel
theorem dX1_nextMoveUpTo_32 : decode cX1_nextMoveUpTo 32 = .ok (.iload_n 3, 1) := by decide +kernel
theorem dX1_nextMoveUpTo_33 : decode cX1_nextMoveUpTo 33 = .ok (.if_icmp .ge 17, 3) := by decide +kernel
theorem dX1_nextMoveUpTo_36 : decode cX1_nextMoveUpTo 36 = .ok (.iload 4, 2) := by decide +kernel
theorem dX1_nextMoveUpTo_38 : decode cX1_nextMoveUpTo 38 = .ok (.istore_n 2, 1) := by decide +kernel
theorem dX1_nextMoveUpTo_39 : decode cX1_nextMoveUpTo 39 = .ok (.aload_n 0, 1) := by decide +kernel
theorem dX1_nextMoveUpTo_40 : decode cX1_nextMoveUpTo 40 = .ok (.getfield 26, 3) := by decide +kernel
theorem dX1_nextMoveUpTo_43 : decode cX1_nextMoveUpTo 43 = .ok (.iload 4, 2) := by decide +kernel
theorem dX1_nextMoveUpTo_45 : decode cX1_nextMoveUpTo 45 = .ok (.iconst 4, 1) := by decide +kernel
theorem dX1_nextMoveUpTo_46 : decode cX1_nextMoveUpTo 46 = .ok (.invokevirtual 70, 3) := by decide +kernel
theorem dX1_nextMoveUpTo_49 : decode cX1_nextMoveUpTo 49 = .ok (.istore_n 3, 1) := by decide +kernel
theorem dX1_nextMoveUpTo_50 : decode cX1_nextMoveUpTo 50 = .ok (.iinc 4 1, 3) := by decide +kernel
theorem dX1_nextMoveUpTo_53 : decode cX1_nextMoveUpTo 53 = .ok (.goto (-43), 3) := by decide +kernel
theorem dX1_nextMoveUpTo_56 : decode cX1_nextMoveUpTo 56 = .ok (.iload_n 2, 1) := by decide +kernel
theorem dX1_nextMoveUpTo_57 : decode cX1_nextMoveUpTo 57 = .ok (.ireturn, 1) := by decide +kernel
theorem dX1_closeMovesUpTo_0 : decode cX1_closeMovesUpTo 0 = .ok (.iconst 0, 1) := by decide +kernel
theorem dX1_closeMovesUpTo_1 : decode cX1_closeMovesUpTo 1 = .ok (.istore_n 2, 1) := by decide +kernel
theorem dX1_closeMovesUpTo_2 : decode cX1_closeMovesUpTo 2 = .ok (.iload_n 2, 1) := by decide +kernel
theorem dX1_closeMovesUpTo_3 : decode cX1_closeMovesUpTo 3 = .ok (.bipush 10, 2) := by decide +kernel
theorem dX1_closeMovesUpTo_5 : decode cX1_closeMovesUpTo 5 = .ok (.if_icmp .ge 27, 3) := by decide +kernel
theorem dX1_closeMovesUpTo_8 : decode cX1_closeMovesUpTo 8 = .ok (.aload_n 0, 1) := by decide +kernel
theorem dX1_closeMovesUpTo_9 : decode cX1_closeMovesUpTo 9 = .ok (.iload_n 1, 1) := by decide +kernel
theorem dX1_closeMovesUpTo_10 : decode cX1_closeMovesUpTo 10 = .ok (.invokevirtual 112, 3) := by decide +kernel
theorem dX1_closeMovesUpTo_13 : decode cX1_closeMovesUpTo 13 = .ok (.istore_n 3, 1) := by decide +kernel
theorem dX1_closeMovesUpTo_14 : decode cX1_closeMovesUpTo 14 = .ok (.iload_n 3, 1) := by decide +kernel
theorem dX1_closeMovesUpTo_15 : decode cX1_closeMovesUpTo 15 = .ok (.bipush (-5), 2) := by decide +kernel
theorem dX1_closeMovesUpTo_17 : decode cX1_closeMovesUpTo 17 = .ok (.if_icmp .ne 4, 3) := by decide +kernel
theorem dX1_closeMovesUpTo_20 : decode cX1_closeMovesUpTo 20 = .ok (.return_, 1) := by decide +kernel
theorem dX1_closeMovesUpTo_21 : decode cX1_closeMovesUpTo 21 = .ok (.aload_n 0, 1) := by decide +kernel
theorem dX1_closeMovesUpTo_22 : decode cX1_closeMovesUpTo 22 = .ok (.iload_n 3, 1) := by decide +kernel
theorem dX1_closeMovesUpTo_23 : decode cX1_closeMovesUpTo 23 = .ok (.invokevirtual 115, 3) := by decide +kernel
theorem dX1_closeMovesUpTo_26 : decode cX1_closeMovesUpTo 26 = .ok (.iinc 2 1, 3) := by decide +kernel
theorem dX1_closeMovesUpTo_29 : decode cX1_closeMovesUpTo 29 = .ok (.goto (-27), 3) := by decide +kernel
theorem dX1_closeMovesUpTo_32 : decode cX1_closeMovesUpTo 32 = .ok (.return_, 1) := by decide +kernel
theorem dX1_closeMove_0 : decode cX1_closeMove 0 = .ok (.aload_n 0, 1) := by decide +kernel
theorem dX1_closeMove_1 : decode cX1_closeMove 1 = .ok (.getfield 26, 3) := by decide +kernel
theorem dX1_closeMove_4 : decode cX1_closeMove 4 = .ok (.iload_n 1, 1) := by decide +kernel
theorem dX1_closeMove_5 : decode cX1_closeMove 5 = .ok (.iconst 0, 1) := by decide +kernel
theorem dX1_closeMove_6 : decode cX1_closeMove 6 = .ok (.invokevirtual 70, 3) := by decide +kernel
theorem dX1_closeMove_9 : decode cX1_closeMove 9 = .ok (.istore_n 2, 1) := by decide +kernel
theorem dX1_closeMove_10 : decode cX1_closeMove 10 = .ok (.aload_n 0, 1) := by decide +kernel
theorem dX1_closeMove_11 : decode cX1_closeMove 11 = .ok (.getfield 26, 3) := by decide +kernel
theorem dX1_closeMove_14 : decode cX1_closeMove 14 = .ok (.iload_n 1, 1) := by decide +kernel
theorem dX1_closeMove_15 : decode cX1_closeMove 15 = .ok (.iconst 1, 1) := by decide +kernel
theorem dX1_closeMove_16 : decode cX1_closeMove 16 = .ok (.invokevirtual 70, 3) := by decide +kernel
theorem dX1_closeMove_19 : decode cX1_closeMove 19 = .ok (.istore_n 3, 1) := by decide +kernel
theorem dX1_closeMove_20 : decode cX1_closeMove 20 = .ok (.aload_n 0, 1) := by decide +kernel
theorem dX1_closeMove_21 : decode cX1_closeMove 21 = .ok (.getfield 26, 3) := by decide +kernel
theorem dX1_closeMove_24 : decode cX1_closeMove 24 = .ok (.iload_n 1, 1) := by decide +kernel
theorem dX1_closeMove_25 : decode cX1_closeMove 25 = .ok (.iconst 2, 1) := by decide +kernel
theorem dX1_closeMove_26 : decode cX1_closeMove 26 = .ok (.invokevirtual 70, 3) := by decide +kernel
theorem dX1_closeMove_29 : decode cX1_closeMove 29 = .ok (.istore 4, 2) := by decide +kernel
theorem dX1_closeMove_31 : decode cX1_closeMove 31 = .ok (.aload_n 0, 1) := by decide +kernel
theorem dX1_closeMove_32 : decode cX1_closeMove 32 = .ok (.getfield 26, 3) := by decide +kernel
theorem dX1_closeMove_35 : decode cX1_closeMove 35 = .ok (.iload_n 1, 1) := by decide +kernel
theorem dX1_closeMove_36 : decode cX1_closeMove 36 = .ok (.iconst 3, 1) := by decide +kernel
theorem dX1_closeMove_37 : decode cX1_closeMove 37 = .ok (.invokevirtual 70, 3) := by decide +kernel
theorem dX1_closeMove_40 : decode cX1_closeMove 40 = .ok (.istore 5, 2) := by decide +kernel
theorem dX1_closeMove_42 : decode cX1_closeMove 42 = .ok (.aload_n 0, 1) := by decide +kernel
theorem dX1_closeMove_43 : decode cX1_closeMove 43 = .ok (.getfield 26, 3) := by decide +kernel
theorem dX1_closeMove_46 : decode cX1_closeMove 46 = .ok (.iload_n 1, 1) := by decide +kernel
theorem dX1_closeMove_47 : decode cX1_closeMove 47 = .ok (.invokevirtual 119, 3) := by decide +kernel
theorem dX1_closeMove_50 : decode cX1_closeMove 50 = .ok (.aload_n 0, 1) := by decide +kernel
theorem dX1_closeMove_51 : decode cX1_closeMove 51 = .ok (.getfield 14, 3) := by decide +kernel
theorem dX1_closeMove_54 : decode cX1_closeMove 54 = .ok (.iload_n 3, 1) := by decide +kernel
theorem dX1_closeMove_55 : decode cX1_closeMove 55 = .ok (.iconst 1, 1) := by decide +kernel
theorem dX1_closeMove_56 : decode cX1_closeMove 56 = .ok (.invokevirtual 70, 3) := by decide +kernel
theorem dX1_closeMove_59 : decode cX1_closeMove 59 = .ok (.iload 5, 2) := by decide +kernel
theorem dX1_closeMove_61 : decode cX1_closeMove 61 = .ok (.if_icmp .lt 21, 3) := by decide +kernel
theorem dX1_closeMove_64 : decode cX1_closeMove 64 = .ok (.aload_n 0, 1) := by decide +kernel
theorem dX1_closeMove_65 : decode cX1_closeMove 65 = .ok (.getfield 14, 3) := by decide +kernel
theorem dX1_closeMove_68 : decode cX1_closeMove 68 = .ok (.iload 4, 2) := by decide +kernel
theorem dX1_closeMove_70 : decode cX1_closeMove 70 = .ok (.iconst 1, 1) := by decide +kernel
theorem dX1_closeMove_71 : decode cX1_closeMove 71 = .ok (.invokevirtual 70, 3) := by decide +kernel
theorem dX1_closeMove_74 : decode cX1_closeMove 74 = .ok (.iload 5, 2) := by decide +kernel
theorem dX1_closeMove_76 : decode cX1_closeMove 76 = .ok (.iadd, 1) := by decide +kernel
theorem dX1_closeMove_77 : decode cX1_closeMove 77 = .ok (.bipush 12, 2) := by decide +kernel
theorem dX1_closeMove_79 : decode cX1_closeMove 79 = .ok (.if_icmp .le 20, 3) := by decide +kernel
theorem dX1_closeMove_82 : decode cX1_closeMove 82 = .ok (.aload_n 0, 1) := by decide +kernel
theorem dX1_closeMove_83 : decode cX1_closeMove 83 = .ok (.iload_n 2, 1) := by decide +kernel
theorem dX1_closeMove_84 : decode cX1_closeMove 84 = .ok (.iconst 5, 1) := by decide +kernel
theorem dX1_closeMove_85 : decode cX1_closeMove 85 = .ok (.invokevirtual 122, 3) := by decide +kernel
theorem dX1_closeMove_88 : decode cX1_closeMove 88 = .ok (.aload_n 0, 1) := by decide +kernel
theorem dX1_closeMove_89 : decode cX1_closeMove 89 = .ok (.dup, 1) := by decide +kernel
theorem dX1_closeMove_90 : decode cX1_closeMove 90 = .ok (.getfield 56, 3) := by decide +kernel
theorem dX1_closeMove_93 : decode cX1_closeMove 93 = .ok (.iconst 1, 1) := by decide +kernel
theorem dX1_closeMove_94 : decode cX1_closeMove 94 = .ok (.iadd, 1) := by decide +kernel
theorem dX1_closeMove_95 : decode cX1_closeMove 95 = .ok (.putfield 56, 3) := by decide +kernel
theorem dX1_closeMove_98 : decode cX1_closeMove 98 = .ok (.return_, 1) := by decide +kernel
theorem dX1_closeMove_99 : decode cX1_closeMove 99 = .ok (.aload_n 0, 1) := by decide +kernel
theorem dX1_closeMove_100 : decode cX1_closeMove 100 = .ok (.getfield 14, 3) := by decide +kernel
theorem dX1_closeMove_103 : decode cX1_closeMove 103 = .ok (.iload_n 3, 1) := by decide +kernel
theorem dX1_closeMove_104 : decode cX1_closeMove 104 = .ok (.iconst 1, 1) := by decide +kernel
theorem dX1_closeMove_105 : decode cX1_closeMove 105 = .ok (.iload 5, 2) := by decide +kernel
theorem dX1_closeMove_107 : decode cX1_closeMove 107 = .ok (.ineg, 1) := by decide +kernel
theorem dX1_closeMove_108 : decode cX1_closeMove 108 = .ok (.invokevirtual 95, 3) := by decide +kernel
theorem dX1_closeMove_111 : decode cX1_closeMove 111 = .ok (.aload_n 0, 1) := by decide +kernel
theorem dX1_closeMove_112 : decode cX1_closeMove 112 = .ok (.getfield 14, 3) := by decide +kernel
theorem dX1_closeMove_115 : decode cX1_closeMove 115 = .ok (.iload 4, 2) := by decide +kernel
theorem dX1_closeMove_117 : decode cX1_closeMove 117 = .ok (.iconst 1, 1) := by decide +kernel
theorem dX1_closeMove_118 : decode cX1_closeMove 118 = .ok (.iload 5, 2) := by decide +kernel
theorem dX1_closeMove_120 : decode cX1_closeMove 120 = .ok (.invokevirtual 95, 3) := by decide +kernel
theorem dX1_closeMove_123 : decode cX1_closeMove 123 = .ok (.aload_n 0, 1) := by decide +kernel
theorem dX1_closeMove_124 : decode cX1_closeMove 124 = .ok (.getfield 14, 3) := by decide +kernel
theorem dX1_closeMove_127 : decode cX1_closeMove 127 = .ok (.iload_n 3, 1) := by decide +kernel
theorem dX1_closeMove_128 : decode cX1_closeMove 128 = .ok (.iconst 2, 1) := by decide +kernel
theorem dX1_closeMove_129 : decode cX1_closeMove 129 = .ok (.iload_n 2, 1) := by decide +kernel
theorem dX1_closeMove_130 : decode cX1_closeMove 130 = .ok (.invokevirtual 82, 3) := by decide +kernel
theorem dX1_closeMove_133 : decode cX1_closeMove 133 = .ok (.aload_n 0, 1) := by decide +kernel
theorem dX1_closeMove_134 : decode cX1_closeMove 134 = .ok (.iload_n 2, 1) := by decide +kernel
theorem dX1_closeMove_135 : decode cX1_closeMove 135 = .ok (.iconst 5, 1) := by decide +kernel
theorem dX1_closeMove_136 : decode cX1_closeMove 136 = .ok (.iconst 2, 1) := by decide +kernel
theorem dX1_closeMove_137 : decode cX1_closeMove 137 = .ok (.iload 5, 2) := by decide +kernel
theorem dX1_closeMove_139 : decode cX1_closeMove 139 = .ok (.imul, 1) := by decide +kernel
theorem dX1_closeMove_140 : decode cX1_closeMove 140 = .ok (.iadd, 1) := by decide +kernel
theorem dX1_closeMove_141 : decode cX1_closeMove 141 = .ok (.invokevirtual 122, 3) := by decide +kernel
theorem dX1_closeMove_144 : decode cX1_closeMove 144 = .ok (.aload_n 0, 1) := by decide +kernel
theorem dX1_closeMove_145 : decode cX1_closeMove 145 = .ok (.dup, 1) := by decide +kernel
theorem dX1_closeMove_146 : decode cX1_closeMove 146 = .ok (.getfield 53, 3) := by decide +kernel
theorem dX1_closeMove_149 : decode cX1_closeMove 149 = .ok (.iconst 1, 1) := by decide +kernel
theorem dX1_closeMove_150 : decode cX1_closeMove 150 = .ok (.iadd, 1) := by decide +kernel
theorem dX1_closeMove_151 : decode cX1_closeMove 151 = .ok (.putfield 53, 3) := by decide +kernel
theorem dX1_closeMove_154 : decode cX1_closeMove 154 = .ok (.return_, 1) := by decide +kernel
theorem dX1_passHalfDay_0 : decode cX1_passHalfDay 0 = .ok (.aload_n 0, 1) := by decide +kernel
theorem dX1_passHalfDay_1 : decode cX1_passHalfDay 1 = .ok (.aload_n 0, 1) := by decide +kernel
theorem dX1_passHalfDay_2 : decode cX1_passHalfDay 2 = .ok (.getfield 49, 3) := by decide +kernel
theorem dX1_passHalfDay_5 : decode cX1_passHalfDay 5 = .ok (.invokevirtual 125, 3) := by decide +kernel
theorem dX1_passHalfDay_8 : decode cX1_passHalfDay 8 = .ok (.iconst 0, 1) := by decide +kernel
theorem dX1_passHalfDay_9 : decode cX1_passHalfDay 9 = .ok (.istore_n 1, 1) := by decide +kernel
theorem dX1_passHalfDay_10 : decode cX1_passHalfDay 10 = .ok (.iconst 0, 1) := by decide +kernel
theorem dX1_passHalfDay_11 : decode cX1_passHalfDay 11 = .ok (.istore_n 2, 1) := by decide +kernel
theorem dX1_passHalfDay_12 : decode cX1_passHalfDay 12 = .ok (.iload_n 2, 1) := by decide +kernel
theorem dX1_passHalfDay_13 : decode cX1_passHalfDay 13 = .ok (.aload_n 0, 1) := by decide +kernel
theorem dX1_passHalfDay_14 : decode cX1_passHalfDay 14 = .ok (.getfield 23, 3) := by decide +kernel
theorem dX1_passHalfDay_17 : decode cX1_passHalfDay 17 = .ok (.invokevirtual 66, 3) := by decide +kernel
theorem dX1_passHalfDay_20 : decode cX1_passHalfDay 20 = .ok (.if_icmp .ge 60, 3) := by decide +kernel
theorem dX1_passHalfDay_23 : decode cX1_passHalfDay 23 = .ok (.aload_n 0, 1) := by decide +kernel
theorem dX1_passHalfDay_24 : decode cX1_passHalfDay 24 = .ok (.iload_n 2, 1) := by decide +kernel
theorem dX1_passHalfDay_25 : decode cX1_passHalfDay 25 = .ok (.invokevirtual 128, 3) := by decide +kernel
theorem dX1_passHalfDay_28 : decode cX1_passHalfDay 28 = .ok (.ifCond .eq 46, 3) := by decide +kernel
theorem dX1_passHalfDay_31 : decode cX1_passHalfDay 31 = .ok (.aload_n 0, 1) := by decide +kernel
theorem dX1_passHalfDay_32 : decode cX1_passHalfDay 32 = .ok (.getfield 23, 3) := by decide +kernel
theorem dX1_passHalfDay_35 : decode cX1_passHalfDay 35 = .ok (.iload_n 2, 1) := by decide +kernel
theorem dX1_passHalfDay_36 : decode cX1_passHalfDay 36 = .ok (.iconst 2, 1) := by decide +kernel
theorem dX1_passHalfDay_37 : decode cX1_passHalfDay 37 = .ok (.invokevirtual 70, 3) := by decide +kernel
theorem dX1_passHalfDay_40 : decode cX1_passHalfDay 40 = .ok (.aload_n 0, 1) := by decide +kernel
theorem dX1_passHalfDay_41 : decode cX1_passHalfDay 41 = .ok (.getfield 49, 3) := by decide +kernel
theorem dX1_passHalfDay_44 : decode cX1_passHalfDay 44 = .ok (.if_icmp .eq 6, 3) := by decide +kernel
theorem dX1_passHalfDay_47 : decode cX1_passHalfDay 47 = .ok (.goto 27, 3) := by decide +kernel
theorem dX1_passHalfDay_50 : decode cX1_passHalfDay 50 = .ok (.aload_n 0, 1) := by decide +kernel
theorem dX1_passHalfDay_51 : decode cX1_passHalfDay 51 = .ok (.iload_n 2, 1) := by decide +kernel
theorem dX1_passHalfDay_52 : decode cX1_passHalfDay 52 = .ok (.invokevirtual 131, 3) := by decide +kernel
theorem dX1_passHalfDay_55 : decode cX1_passHalfDay 55 = .ok (.ifCond .eq 11, 3) := by decide +kernel
theorem dX1_passHalfDay_58 : decode cX1_passHalfDay 58 = .ok (.aload_n 0, 1) := by decide +kernel
theorem dX1_passHalfDay_59 : decode cX1_passHalfDay 59 = .ok (.iload_n 2, 1) := by decide +kernel
theorem dX1_passHalfDay_60 : decode cX1_passHalfDay 60 = .ok (.invokevirtual 134, 3) := by decide +kernel
theorem dX1_passHalfDay_63 : decode cX1_passHalfDay 63 = .ok (.goto 11, 3) := by decide +kernel
theorem dX1_passHalfDay_66 : decode cX1_passHalfDay 66 = .ok (.aload_n 0, 1) := by decide +kernel
theorem dX1_passHalfDay_67 : decode cX1_passHalfDay 67 = .ok (.iload_n 2, 1) := by decide +kernel
theorem dX1_passHalfDay_68 : decode cX1_passHalfDay 68 = .ok (.invokevirtual 137, 3) := by decide +kernel
theorem dX1_passHalfDay_71 : decode cX1_passHalfDay 71 = .ok (.iinc 1 1, 3) := by decide +kernel
theorem dX1_passHalfDay_74 : decode cX1_passHalfDay 74 = .ok (.iinc 2 1, 3) := by decide +kernel
theorem dX1_passHalfDay_77 : decode cX1_passHalfDay 77 = .ok (.goto (-65), 3) := by decide +kernel
theorem dX1_passHalfDay_80 : decode cX1_passHalfDay 80 = .ok (.aload_n 0, 1) := by decide +kernel
theorem dX1_passHalfDay_81 : decode cX1_passHalfDay 81 = .ok (.dup, 1) := by decide +kernel
theorem dX1_passHalfDay_82 : decode cX1_passHalfDay 82 = .ok (.getfield 49, 3) := by decide +kernel
theorem dX1_passHalfDay_85 : decode cX1_passHalfDay 85 = .ok (.iconst 1, 1) := by decide +kernel
theorem dX1_passHalfDay_86 : decode cX1_passHalfDay 86 = .ok (.iadd, 1) := by decide +kernel
theorem dX1_passHalfDay_87 : decode cX1_passHalfDay 87 = .ok (.putfield 49, 3) := by decide +kernel
theorem dX1_passHalfDay_90 : decode cX1_passHalfDay 90 = .ok (.iload_n 1, 1) := by decide +kernel
theorem dX1_passHalfDay_91 : decode cX1_passHalfDay 91 = .ok (.ireturn, 1) := by decide +kernel
theorem dX1_lift_0 : decode cX1_lift 0 = .ok (.aload_n 0, 1) := by decide +kernel
theorem dX1_lift_1 : decode cX1_lift 1 = .ok (.getfield 23, 3) := by decide +kernel
theorem dX1_lift_4 : decode cX1_lift 4 = .ok (.iload_n 1, 1) := by decide +kernel
theorem dX1_lift_5 : decode cX1_lift 5 = .ok (.iconst 5, 1) := by decide +kernel
theorem dX1_lift_6 : decode cX1_lift 6 = .ok (.iconst 1, 1) := by decide +kernel
theorem dX1_lift_7 : decode cX1_lift 7 = .ok (.invokevirtual 82, 3) := by decide +kernel
theorem dX1_lift_10 : decode cX1_lift 10 = .ok (.aload_n 0, 1) := by decide +kernel
theorem dX1_lift_11 : decode cX1_lift 11 = .ok (.aload_n 0, 1) := by decide +kernel
theorem dX1_lift_12 : decode cX1_lift 12 = .ok (.getfield 23, 3) := by decide +kernel
theorem dX1_lift_15 : decode cX1_lift 15 = .ok (.iload_n 1, 1) := by decide +kernel
theorem dX1_lift_16 : decode cX1_lift 16 = .ok (.iconst 0, 1) := by decide +kernel
theorem dX1_lift_17 : decode cX1_lift 17 = .ok (.invokevirtual 70, 3) := by decide +kernel
theorem dX1_lift_20 : decode cX1_lift 20 = .ok (.bipush 30, 2) := by decide +kernel
theorem dX1_lift_22 : decode cX1_lift 22 = .ok (.invokevirtual 122, 3) := by decide +kernel
theorem dX1_lift_25 : decode cX1_lift 25 = .ok (.return_, 1) := by decide +kernel
theorem dX1_standBy_0 : decode cX1_standBy 0 = .ok (.aload_n 0, 1) := by decide +kernel
theorem dX1_standBy_1 : decode cX1_standBy 1 = .ok (.iload_n 1, 1) := by decide +kernel
theorem dX1_standBy_2 : decode cX1_standBy 2 = .ok (.invokevirtual 140, 3) := by decide +kernel
theorem dX1_standBy_5 : decode cX1_standBy 5 = .ok (.istore_n 2, 1) := by decide +kernel
theorem dX1_standBy_6 : decode cX1_standBy 6 = .ok (.iload_n 2, 1) := by decide +kernel
theorem dX1_standBy_7 : decode cX1_standBy 7 = .ok (.bipush (-5), 2) := by decide +kernel
theorem dX1_standBy_9 : decode cX1_standBy 9 = .ok (.if_icmp .ne 16, 3) := by decide +kernel
theorem dX1_standBy_12 : decode cX1_standBy 12 = .ok (.aload_n 0, 1) := by decide +kernel
theorem dX1_standBy_13 : decode cX1_standBy 13 = .ok (.dup, 1) := by decide +kernel
theorem dX1_standBy_14 : decode cX1_standBy 14 = .ok (.getfield 59, 3) := by decide +kernel
theorem dX1_standBy_17 : decode cX1_standBy 17 = .ok (.iconst 1, 1) := by decide +kernel
theorem dX1_standBy_18 : decode cX1_standBy 18 = .ok (.iadd, 1) := by decide +kernel
theorem dX1_standBy_19 : decode cX1_standBy 19 = .ok (.putfield 59, 3) := by decide +kernel
theorem dX1_standBy_22 : decode cX1_standBy 22 = .ok (.goto 20, 3) := by decide +kernel
theorem dX1_standBy_25 : decode cX1_standBy 25 = .ok (.aload_n 0, 1) := by decide +kernel
theorem dX1_standBy_26 : decode cX1_standBy 26 = .ok (.getfield 20, 3) := by decide +kernel
theorem dX1_standBy_29 : decode cX1_standBy 29 = .ok (.iload_n 2, 1) := by decide +kernel
theorem dX1_standBy_30 : decode cX1_standBy 30 = .ok (.iconst 1, 1) := by decide +kernel
theorem dX1_standBy_31 : decode cX1_standBy 31 = .ok (.iconst 1, 1) := by decide +kernel
theorem dX1_standBy_32 : decode cX1_standBy 32 = .ok (.invokevirtual 95, 3) := by decide +kernel
theorem dX1_standBy_35 : decode cX1_standBy 35 = .ok (.aload_n 0, 1) := by decide +kernel
theorem dX1_standBy_36 : decode cX1_standBy 36 = .ok (.iload_n 2, 1) := by decide +kernel
theorem dX1_standBy_37 : decode cX1_standBy 37 = .ok (.bipush 8, 2) := by decide +kernel
theorem dX1_standBy_39 : decode cX1_standBy 39 = .ok (.invokevirtual 122, 3) := by decide +kernel
theorem dX1_standBy_42 : decode cX1_standBy 42 = .ok (.aload_n 0, 1) := by decide +kernel
theorem dX1_standBy_43 : decode cX1_standBy 43 = .ok (.getfield 23, 3) := by decide +kernel
theorem dX1_standBy_46 : decode cX1_standBy 46 = .ok (.iload_n 1, 1) := by decide +kernel
theorem dX1_standBy_47 : decode cX1_standBy 47 = .ok (.bipush 7, 2) := by decide +kernel
theorem dX1_standBy_49 : decode cX1_standBy 49 = .ok (.iconst 1, 1) := by decide +kernel
theorem dX1_standBy_50 : decode cX1_standBy 50 = .ok (.invokevirtual 95, 3) := by decide +kernel
theorem dX1_standBy_53 : decode cX1_standBy 53 = .ok (.aload_n 0, 1) := by decide +kernel
theorem dX1_standBy_54 : decode cX1_standBy 54 = .ok (.iload_n 1, 1) := by decide +kernel
theorem dX1_standBy_55 : decode cX1_standBy 55 = .ok (.invokevirtual 143, 3) := by decide +kernel
theorem dX1_standBy_58 : decode cX1_standBy 58 = .ok (.return_, 1) := by decide +kernel
theorem dX1_carryOver_0 : decode cX1_carryOver 0 = .ok (.aload_n 0, 1) := by decide +kernel
theorem dX1_carryOver_1 : decode cX1_carryOver 1 = .ok (.getfield 23, 3) := by decide +kernel
theorem dX1_carryOver_4 : decode cX1_carryOver 4 = .ok (.iload_n 1, 1) := by decide +kernel
theorem dX1_carryOver_5 : decode cX1_carryOver 5 = .ok (.iconst 1, 1) := by decide +kernel
theorem dX1_carryOver_6 : decode cX1_carryOver 6 = .ok (.invokevirtual 70, 3) := by decide +kernel
theorem dX1_carryOver_9 : decode cX1_carryOver 9 = .ok (.istore_n 2, 1) := by decide +kernel
theorem dX1_carryOver_10 : decode cX1_carryOver 10 = .ok (.aload_n 0, 1) := by decide +kernel
theorem dX1_carryOver_11 : decode cX1_carryOver 11 = .ok (.getfield 49, 3) := by decide +kernel
theorem dX1_carryOver_14 : decode cX1_carryOver 14 = .ok (.bipush 9, 2) := by decide +kernel
theorem dX1_carryOver_16 : decode cX1_carryOver 16 = .ok (.iadd, 1) := by decide +kernel
theorem dX1_carryOver_17 : decode cX1_carryOver 17 = .ok (.sipush 199, 3) := by decide +kernel
theorem dX1_carryOver_20 : decode cX1_carryOver 20 = .ok (.invokestatic 37, 3) := by decide +kernel
theorem dX1_carryOver_23 : decode cX1_carryOver 23 = .ok (.istore_n 3, 1) := by decide +kernel
theorem dX1_carryOver_24 : decode cX1_carryOver 24 = .ok (.aload_n 0, 1) := by decide +kernel
theorem dX1_carryOver_25 : decode cX1_carryOver 25 = .ok (.getfield 49, 3) := by decide +kernel
theorem dX1_carryOver_28 : decode cX1_carryOver 28 = .ok (.iconst 1, 1) := by decide +kernel
theorem dX1_carryOver_29 : decode cX1_carryOver 29 = .ok (.iadd, 1) := by decide +kernel
theorem dX1_carryOver_30 : decode cX1_carryOver 30 = .ok (.istore 4, 2) := by decide +kernel
theorem dX1_carryOver_32 : decode cX1_carryOver 32 = .ok (.iload 4, 2) := by decide +kernel
theorem dX1_carryOver_34 : decode cX1_carryOver 34 = .ok (.iload_n 3, 1) := by decide +kernel
theorem dX1_carryOver_35 : decode cX1_carryOver 35 = .ok (.if_icmp .gt 30, 3) := by decide +kernel
theorem dX1_carryOver_38 : decode cX1_carryOver 38 = .ok (.aload_n 0, 1) := by decide +kernel
theorem dX1_carryOver_39 : decode cX1_carryOver 39 = .ok (.iload_n 2, 1) := by decide +kernel
theorem dX1_carryOver_40 : decode cX1_carryOver 40 = .ok (.iload 4, 2) := by decide +kernel
theorem dX1_carryOver_42 : decode cX1_carryOver 42 = .ok (.invokevirtual 92, 3) := by decide +kernel
theorem dX1_carryOver_45 : decode cX1_carryOver 45 = .ok (.bipush (-5), 2) := by decide +kernel
theorem dX1_carryOver_47 : decode cX1_carryOver 47 = .ok (.if_icmp .ne 12, 3) := by decide +kernel
theorem dX1_carryOver_50 : decode cX1_carryOver 50 = .ok (.aload_n 0, 1) := by decide +kernel
theorem dX1_carryOver_51 : decode cX1_carryOver 51 = .ok (.iload_n 1, 1) := by decide +kernel
theorem dX1_carryOver_52 : decode cX1_carryOver 52 = .ok (.iload_n 2, 1) := by decide +kernel
theorem dX1_carryOver_53 : decode cX1_carryOver 53 = .ok (.iload 4, 2) := by decide +kernel
theorem dX1_carryOver_55 : decode cX1_carryOver 55 = .ok (.invokevirtual 146, 3) := by decide +kernel
theorem dX1_carryOver_58 : decode cX1_carryOver 58 = .ok (.return_, 1) := by decide +kernel
theorem dX1_carryOver_59 : decode cX1_carryOver 59 = .ok (.iinc 4 1, 3) := by decide +kernel
theorem dX1_carryOver_62 : decode cX1_carryOver 62 = .ok (.goto (-30), 3) := by decide +kernel
theorem dX1_carryOver_65 : decode cX1_carryOver 65 = .ok (.aload_n 0, 1) := by decide +kernel
theorem dX1_carryOver_66 : decode cX1_carryOver 66 = .ok (.getfield 23, 3) := by decide +kernel
theorem dX1_carryOver_69 : decode cX1_carryOver 69 = .ok (.iload_n 1, 1) := by decide +kernel
theorem dX1_carryOver_70 : decode cX1_carryOver 70 = .ok (.iconst 5, 1) := by decide +kernel
theorem dX1_carryOver_71 : decode cX1_carryOver 71 = .ok (.iconst 2, 1) := by decide +kernel
theorem dX1_carryOver_72 : decode cX1_carryOver 72 = .ok (.invokevirtual 82, 3) := by decide +kernel
theorem dX1_carryOver_75 : decode cX1_carryOver 75 = .ok (.return_, 1) := by decide +kernel
theorem dX2_init_0 : decode cX2_init 0 = .ok (.aload_n 0, 1) := by decide +kernel
theorem dX2_init_1 : decode cX2_init 1 = .ok (.invokespecial 3, 3) := by decide +kernel
theorem dX2_init_4 : decode cX2_init 4 = .ok (.aload_n 0, 1) := by decide +kernel
theorem dX2_init_5 : decode cX2_init 5 = .ok (.iload_n 1, 1) := by decide +kernel
theorem dX2_init_6 : decode cX2_init 6 = .ok (.putfield 9, 3) := by decide +kernel
theorem dX2_init_9 : decode cX2_init 9 = .ok (.aload_n 0, 1) := by decide +kernel
theorem dX2_init_10 : decode cX2_init 10 = .ok (.iload_n 2, 1) := by decide +kernel
theorem dX2_init_11 : decode cX2_init 11 = .ok (.putfield 15, 3) := by decide +kernel
theorem dX2_init_14 : decode cX2_init 14 = .ok (.aload_n 0, 1) := by decide +kernel
theorem dX2_init_15 : decode cX2_init 15 = .ok (.iload_n 1, 1) := by decide +kernel
theorem dX2_init_16 : decode cX2_init 16 = .ok (.iload_n 2, 1) := by decide +kernel
theorem dX2_init_17 : decode cX2_init 17 = .ok (.imul, 1) := by decide +kernel
theorem dX2_init_18 : decode cX2_init 18 = .ok (.iconst 0, 1) := by decide +kernel
theorem dX2_init_19 : decode cX2_init 19 = .ok (.invokestatic 18, 3) := by decide +kernel
theorem dX2_init_22 : decode cX2_init 22 = .ok (.newarray .int, 2) := by decide +kernel
theorem dX2_init_24 : decode cX2_init 24 = .ok (.putfield 24, 3) := by decide +kernel
theorem dX2_init_27 : decode cX2_init 27 = .ok (.return_, 1) := by decide +kernel
theorem dX2_size_0 : decode cX2_size 0 = .ok (.aload_n 0, 1) := by decide +kernel
theorem dX2_size_1 : decode cX2_size 1 = .ok (.getfield 28, 3) := by decide +kernel
theorem dX2_size_4 : decode cX2_size 4 = .ok (.ireturn, 1) := by decide +kernel
theorem dX2_has_0 : decode cX2_has 0 = .ok (.iload_n 1, 1) := by decide +kernel
theorem dX2_has_1 : decode cX2_has 1 = .ok (.ifCond .lt 15, 3) := by decide +kernel
theorem dX2_has_4 : decode cX2_has 4 = .ok (.iload_n 1, 1) := by decide +kernel
theorem dX2_has_5 : decode cX2_has 5 = .ok (.aload_n 0, 1) := by decide +kernel
theorem dX2_has_6 : decode cX2_has 6 = .ok (.getfield 28, 3) := by decide +kernel
theorem dX2_has_9 : decode cX2_has 9 = .ok (.if_icmp .ge 7, 3) := by decide +kernel
theorem dX2_has_12 : decode cX2_has 12 = .ok (.iconst 1, 1) := by decide +kernel
theorem dX2_has_13 : decode cX2_has 13 = .ok (.goto 4, 3) := by decide +kernel
theorem dX2_has_16 : decode cX2_has 16 = .ok (.iconst 0, 1) := by decide +kernel
theorem dX2_has_17 : decode cX2_has 17 = .ok (.ireturn, 1) := by decide +kernel
theorem dX2_isFull_0 : decode cX2_isFull 0 = .ok (.aload_n 0, 1) := by decide +kernel
theorem dX2_isFull_1 : decode cX2_isFull 1 = .ok (.getfield 28, 3) := by decide +kernel
theorem dX2_isFull_4 : decode cX2_isFull 4 = .ok (.aload_n 0, 1) := by decide +kernel
theorem dX2_isFull_5 : decode cX2_isFull 5 = .ok (.getfield 9, 3) := by decide +kernel
theorem dX2_isFull_8 : decode cX2_isFull 8 = .ok (.if_icmp .lt 7, 3) := by decide +kernel
theorem dX2_isFull_11 : decode cX2_isFull 11 = .ok (.iconst 1, 1) := by decide +kernel
theorem dX2_isFull_12 : decode cX2_isFull 12 = .ok (.goto 4, 3) := by decide +kernel
theorem dX2_isFull_15 : decode cX2_isFull 15 = .ok (.iconst 0, 1) := by decide +kernel
theorem dX2_isFull_16 : decode cX2_isFull 16 = .ok (.ireturn, 1) := by decide +kernel
theorem dX2_get_0 : decode cX2_get 0 = .ok (.iload_n 1, 1) := by decide +kernel
theorem dX2_get_1 : decode cX2_get 1 = .ok (.aload_n 0, 1) := by decide +kernel
theorem dX2_get_2 : decode cX2_get 2 = .ok (.getfield 15, 3) := by decide +kernel
theorem dX2_get_5 : decode cX2_get 5 = .ok (.imul, 1) := by decide +kernel
theorem dX2_get_6 : decode cX2_get 6 = .ok (.iload_n 2, 1) := by decide +kernel
theorem dX2_get_7 : decode cX2_get 7 = .ok (.iadd, 1) := by decide +kernel
theorem dX2_get_8 : decode cX2_get 8 = .ok (.istore_n 3, 1) := by decide +kernel
theorem dX2_get_9 : decode cX2_get 9 = .ok (.iload_n 1, 1) := by decide +kernel
theorem dX2_get_10 : decode cX2_get 10 = .ok (.ifCond .lt 36, 3) := by decide +kernel
theorem dX2_get_13 : decode cX2_get 13 = .ok (.iload_n 1, 1) := by decide +kernel
theorem dX2_get_14 : decode cX2_get 14 = .ok (.aload_n 0, 1) := by decide +kernel
theorem dX2_get_15 : decode cX2_get 15 = .ok (.getfield 28, 3) := by decide +kernel
theorem dX2_get_18 : decode cX2_get 18 = .ok (.if_icmp .ge 28, 3) := by decide +kernel
theorem dX2_get_21 : decode cX2_get 21 = .ok (.iload_n 2, 1) := by decide +kernel
theorem dX2_get_22 : decode cX2_get 22 = .ok (.ifCond .lt 24, 3) := by decide +kernel
theorem dX2_get_25 : decode cX2_get 25 = .ok (.iload_n 2, 1) := by decide +kernel
theorem dX2_get_26 : decode cX2_get 26 = .ok (.aload_n 0, 1) := by decide +kernel
theorem dX2_get_27 : decode cX2_get 27 = .ok (.getfield 15, 3) := by decide +kernel
theorem dX2_get_30 : decode cX2_get 30 = .ok (.if_icmp .ge 16, 3) := by decide +kernel
theorem dX2_get_33 : decode cX2_get 33 = .ok (.iload_n 3, 1) := by decide +kernel
theorem dX2_get_34 : decode cX2_get 34 = .ok (.ifCond .lt 12, 3) := by decide +kernel
theorem dX2_get_37 : decode cX2_get 37 = .ok (.iload_n 3, 1) := by decide +kernel
theorem dX2_get_38 : decode cX2_get 38 = .ok (.aload_n 0, 1) := by decide +kernel
theorem dX2_get_39 : decode cX2_get 39 = .ok (.getfield 24, 3) := by decide +kernel
theorem dX2_get_42 : decode cX2_get 42 = .ok (.arraylength, 1) := by decide +kernel
theorem dX2_get_43 : decode cX2_get 43 = .ok (.if_icmp .lt 5, 3) := by decide +kernel
theorem dX2_get_46 : decode cX2_get 46 = .ok (.iconst 0, 1) := by decide +kernel
theorem dX2_get_47 : decode cX2_get 47 = .ok (.ireturn, 1) := by decide +kernel
theorem dX2_get_48 : decode cX2_get 48 = .ok (.aload_n 0, 1) := by decide +kernel
theorem dX2_get_49 : decode cX2_get 49 = .ok (.getfield 24, 3) := by decide +kernel
theorem dX2_get_52 : decode cX2_get 52 = .ok (.iload_n 3, 1) := by decide +kernel
theorem dX2_get_53 : decode cX2_get 53 = .ok (.iaload, 1) := by decide +kernel
theorem dX2_get_54 : decode cX2_get 54 = .ok (.ireturn, 1) := by decide +kernel
theorem dX2_set_0 : decode cX2_set 0 = .ok (.iload_n 1, 1) := by decide +kernel
theorem dX2_set_1 : decode cX2_set 1 = .ok (.aload_n 0, 1) := by decide +kernel
theorem dX2_set_2 : decode cX2_set 2 = .ok (.getfield 15, 3) := by decide +kernel
theorem dX2_set_5 : decode cX2_set 5 = .ok (.imul, 1) := by decide +kernel
theorem dX2_set_6 : decode cX2_set 6 = .ok (.iload_n 2, 1) := by decide +kernel
theorem dX2_set_7 : decode cX2_set 7 = .ok (.iadd, 1) := by decide +kernel
theorem dX2_set_8 : decode cX2_set 8 = .ok (.istore 4, 2) := by decide +kernel
theorem dX2_set_10 : decode cX2_set 10 = .ok (.iload_n 1, 1) := by decide +kernel
theorem dX2_set_11 : decode cX2_set 11 = .ok (.ifCond .lt 38, 3) := by decide +kernel
theorem dX2_set_14 : decode cX2_set 14 = .ok (.iload_n 1, 1) := by decide +kernel
theorem dX2_set_15 : decode cX2_set 15 = .ok (.aload_n 0, 1) := by decide +kernel
theorem dX2_set_16 : decode cX2_set 16 = .ok (.getfield 28, 3) := by decide +kernel
theorem dX2_set_19 : decode cX2_set 19 = .ok (.if_icmp .ge 30, 3) := by decide +kernel
theorem dX2_set_22 : decode cX2_set 22 = .ok (.iload_n 2, 1) := by decide +kernel
theorem dX2_set_23 : decode cX2_set 23 = .ok (.ifCond .lt 26, 3) := by decide +kernel
theorem dX2_set_26 : decode cX2_set 26 = .ok (.iload_n 2, 1) := by decide +kernel
theorem dX2_set_27 : decode cX2_set 27 = .ok (.aload_n 0, 1) := by decide +kernel
theorem dX2_set_28 : decode cX2_set 28 = .ok (.getfield 15, 3) := by decide +kernel
theorem dX2_set_31 : decode cX2_set 31 = .ok (.if_icmp .ge 18, 3) := by decide +kernel
theorem dX2_set_34 : decode cX2_set 34 = .ok (.iload 4, 2) := by decide +kernel
theorem dX2_set_36 : decode cX2_set 36 = .ok (.ifCond .lt 13, 3) := by decide +kernel
theorem dX2_set_39 : decode cX2_set 39 = .ok (.iload 4, 2) := by decide +kernel
theorem dX2_set_41 : decode cX2_set 41 = .ok (.aload_n 0, 1) := by decide +kernel
theorem dX2_set_42 : decode cX2_set 42 = .ok (.getfield 24, 3) := by decide +kernel
theorem dX2_set_45 : decode cX2_set 45 = .ok (.arraylength, 1) := by decide +kernel
theorem dX2_set_46 : decode cX2_set 46 = .ok (.if_icmp .lt 4, 3) := by decide +kernel
theorem dX2_set_49 : decode cX2_set 49 = .ok (.return_, 1) := by decide +kernel
theorem dX2_set_50 : decode cX2_set 50 = .ok (.aload_n 0, 1) := by decide +kernel
theorem dX2_set_51 : decode cX2_set 51 = .ok (.getfield 24, 3) := by decide +kernel
theorem dX2_set_54 : decode cX2_set 54 = .ok (.iload 4, 2) := by decide +kernel
theorem dX2_set_56 : decode cX2_set 56 = .ok (.iload_n 3, 1) := by decide +kernel
theorem dX2_set_57 : decode cX2_set 57 = .ok (.iastore, 1) := by decide +kernel
theorem dX2_set_58 : decode cX2_set 58 = .ok (.return_, 1) := by decide +kernel
theorem dX2_increase_0 : decode cX2_increase 0 = .ok (.aload_n 0, 1) := by decide +kernel
theorem dX2_increase_1 : decode cX2_increase 1 = .ok (.iload_n 1, 1) := by decide +kernel
theorem dX2_increase_2 : decode cX2_increase 2 = .ok (.iload_n 2, 1) := by decide +kernel
theorem dX2_increase_3 : decode cX2_increase 3 = .ok (.aload_n 0, 1) := by decide +kernel
theorem dX2_increase_4 : decode cX2_increase 4 = .ok (.iload_n 1, 1) := by decide +kernel
theorem dX2_increase_5 : decode cX2_increase 5 = .ok (.iload_n 2, 1) := by decide +kernel
theorem dX2_increase_6 : decode cX2_increase 6 = .ok (.invokevirtual 31, 3) := by decide +kernel
theorem dX2_increase_9 : decode cX2_increase 9 = .ok (.iload_n 3, 1) := by decide +kernel
theorem dX2_increase_10 : decode cX2_increase 10 = .ok (.iadd, 1) := by decide +kernel
theorem dX2_increase_11 : decode cX2_increase 11 = .ok (.invokevirtual 34, 3) := by decide +kernel
theorem dX2_increase_14 : decode cX2_increase 14 = .ok (.return_, 1) := by decide +kernel
theorem dX2_addRow_0 : decode cX2_addRow 0 = .ok (.aload_n 0, 1) := by decide +kernel
theorem dX2_addRow_1 : decode cX2_addRow 1 = .ok (.invokevirtual 38, 3) := by decide +kernel
theorem dX2_addRow_4 : decode cX2_addRow 4 = .ok (.ifCond .eq 6, 3) := by decide +kernel
theorem dX2_addRow_7 : decode cX2_addRow 7 = .ok (.bipush (-3), 2) := by decide +kernel
theorem dX2_addRow_9 : decode cX2_addRow 9 = .ok (.ireturn, 1) := by decide +kernel
theorem dX2_addRow_10 : decode cX2_addRow 10 = .ok (.aload_n 0, 1) := by decide +kernel
theorem dX2_addRow_11 : decode cX2_addRow 11 = .ok (.getfield 28, 3) := by decide +kernel
theorem dX2_addRow_14 : decode cX2_addRow 14 = .ok (.istore_n 1, 1) := by decide +kernel
theorem dX2_addRow_15 : decode cX2_addRow 15 = .ok (.aload_n 0, 1) := by decide +kernel
theorem dX2_addRow_16 : decode cX2_addRow 16 = .ok (.dup, 1) := by decide +kernel
theorem dX2_addRow_17 : decode cX2_addRow 17 = .ok (.getfield 28, 3) := by decide +kernel
theorem dX2_addRow_20 : decode cX2_addRow 20 = .ok (.iconst 1, 1) := by decide +kernel
theorem dX2_addRow_21 : decode cX2_addRow 21 = .ok (.iadd, 1) := by decide +kernel
theorem dX2_addRow_22 : decode cX2_addRow 22 = .ok (.putfield 28, 3) := by decide +kernel
theorem dX2_addRow_25 : decode cX2_addRow 25 = .ok (.iconst 0, 1) := by decide +kernel
theorem dX2_addRow_26 : decode cX2_addRow 26 = .ok (.istore_n 2, 1) := by decide +kernel
theorem dX2_addRow_27 : decode cX2_addRow 27 = .ok (.iload_n 2, 1) := by decide +kernel
theorem dX2_addRow_28 : decode cX2_addRow 28 = .ok (.aload_n 0, 1) := by decide +kernel
theorem dX2_addRow_29 : decode cX2_addRow 29 = .ok (.getfield 15, 3) := by decide +kernel
theorem dX2_addRow_32 : decode cX2_addRow 32 = .ok (.if_icmp .ge 16, 3) := by decide +kernel
theorem dX2_addRow_35 : decode cX2_addRow 35 = .ok (.aload_n 0, 1) := by decide +kernel
theorem dX2_addRow_36 : decode cX2_addRow 36 = .ok (.iload_n 1, 1) := by decide +kernel
theorem dX2_addRow_37 : decode cX2_addRow 37 = .ok (.iload_n 2, 1) := by decide +kernel
theorem dX2_addRow_38 : decode cX2_addRow 38 = .ok (.iconst 0, 1) := by decide +kernel
theorem dX2_addRow_39 : decode cX2_addRow 39 = .ok (.invokevirtual 34, 3) := by decide +kernel
theorem dX2_addRow_42 : decode cX2_addRow 42 = .ok (.iinc 2 1, 3) := by decide +kernel
theorem dX2_addRow_45 : decode cX2_addRow 45 = .ok (.goto (-18), 3) := by decide +kernel
theorem dX2_addRow_48 : decode cX2_addRow 48 = .ok (.iload_n 1, 1) := by decide +kernel
theorem dX2_addRow_49 : decode cX2_addRow 49 = .ok (.ireturn, 1) := by decide +kernel
theorem dX2_removeRow_0 : decode cX2_removeRow 0 = .ok (.aload_n 0, 1) := by decide +kernel
theorem dX2_removeRow_1 : decode cX2_removeRow 1 = .ok (.iload_n 1, 1) := by decide +kernel
theorem dX2_removeRow_2 : decode cX2_removeRow 2 = .ok (.invokevirtual 42, 3) := by decide +kernel
theorem dX2_removeRow_5 : decode cX2_removeRow 5 = .ok (.ifCond .ne 4, 3) := by decide +kernel
theorem dX2_removeRow_8 : decode cX2_removeRow 8 = .ok (.return_, 1) := by decide +kernel
theorem dX2_removeRow_9 : decode cX2_removeRow 9 = .ok (.iload_n 1, 1) := by decide +kernel
theorem dX2_removeRow_10 : decode cX2_removeRow 10 = .ok (.iconst 1, 1) := by decide +kernel
theorem dX2_removeRow_11 : decode cX2_removeRow 11 = .ok (.iadd, 1) := by decide +kernel
theorem dX2_removeRow_12 : decode cX2_removeRow 12 = .ok (.istore_n 2, 1) := by decide +kernel
theorem dX2_removeRow_13 : decode cX2_removeRow 13 = .ok (.iload_n 2, 1) := by decide +kernel
theorem dX2_removeRow_14 : decode cX2_removeRow 14 = .ok (.aload_n 0, 1) := by decide +kernel
theorem dX2_removeRow_15 : decode cX2_removeRow 15 = .ok (.getfield 28, 3) := by decide +kernel
theorem dX2_removeRow_18 : decode cX2_removeRow 18 = .ok (.if_icmp .ge 39, 3) := by decide +kernel
theorem dX2_removeRow_21 : decode cX2_removeRow 21 = .ok (.iconst 0, 1) := by decide +kernel
theorem dX2_removeRow_22 : decode cX2_removeRow 22 = .ok (.istore_n 3, 1) := by decide +kernel
theorem dX2_removeRow_23 : decode cX2_removeRow 23 = .ok (.iload_n 3, 1) := by decide +kernel
theorem dX2_removeRow_24 : decode cX2_removeRow 24 = .ok (.aload_n 0, 1) := by decide +kernel
theorem dX2_removeRow_25 : decode cX2_removeRow 25 = .ok (.getfield 15, 3) := by decide +kernel
theorem dX2_removeRow_28 : decode cX2_removeRow 28 = .ok (.if_icmp .ge 23, 3) := by decide +kernel
theorem dX2_removeRow_31 : decode cX2_removeRow 31 = .ok (.aload_n 0, 1) := by decide +kernel
theorem dX2_removeRow_32 : decode cX2_removeRow 32 = .ok (.iload_n 2, 1) := by decide +kernel
theorem dX2_removeRow_33 : decode cX2_removeRow 33 = .ok (.iconst 1, 1) := by decide +kernel
theorem dX2_removeRow_34 : decode cX2_removeRow 34 = .ok (.isub, 1) := by decide +kernel
theorem dX2_removeRow_35 : decode cX2_removeRow 35 = .ok (.iload_n 3, 1) := by decide +kernel
theorem dX2_removeRow_36 : decode cX2_removeRow 36 = .ok (.aload_n 0, 1) := by decide +kernel
theorem dX2_removeRow_37 : decode cX2_removeRow 37 = .ok (.iload_n 2, 1) := by decide +kernel
theorem dX2_removeRow_38 : decode cX2_removeRow 38 = .ok (.iload_n 3, 1) := by decide +kernel
theorem dX2_removeRow_39 : decode cX2_removeRow 39 = .ok (.invokevirtual 31, 3) := by decide +kernel
theorem dX2_removeRow_42 : decode cX2_removeRow 42 = .ok (.invokevirtual 34, 3) := by decide +kernel
theorem dX2_removeRow_45 : decode cX2_removeRow 45 = .ok (.iinc 3 1, 3) := by decide +kernel
theorem dX2_removeRow_48 : decode cX2_removeRow 48 = .ok (.goto (-25), 3) := by decide +kernel
theorem dX2_removeRow_51 : decode cX2_removeRow 51 = .ok (.iinc 2 1, 3) := by decide +kernel
theorem dX2_removeRow_54 : decode cX2_removeRow 54 = .ok (.goto (-41), 3) := by decide +kernel
theorem dX2_removeRow_57 : decode cX2_removeRow 57 = .ok (.aload_n 0, 1) := by decide +kernel
theorem dX2_removeRow_58 : decode cX2_removeRow 58 = .ok (.dup, 1) := by decide +kernel
theorem dX2_removeRow_59 : decode cX2_removeRow 59 = .ok (.getfield 28, 3) := by decide +kernel
theorem dX2_removeRow_62 : decode cX2_removeRow 62 = .ok (.iconst 1, 1) := by decide +kernel
theorem dX2_removeRow_63 : decode cX2_removeRow 63 = .ok (.isub, 1) := by decide +kernel
theorem dX2_removeRow_64 : decode cX2_removeRow 64 = .ok (.putfield 28, 3) := by decide +kernel
theorem dX2_removeRow_67 : decode cX2_removeRow 67 = .ok (.return_, 1) := by decide +kernel
theorem dX2_removeAll_0 : decode cX2_removeAll 0 = .ok (.aload_n 0, 1) := by decide +kernel
theorem dX2_removeAll_1 : decode cX2_removeAll 1 = .ok (.iconst 0, 1) := by decide +kernel
theorem dX2_removeAll_2 : decode cX2_removeAll 2 = .ok (.putfield 28, 3) := by decide +kernel
theorem dX2_removeAll_5 : decode cX2_removeAll 5 = .ok (.return_, 1) := by decide +kernel
theorem dX2_countOf_0 : decode cX2_countOf 0 = .ok (.iconst 0, 1) := by decide +kernel
theorem dX2_countOf_1 : decode cX2_countOf 1 = .ok (.istore_n 3, 1) := by decide +kernel
theorem dX2_countOf_2 : decode cX2_countOf 2 = .ok (.iconst 0, 1) := by decide +kernel
theorem dX2_countOf_3 : decode cX2_countOf 3 = .ok (.istore 4, 2) := by decide +kernel
theorem dX2_countOf_5 : decode cX2_countOf 5 = .ok (.iload 4, 2) := by decide +kernel
theorem dX2_countOf_7 : decode cX2_countOf 7 = .ok (.aload_n 0, 1) := by decide +kernel
theorem dX2_countOf_8 : decode cX2_countOf 8 = .ok (.getfield 28, 3) := by decide +kernel
theorem dX2_countOf_11 : decode cX2_countOf 11 = .ok (.if_icmp .ge 23, 3) := by decide +kernel
theorem dX2_countOf_14 : decode cX2_countOf 14 = .ok (.aload_n 0, 1) := by decide +kernel
theorem dX2_countOf_15 : decode cX2_countOf 15 = .ok (.iload 4, 2) := by decide +kernel
theorem dX2_countOf_17 : decode cX2_countOf 17 = .ok (.iload_n 1, 1) := by decide +kernel
theorem dX2_countOf_18 : decode cX2_countOf 18 = .ok (.invokevirtual 31, 3) := by decide +kernel
theorem dX2_countOf_21 : decode cX2_countOf 21 = .ok (.iload_n 2, 1) := by decide +kernel
theorem dX2_countOf_22 : decode cX2_countOf 22 = .ok (.if_icmp .ne 6, 3) := by decide +kernel
theorem dX2_countOf_25 : decode cX2_countOf 25 = .ok (.iinc 3 1, 3) := by decide +kernel
theorem dX2_countOf_28 : decode cX2_countOf 28 = .ok (.iinc 4 1, 3) := by decide +kernel
theorem dX2_countOf_31 : decode cX2_countOf 31 = .ok (.goto (-26), 3) := by decide +kernel
theorem dX2_countOf_34 : decode cX2_countOf 34 = .ok (.iload_n 3, 1) := by decide +kernel
theorem dX2_countOf_35 : decode cX2_countOf 35 = .ok (.ireturn, 1) := by decide +kernel
theorem dX2_countBoth_0 : decode cX2_countBoth 0 = .ok (.iconst 0, 1) := by decide +kernel
theorem dX2_countBoth_1 : decode cX2_countBoth 1 = .ok (.istore 5, 2) := by decide +kernel
theorem dX2_countBoth_3 : decode cX2_countBoth 3 = .ok (.iconst 0, 1) := by decide +kernel
theorem dX2_countBoth_4 : decode cX2_countBoth 4 = .ok (.istore 6, 2) := by decide +kernel
theorem dX2_countBoth_6 : decode cX2_countBoth 6 = .ok (.iload 6, 2) := by decide +kernel
theorem dX2_countBoth_8 : decode cX2_countBoth 8 = .ok (.aload_n 0, 1) := by decide +kernel
theorem dX2_countBoth_9 : decode cX2_countBoth 9 = .ok (.getfield 28, 3) := by decide +kernel
theorem dX2_countBoth_12 : decode cX2_countBoth 12 = .ok (.if_icmp .ge 35, 3) := by decide +kernel
theorem dX2_countBoth_15 : decode cX2_countBoth 15 = .ok (.aload_n 0, 1) := by decide +kernel
theorem dX2_countBoth_16 : decode cX2_countBoth 16 = .ok (.iload 6, 2) := by decide +kernel
theorem dX2_countBoth_18 : decode cX2_countBoth 18 = .ok (.iload_n 1, 1) := by decide +kernel
theorem dX2_countBoth_19 : decode cX2_countBoth 19 = .ok (.invokevirtual 31, 3) := by decide +kernel
theorem dX2_countBoth_22 : decode cX2_countBoth 22 = .ok (.iload_n 2, 1) := by decide +kernel
theorem dX2_countBoth_23 : decode cX2_countBoth 23 = .ok (.if_icmp .ne 18, 3) := by decide +kernel
theorem dX2_countBoth_26 : decode cX2_countBoth 26 = .ok (.aload_n 0, 1) := by decide +kernel
theorem dX2_countBoth_27 : decode cX2_countBoth 27 = .ok (.iload 6, 2) := by decide +kernel
theorem dX2_countBoth_29 : decode cX2_countBoth 29 = .ok (.iload_n 3, 1) := by decide +kernel
theorem dX2_countBoth_30 : decode cX2_countBoth 30 = .ok (.invokevirtual 31, 3) := by decide +kernel
theorem dX2_countBoth_33 : decode cX2_countBoth 33 = .ok (.iload 4, 2) := by decide +kernel
theorem dX2_countBoth_35 : decode cX2_countBoth 35 = .ok (.if_icmp .ne 6, 3) := by decide +kernel
theorem dX2_countBoth_38 : decode cX2_countBoth 38 = .ok (.iinc 5 1, 3) := by decide +kernel
theorem dX2_countBoth_41 : decode cX2_countBoth 41 = .ok (.iinc 6 1, 3) := by decide +kernel
theorem dX2_countBoth_44 : decode cX2_countBoth 44 = .ok (.goto (-38), 3) := by decide +kernel
theorem dX2_countBoth_47 : decode cX2_countBoth 47 = .ok (.iload 5, 2) := by decide +kernel
theorem dX2_countBoth_49 : decode cX2_countBoth 49 = .ok (.ireturn, 1) := by decide +kernel
theorem dX2_sumOf_0 : decode cX2_sumOf 0 = .ok (.iconst 0, 1) := by decide +kernel
theorem dX2_sumOf_1 : decode cX2_sumOf 1 = .ok (.istore_n 2, 1) := by decide +kernel
theorem dX2_sumOf_2 : decode cX2_sumOf 2 = .ok (.iconst 0, 1) := by decide +kernel
theorem dX2_sumOf_3 : decode cX2_sumOf 3 = .ok (.istore_n 3, 1) := by decide +kernel
theorem dX2_sumOf_4 : decode cX2_sumOf 4 = .ok (.iload_n 3, 1) := by decide +kernel
theorem dX2_sumOf_5 : decode cX2_sumOf 5 = .ok (.aload_n 0, 1) := by decide +kernel
theorem dX2_sumOf_6 : decode cX2_sumOf 6 = .ok (.getfield 28, 3) := by decide +kernel
theorem dX2_sumOf_9 : decode cX2_sumOf 9 = .ok (.if_icmp .ge 18, 3) := by decide +kernel
theorem dX2_sumOf_12 : decode cX2_sumOf 12 = .ok (.iload_n 2, 1) := by decide +kernel
theorem dX2_sumOf_13 : decode cX2_sumOf 13 = .ok (.aload_n 0, 1) := by decide +kernel
theorem dX2_sumOf_14 : decode cX2_sumOf 14 = .ok (.iload_n 3, 1) := by decide +kernel
theorem dX2_sumOf_15 : decode cX2_sumOf 15 = .ok (.iload_n 1, 1) := by decide +kernel
theorem dX2_sumOf_16 : decode cX2_sumOf 16 = .ok (.invokevirtual 31, 3) := by decide +kernel
theorem dX2_sumOf_19 : decode cX2_sumOf 19 = .ok (.iadd, 1) := by decide +kernel
theorem dX2_sumOf_20 : decode cX2_sumOf 20 = .ok (.istore_n 2, 1) := by decide +kernel
theorem dX2_sumOf_21 : decode cX2_sumOf 21 = .ok (.iinc 3 1, 3) := by decide +kernel
theorem dX2_sumOf_24 : decode cX2_sumOf 24 = .ok (.goto (-20), 3) := by decide +kernel
theorem dX2_sumOf_27 : decode cX2_sumOf 27 = .ok (.iload_n 2, 1) := by decide +kernel
theorem dX2_sumOf_28 : decode cX2_sumOf 28 = .ok (.ireturn, 1) := by decide +kernel
theorem dX2_copyFrom_0 : decode cX2_copyFrom 0 = .ok (.aload_n 0, 1) := by decide +kernel
theorem dX2_copyFrom_1 : decode cX2_copyFrom 1 = .ok (.aload_n 1, 1) := by decide +kernel
theorem dX2_copyFrom_2 : decode cX2_copyFrom 2 = .ok (.getfield 28, 3) := by decide +kernel
theorem dX2_copyFrom_5 : decode cX2_copyFrom 5 = .ok (.aload_n 0, 1) := by decide +kernel
theorem dX2_copyFrom_6 : decode cX2_copyFrom 6 = .ok (.getfield 9, 3) := by decide +kernel
theorem dX2_copyFrom_9 : decode cX2_copyFrom 9 = .ok (.invokestatic 46, 3) := by decide +kernel
theorem dX2_copyFrom_12 : decode cX2_copyFrom 12 = .ok (.putfield 28, 3) := by decide +kernel
theorem dX2_copyFrom_15 : decode cX2_copyFrom 15 = .ok (.aload_n 1, 1) := by decide +kernel
theorem dX2_copyFrom_16 : decode cX2_copyFrom 16 = .ok (.getfield 24, 3) := by decide +kernel
theorem dX2_copyFrom_19 : decode cX2_copyFrom 19 = .ok (.iconst 0, 1) := by decide +kernel
theorem dX2_copyFrom_20 : decode cX2_copyFrom 20 = .ok (.aload_n 0, 1) := by decide +kernel
theorem dX2_copyFrom_21 : decode cX2_copyFrom 21 = .ok (.getfield 24, 3) := by decide +kernel
theorem dX2_copyFrom_24 : decode cX2_copyFrom 24 = .ok (.iconst 0, 1) := by decide +kernel
theorem dX2_copyFrom_25 : decode cX2_copyFrom 25 = .ok (.aload_n 1, 1) := by decide +kernel
theorem dX2_copyFrom_26 : decode cX2_copyFrom 26 = .ok (.getfield 24, 3) := by decide +kernel
theorem dX2_copyFrom_29 : decode cX2_copyFrom 29 = .ok (.arraylength, 1) := by decide +kernel
theorem dX2_copyFrom_30 : decode cX2_copyFrom 30 = .ok (.aload_n 0, 1) := by decide +kernel
theorem dX2_copyFrom_31 : decode cX2_copyFrom 31 = .ok (.getfield 24, 3) := by decide +kernel
theorem dX2_copyFrom_34 : decode cX2_copyFrom 34 = .ok (.arraylength, 1) := by decide +kernel
theorem dX2_copyFrom_35 : decode cX2_copyFrom 35 = .ok (.invokestatic 46, 3) := by decide +kernel
theorem dX2_copyFrom_38 : decode cX2_copyFrom 38 = .ok (.invokestatic 49, 3) := by decide +kernel
theorem dX2_copyFrom_41 : decode cX2_copyFrom 41 = .ok (.return_, 1) := by decide +kernel
theorem dX3_init_0 : decode cX3_init 0 = .ok (.aload_n 0, 1) := by decide +kernel
theorem dX3_init_1 : decode cX3_init 1 = .ok (.invokespecial 3, 3) := by decide +kernel
theorem dX3_init_4 : decode cX3_init 4 = .ok (.aload_n 0, 1) := by decide +kernel
theorem dX3_init_5 : decode cX3_init 5 = .ok (.bipush 60, 2) := by decide +kernel
theorem dX3_init_7 : decode cX3_init 7 = .ok (.newarray .char, 2) := by decide +kernel
theorem dX3_init_9 : decode cX3_init 9 = .ok (.putfield 9, 3) := by decide +kernel
theorem dX3_init_12 : decode cX3_init 12 = .ok (.aload_n 0, 1) := by decide +kernel
theorem dX3_init_13 : decode cX3_init 13 = .ok (.new 15, 3) := by decide +kernel
theorem dX3_init_16 : decode cX3_init 16 = .ok (.dup, 1) := by decide +kernel
theorem dX3_init_17 : decode cX3_init 17 = .ok (.bipush 15, 2) := by decide +kernel
theorem dX3_init_19 : decode cX3_init 19 = .ok (.iconst 2, 1) := by decide +kernel
theorem dX3_init_20 : decode cX3_init 20 = .ok (.invokespecial 17, 3) := by decide +kernel
theorem dX3_init_23 : decode cX3_init 23 = .ok (.putfield 20, 3) := by decide +kernel
theorem dX3_init_26 : decode cX3_init 26 = .ok (.return_, 1) := by decide +kernel
theorem dX3_length_0 : decode cX3_length 0 = .ok (.aload_n 0, 1) := by decide +kernel
theorem dX3_length_1 : decode cX3_length 1 = .ok (.getfield 24, 3) := by decide +kernel
theorem dX3_length_4 : decode cX3_length 4 = .ok (.ireturn, 1) := by decide +kernel
theorem dX3_append_0 : decode cX3_append 0 = .ok (.aload_n 0, 1) := by decide +kernel
theorem dX3_append_1 : decode cX3_append 1 = .ok (.getfield 24, 3) := by decide +kernel
theorem dX3_append_4 : decode cX3_append 4 = .ok (.ifCond .lt 15, 3) := by decide +kernel
theorem dX3_append_7 : decode cX3_append 7 = .ok (.aload_n 0, 1) := by decide +kernel
theorem dX3_append_8 : decode cX3_append 8 = .ok (.getfield 24, 3) := by decide +kernel
theorem dX3_append_11 : decode cX3_append 11 = .ok (.aload_n 0, 1) := by decide +kernel
theorem dX3_append_12 : decode cX3_append 12 = .ok (.getfield 9, 3) := by decide +kernel
theorem dX3_append_15 : decode cX3_append 15 = .ok (.arraylength, 1) := by decide +kernel
theorem dX3_append_16 : decode cX3_append 16 = .ok (.if_icmp .lt 5, 3) := by decide +kernel
theorem dX3_append_19 : decode cX3_append 19 = .ok (.iconst 0, 1) := by decide +kernel
theorem dX3_append_20 : decode cX3_append 20 = .ok (.ireturn, 1) := by decide +kernel
theorem dX3_append_21 : decode cX3_append 21 = .ok (.aload_n 0, 1) := by decide +kernel
theorem dX3_append_22 : decode cX3_append 22 = .ok (.getfield 9, 3) := by decide +kernel
theorem dX3_append_25 : decode cX3_append 25 = .ok (.aload_n 0, 1) := by decide +kernel
theorem dX3_append_26 : decode cX3_append 26 = .ok (.getfield 24, 3) := by decide +kernel
theorem dX3_append_29 : decode cX3_append 29 = .ok (.iload_n 1, 1) := by decide +kernel
theorem dX3_append_30 : decode cX3_append 30 = .ok (.castore, 1) := by decide +kernel
theorem dX3_append_31 : decode cX3_append 31 = .ok (.aload_n 0, 1) := by decide +kernel
theorem dX3_append_32 : decode cX3_append 32 = .ok (.dup, 1) := by decide +kernel
theorem dX3_append_33 : decode cX3_append 33 = .ok (.getfield 24, 3) := by decide +kernel
theorem dX3_append_36 : decode cX3_append 36 = .ok (.iconst 1, 1) := by decide +kernel
theorem dX3_append_37 : decode cX3_append 37 = .ok (.iadd, 1) := by decide +kernel
theorem dX3_append_38 : decode cX3_append 38 = .ok (.putfield 24, 3) := by decide +kernel
theorem dX3_append_41 : decode cX3_append 41 = .ok (.iconst 1, 1) := by decide +kernel
theorem dX3_append_42 : decode cX3_append 42 = .ok (.ireturn, 1) := by decide +kernel
theorem dX3_empty_0 : decode cX3_empty 0 = .ok (.aload_n 0, 1) := by decide +kernel
theorem dX3_empty_1 : decode cX3_empty 1 = .ok (.iconst 0, 1) := by decide +kernel
theorem dX3_empty_2 : decode cX3_empty 2 = .ok (.putfield 24, 3) := by decide +kernel
theorem dX3_empty_5 : decode cX3_empty 5 = .ok (.return_, 1) := by decide +kernel
theorem dX3_parse_0 : decode cX3_parse 0 = .ok (.aload_n 0, 1) := by decide +kernel
theorem dX3_parse_1 : decode cX3_parse 1 = .ok (.getfield 20, 3) := by decide +kernel
theorem dX3_parse_4 : decode cX3_parse 4 = .ok (.invokevirtual 28, 3) := by decide +kernel
theorem dX3_parse_7 : decode cX3_parse 7 = .ok (.aload_n 0, 1) := by decide +kernel
theorem dX3_parse_8 : decode cX3_parse 8 = .ok (.iconst 0, 1) := by decide +kernel
theorem dX3_parse_9 : decode cX3_parse 9 = .ok (.putfield 31, 3) := by decide +kernel
theorem dX3_parse_12 : decode cX3_parse 12 = .ok (.iconst 0, 1) := by decide +kernel
theorem dX3_parse_13 : decode cX3_parse 13 = .ok (.istore_n 1, 1) := by decide +kernel
theorem dX3_parse_14 : decode cX3_parse 14 = .ok (.iload_n 1, 1) := by decide +kernel
theorem dX3_parse_15 : decode cX3_parse 15 = .ok (.bipush 15, 2) := by decide +kernel
theorem dX3_parse_17 : decode cX3_parse 17 = .ok (.if_icmp .gt 108, 3) := by decide +kernel
theorem dX3_parse_20 : decode cX3_parse 20 = .ok (.aload_n 0, 1) := by decide +kernel
theorem dX3_parse_21 : decode cX3_parse 21 = .ok (.iconst 3, 1) := by decide +kernel
theorem dX3_parse_22 : decode cX3_parse 22 = .ok (.invokevirtual 34, 3) := by decide +kernel
theorem dX3_parse_25 : decode cX3_parse 25 = .ok (.istore_n 2, 1) := by decide +kernel
theorem dX3_parse_26 : decode cX3_parse 26 = .ok (.iload_n 2, 1) := by decide +kernel
theorem dX3_parse_27 : decode cX3_parse 27 = .ok (.iconst (-1), 1) := by decide +kernel
theorem dX3_parse_28 : decode cX3_parse 28 = .ok (.if_icmp .eq 12, 3) := by decide +kernel
theorem dX3_parse_31 : decode cX3_parse 31 = .ok (.aload_n 0, 1) := by decide +kernel
theorem dX3_parse_32 : decode cX3_parse 32 = .ok (.bipush 58, 2) := by decide +kernel
theorem dX3_parse_34 : decode cX3_parse 34 = .ok (.invokevirtual 38, 3) := by decide +kernel
theorem dX3_parse_37 : decode cX3_parse 37 = .ok (.ifCond .ne 8, 3) := by decide +kernel
theorem dX3_parse_40 : decode cX3_parse 40 = .ok (.aload_n 0, 1) := by decide +kernel
theorem dX3_parse_41 : decode cX3_parse 41 = .ok (.getfield 31, 3) := by decide +kernel
theorem dX3_parse_44 : decode cX3_parse 44 = .ok (.ireturn, 1) := by decide +kernel
theorem dX3_parse_45 : decode cX3_parse 45 = .ok (.aload_n 0, 1) := by decide +kernel
theorem dX3_parse_46 : decode cX3_parse 46 = .ok (.iconst 2, 1) := by decide +kernel
theorem dX3_parse_47 : decode cX3_parse 47 = .ok (.invokevirtual 34, 3) := by decide +kernel
theorem dX3_parse_50 : decode cX3_parse 50 = .ok (.istore_n 3, 1) := by decide +kernel
theorem dX3_parse_51 : decode cX3_parse 51 = .ok (.iload_n 3, 1) := by decide +kernel
theorem dX3_parse_52 : decode cX3_parse 52 = .ok (.iconst (-1), 1) := by decide +kernel
theorem dX3_parse_53 : decode cX3_parse 53 = .ok (.if_icmp .ne 8, 3) := by decide +kernel
theorem dX3_parse_56 : decode cX3_parse 56 = .ok (.aload_n 0, 1) := by decide +kernel
theorem dX3_parse_57 : decode cX3_parse 57 = .ok (.getfield 31, 3) := by decide +kernel
theorem dX3_parse_60 : decode cX3_parse 60 = .ok (.ireturn, 1) := by decide +kernel
theorem dX3_parse_61 : decode cX3_parse 61 = .ok (.aload_n 0, 1) := by decide +kernel
theorem dX3_parse_62 : decode cX3_parse 62 = .ok (.getfield 20, 3) := by decide +kernel
theorem dX3_parse_65 : decode cX3_parse 65 = .ok (.invokevirtual 42, 3) := by decide +kernel
theorem dX3_parse_68 : decode cX3_parse 68 = .ok (.istore 4, 2) := by decide +kernel
theorem dX3_parse_70 : decode cX3_parse 70 = .ok (.aload_n 0, 1) := by decide +kernel
theorem dX3_parse_71 : decode cX3_parse 71 = .ok (.getfield 20, 3) := by decide +kernel
theorem dX3_parse_74 : decode cX3_parse 74 = .ok (.iload 4, 2) := by decide +kernel
theorem dX3_parse_76 : decode cX3_parse 76 = .ok (.iconst 0, 1) := by decide +kernel
theorem dX3_parse_77 : decode cX3_parse 77 = .ok (.iload_n 2, 1) := by decide +kernel
theorem dX3_parse_78 : decode cX3_parse 78 = .ok (.invokevirtual 46, 3) := by decide +kernel
theorem dX3_parse_81 : decode cX3_parse 81 = .ok (.aload_n 0, 1) := by decide +kernel
theorem dX3_parse_82 : decode cX3_parse 82 = .ok (.getfield 20, 3) := by decide +kernel
theorem dX3_parse_85 : decode cX3_parse 85 = .ok (.iload 4, 2) := by decide +kernel
theorem dX3_parse_87 : decode cX3_parse 87 = .ok (.iconst 1, 1) := by decide +kernel
theorem dX3_parse_88 : decode cX3_parse 88 = .ok (.iload_n 3, 1) := by decide +kernel
theorem dX3_parse_89 : decode cX3_parse 89 = .ok (.invokevirtual 46, 3) := by decide +kernel
theorem dX3_parse_92 : decode cX3_parse 92 = .ok (.aload_n 0, 1) := by decide +kernel
theorem dX3_parse_93 : decode cX3_parse 93 = .ok (.getfield 31, 3) := by decide +kernel
theorem dX3_parse_96 : decode cX3_parse 96 = .ok (.aload_n 0, 1) := by decide +kernel
theorem dX3_parse_97 : decode cX3_parse 97 = .ok (.getfield 24, 3) := by decide +kernel
theorem dX3_parse_100 : decode cX3_parse 100 = .ok (.if_icmp .lt 5, 3) := by decide +kernel
theorem dX3_parse_103 : decode cX3_parse 103 = .ok (.iconst (-1), 1) := by decide +kernel
theorem dX3_parse_104 : decode cX3_parse 104 = .ok (.ireturn, 1) := by decide +kernel
theorem dX3_parse_105 : decode cX3_parse 105 = .ok (.aload_n 0, 1) := by decide +kernel
theorem dX3_parse_106 : decode cX3_parse 106 = .ok (.bipush 59, 2) := by decide +kernel
theorem dX3_parse_108 : decode cX3_parse 108 = .ok (.invokevirtual 38, 3) := by decide +kernel
theorem dX3_parse_111 : decode cX3_parse 111 = .ok (.ifCond .ne 8, 3) := by decide +kernel
theorem dX3_parse_114 : decode cX3_parse 114 = .ok (.aload_n 0, 1) := by decide +kernel
theorem dX3_parse_115 : decode cX3_parse 115 = .ok (.getfield 31, 3) := by decide +kernel
theorem dX3_parse_118 : decode cX3_parse 118 = .ok (.ireturn, 1) := by decide +kernel
theorem dX3_parse_119 : decode cX3_parse 119 = .ok (.iinc 1 1, 3) := by decide +kernel
theorem dX3_parse_122 : decode cX3_parse 122 = .ok (.goto (-108), 3) := by decide +kernel
theorem dX3_parse_125 : decode cX3_parse 125 = .ok (.aload_n 0, 1) := by decide +kernel
theorem dX3_parse_126 : decode cX3_parse 126 = .ok (.getfield 31, 3) := by decide +kernel
theorem dX3_parse_129 : decode cX3_parse 129 = .ok (.ireturn, 1) := by decide +kernel
theorem dX3_sign_0 : decode cX3_sign 0 = .ok (.aload_n 0, 1) := by decide +kernel
theorem dX3_sign_1 : decode cX3_sign 1 = .ok (.getfield 31, 3) := by decide +kernel
theorem dX3_sign_4 : decode cX3_sign 4 = .ok (.ifCond .lt 26, 3) := by decide +kernel
theorem dX3_sign_7 : decode cX3_sign 7 = .ok (.aload_n 0, 1) := by decide +kernel
theorem dX3_sign_8 : decode cX3_sign 8 = .ok (.getfield 31, 3) := by decide +kernel
theorem dX3_sign_11 : decode cX3_sign 11 = .ok (.aload_n 0, 1) := by decide +kernel
theorem dX3_sign_12 : decode cX3_sign 12 = .ok (.getfield 24, 3) := by decide +kernel
theorem dX3_sign_15 : decode cX3_sign 15 = .ok (.if_icmp .ge 15, 3) := by decide +kernel
theorem dX3_sign_18 : decode cX3_sign 18 = .ok (.aload_n 0, 1) := by decide +kernel
theorem dX3_sign_19 : decode cX3_sign 19 = .ok (.getfield 31, 3) := by decide +kernel
theorem dX3_sign_22 : decode cX3_sign 22 = .ok (.aload_n 0, 1) := by decide +kernel
theorem dX3_sign_23 : decode cX3_sign 23 = .ok (.getfield 9, 3) := by decide +kernel
theorem dX3_sign_26 : decode cX3_sign 26 = .ok (.arraylength, 1) := by decide +kernel
theorem dX3_sign_27 : decode cX3_sign 27 = .ok (.if_icmp .lt 5, 3) := by decide +kernel
theorem dX3_sign_30 : decode cX3_sign 30 = .ok (.iconst (-1), 1) := by decide +kernel
theorem dX3_sign_31 : decode cX3_sign 31 = .ok (.ireturn, 1) := by decide +kernel
theorem dX3_sign_32 : decode cX3_sign 32 = .ok (.aload_n 0, 1) := by decide +kernel
theorem dX3_sign_33 : decode cX3_sign 33 = .ok (.getfield 9, 3) := by decide +kernel
theorem dX3_sign_36 : decode cX3_sign 36 = .ok (.aload_n 0, 1) := by decide +kernel
theorem dX3_sign_37 : decode cX3_sign 37 = .ok (.getfield 31, 3) := by decide +kernel
theorem dX3_sign_40 : decode cX3_sign 40 = .ok (.caload, 1) := by decide +kernel
theorem dX3_sign_41 : decode cX3_sign 41 = .ok (.ireturn, 1) := by decide +kernel
theorem dX3_readSign_0 : decode cX3_readSign 0 = .ok (.aload_n 0, 1) := by decide +kernel
theorem dX3_readSign_1 : decode cX3_readSign 1 = .ok (.invokevirtual 50, 3) := by decide +kernel
theorem dX3_readSign_4 : decode cX3_readSign 4 = .ok (.iload_n 1, 1) := by decide +kernel
theorem dX3_readSign_5 : decode cX3_readSign 5 = .ok (.if_icmp .eq 5, 3) := by decide +kernel
theorem dX3_readSign_8 : decode cX3_readSign 8 = .ok (.iconst 0, 1) := by decide +kernel
theorem dX3_readSign_9 : decode cX3_readSign 9 = .ok (.ireturn, 1) := by decide +kernel
theorem dX3_readSign_10 : decode cX3_readSign 10 = .ok (.aload_n 0, 1) := by decide +kernel
theorem dX3_readSign_11 : decode cX3_readSign 11 = .ok (.dup, 1) := by decide +kernel
theorem dX3_readSign_12 : decode cX3_readSign 12 = .ok (.getfield 31, 3) := by decide +kernel
theorem dX3_readSign_15 : decode cX3_readSign 15 = .ok (.iconst 1, 1) := by decide +kernel
theorem dX3_readSign_16 : decode cX3_readSign 16 = .ok (.iadd, 1) := by decide +kernel
theorem dX3_readSign_17 : decode cX3_readSign 17 = .ok (.putfield 31, 3) := by decide +kernel
theorem dX3_readSign_20 : decode cX3_readSign 20 = .ok (.iconst 1, 1) := by decide +kernel
theorem dX3_readSign_21 : decode cX3_readSign 21 = .ok (.ireturn, 1) := by decide +kernel
theorem dX3_readNumber_0 : decode cX3_readNumber 0 = .ok (.aload_n 0, 1) := by decide +kernel
theorem dX3_readNumber_1 : decode cX3_readNumber 1 = .ok (.invokevirtual 50, 3) := by decide +kernel
theorem dX3_readNumber_4 : decode cX3_readNumber 4 = .ok (.invokestatic 53, 3) := by decide +kernel
theorem dX3_readNumber_7 : decode cX3_readNumber 7 = .ok (.ifCond .ne 5, 3) := by decide +kernel
theorem dX3_readNumber_10 : decode cX3_readNumber 10 = .ok (.iconst (-1), 1) := by decide +kernel
theorem dX3_readNumber_11 : decode cX3_readNumber 11 = .ok (.ireturn, 1) := by decide +kernel
theorem dX3_readNumber_12 : decode cX3_readNumber 12 = .ok (.aload_n 0, 1) := by decide +kernel
theorem dX3_readNumber_13 : decode cX3_readNumber 13 = .ok (.invokevirtual 50, 3) := by decide +kernel
theorem dX3_readNumber_16 : decode cX3_readNumber 16 = .ok (.bipush 48, 2) := by decide +kernel
theorem dX3_readNumber_18 : decode cX3_readNumber 18 = .ok (.if_icmp .ne 7, 3) := by decide +kernel
theorem dX3_readNumber_21 : decode cX3_readNumber 21 = .ok (.iconst 1, 1) := by decide +kernel
theorem dX3_readNumber_22 : decode cX3_readNumber 22 = .ok (.goto 4, 3) := by decide +kernel
theorem dX3_readNumber_25 : decode cX3_readNumber 25 = .ok (.iload_n 1, 1) := by decide +kernel
theorem dX3_readNumber_26 : decode cX3_readNumber 26 = .ok (.istore_n 2, 1) := by decide +kernel
theorem dX3_readNumber_27 : decode cX3_readNumber 27 = .ok (.iconst 0, 1) := by decide +kernel
theorem dX3_readNumber_28 : decode cX3_readNumber 28 = .ok (.istore_n 3, 1) := by decide +kernel
theorem dX3_readNumber_29 : decode cX3_readNumber 29 = .ok (.iconst 0, 1) := by decide +kernel
theorem dX3_readNumber_30 : decode cX3_readNumber 30 = .ok (.istore 4, 2) := by decide +kernel
theorem dX3_readNumber_32 : decode cX3_readNumber 32 = .ok (.iload 4, 2) := by decide +kernel
theorem dX3_readNumber_34 : decode cX3_readNumber 34 = .ok (.iload_n 2, 1) := by decide +kernel
theorem dX3_readNumber_35 : decode cX3_readNumber 35 = .ok (.if_icmp .ge 42, 3) := by decide +kernel
theorem dX3_readNumber_38 : decode cX3_readNumber 38 = .ok (.aload_n 0, 1) := by decide +kernel
theorem dX3_readNumber_39 : decode cX3_readNumber 39 = .ok (.invokevirtual 50, 3) := by decide +kernel
theorem dX3_readNumber_42 : decode cX3_readNumber 42 = .ok (.invokestatic 53, 3) := by decide +kernel
theorem dX3_readNumber_45 : decode cX3_readNumber 45 = .ok (.ifCond .eq 32, 3) := by decide +kernel
theorem dX3_readNumber_48 : decode cX3_readNumber 48 = .ok (.iload_n 3, 1) := by decide +kernel
theorem dX3_readNumber_49 : decode cX3_readNumber 49 = .ok (.bipush 10, 2) := by decide +kernel
theorem dX3_readNumber_51 : decode cX3_readNumber 51 = .ok (.imul, 1) := by decide +kernel
theorem dX3_readNumber_52 : decode cX3_readNumber 52 = .ok (.aload_n 0, 1) := by decide +kernel
theorem dX3_readNumber_53 : decode cX3_readNumber 53 = .ok (.invokevirtual 50, 3) := by decide +kernel
theorem dX3_readNumber_56 : decode cX3_readNumber 56 = .ok (.iadd, 1) := by decide +kernel
theorem dX3_readNumber_57 : decode cX3_readNumber 57 = .ok (.bipush 48, 2) := by decide +kernel
theorem dX3_readNumber_59 : decode cX3_readNumber 59 = .ok (.isub, 1) := by decide +kernel
theorem dX3_readNumber_60 : decode cX3_readNumber 60 = .ok (.istore_n 3, 1) := by decide +kernel
theorem dX3_readNumber_61 : decode cX3_readNumber 61 = .ok (.aload_n 0, 1) := by decide +kernel
theorem dX3_readNumber_62 : decode cX3_readNumber 62 = .ok (.dup, 1) := by decide +kernel
theorem dX3_readNumber_63 : decode cX3_readNumber 63 = .ok (.getfield 31, 3) := by decide +kernel
theorem dX3_readNumber_66 : decode cX3_readNumber 66 = .ok (.iconst 1, 1) := by decide +kernel
theorem dX3_readNumber_67 : decode cX3_readNumber 67 = .ok (.iadd, 1) := by decide +kernel
theorem dX3_readNumber_68 : decode cX3_readNumber 68 = .ok (.putfield 31, 3) := by decide +kernel
theorem dX3_readNumber_71 : decode cX3_readNumber 71 = .ok (.iinc 4 1, 3) := by decide +kernel
theorem dX3_readNumber_74 : decode cX3_readNumber 74 = .ok (.goto (-42), 3) := by decide +kernel
theorem dX3_readNumber_77 : decode cX3_readNumber 77 = .ok (.iload_n 3, 1) := by decide +kernel
theorem dX3_readNumber_78 : decode cX3_readNumber 78 = .ok (.ireturn, 1) := by decide +kernel
theorem dX3_isDigit_0 : decode cX3_isDigit 0 = .ok (.iload_n 0, 1) := by decide +kernel
theorem dX3_isDigit_1 : decode cX3_isDigit 1 = .ok (.bipush 48, 2) := by decide +kernel
theorem dX3_isDigit_3 : decode cX3_isDigit 3 = .ok (.if_icmp .lt 13, 3) := by decide +kernel
theorem dX3_isDigit_6 : decode cX3_isDigit 6 = .ok (.iload_n 0, 1) := by decide +kernel
theorem dX3_isDigit_7 : decode cX3_isDigit 7 = .ok (.bipush 57, 2) := by decide +kernel
theorem dX3_isDigit_9 : decode cX3_isDigit 9 = .ok (.if_icmp .gt 7, 3) := by decide +kernel
theorem dX3_isDigit_12 : decode cX3_isDigit 12 = .ok (.iconst 1, 1) := by decide +kernel
theorem dX3_isDigit_13 : decode cX3_isDigit 13 = .ok (.goto 4, 3) := by decide +kernel
theorem dX3_isDigit_16 : decode cX3_isDigit 16 = .ok (.iconst 0, 1) := by decide +kernel
theorem dX3_isDigit_17 : decode cX3_isDigit 17 = .ok (.ireturn, 1) := by decide +kernel
theorem dX4_init_0 : decode cX4_init 0 = .ok (.aload_n 0, 1) := by decide +kernel
theorem dX4_init_1 : decode cX4_init 1 = .ok (.invokespecial 3, 3) := by decide +kernel
theorem dX4_init_4 : decode cX4_init 4 = .ok (.aload_n 0, 1) := by decide +kernel
theorem dX4_init_5 : decode cX4_init 5 = .ok (.new 9, 3) := by decide +kernel
theorem dX4_init_8 : decode cX4_init 8 = .ok (.dup, 1) := by decide +kernel
theorem dX4_init_9 : decode cX4_init 9 = .ok (.invokespecial 11, 3) := by decide +kernel
theorem dX4_init_12 : decode cX4_init 12 = .ok (.putfield 12, 3) := by decide +kernel
theorem dX4_init_15 : decode cX4_init 15 = .ok (.aload_n 0, 1) := by decide +kernel
theorem dX4_init_16 : decode cX4_init 16 = .ok (.new 9, 3) := by decide +kernel
theorem dX4_init_19 : decode cX4_init 19 = .ok (.dup, 1) := by decide +kernel
theorem dX4_init_20 : decode cX4_init 20 = .ok (.invokespecial 11, 3) := by decide +kernel
theorem dX4_init_23 : decode cX4_init 23 = .ok (.putfield 16, 3) := by decide +kernel
theorem dX4_init_26 : decode cX4_init 26 = .ok (.aload_n 0, 1) := by decide +kernel
theorem dX4_init_27 : decode cX4_init 27 = .ok (.new 9, 3) := by decide +kernel
theorem dX4_init_30 : decode cX4_init 30 = .ok (.dup, 1) := by decide +kernel
theorem dX4_init_31 : decode cX4_init 31 = .ok (.invokespecial 11, 3) := by decide +kernel
theorem dX4_init_34 : decode cX4_init 34 = .ok (.putfield 19, 3) := by decide +kernel
theorem dX4_init_37 : decode cX4_init 37 = .ok (.aload_n 0, 1) := by decide +kernel
theorem dX4_init_38 : decode cX4_init 38 = .ok (.new 22, 3) := by decide +kernel
theorem dX4_init_41 : decode cX4_init 41 = .ok (.dup, 1) := by decide +kernel
theorem dX4_init_42 : decode cX4_init 42 = .ok (.invokespecial 24, 3) := by decide +kernel
theorem dX4_init_45 : decode cX4_init 45 = .ok (.putfield 25, 3) := by decide +kernel
theorem dX4_init_48 : decode cX4_init 48 = .ok (.aload_n 0, 1) := by decide +kernel
theorem dX4_init_49 : decode cX4_init 49 = .ok (.new 29, 3) := by decide +kernel
theorem dX4_init_52 : decode cX4_init 52 = .ok (.dup, 1) := by decide +kernel
theorem dX4_init_53 : decode cX4_init 53 = .ok (.invokespecial 31, 3) := by decide +kernel
theorem dX4_init_56 : decode cX4_init 56 = .ok (.putfield 32, 3) := by decide +kernel
theorem dX4_init_59 : decode cX4_init 59 = .ok (.aload_n 0, 1) := by decide +kernel
theorem dX4_init_60 : decode cX4_init 60 = .ok (.iconst 0, 1) := by decide +kernel
theorem dX4_init_61 : decode cX4_init 61 = .ok (.putfield 36, 3) := by decide +kernel
theorem dX4_init_64 : decode cX4_init 64 = .ok (.return_, 1) := by decide +kernel
theorem dX4_addMachine_0 : decode cX4_addMachine 0 = .ok (.iload_n 1, 1) := by decide +kernel
theorem dX4_addMachine_1 : decode cX4_addMachine 1 = .ok (.bipush 10, 2) := by decide +kernel
theorem dX4_addMachine_3 : decode cX4_addMachine 3 = .ok (.sipush 200, 3) := by decide +kernel
theorem dX4_addMachine_6 : decode cX4_addMachine 6 = .ok (.invokestatic 40, 3) := by decide +kernel
theorem dX4_addMachine_9 : decode cX4_addMachine 9 = .ok (.ifCond .eq 13, 3) := by decide +kernel
theorem dX4_addMachine_12 : decode cX4_addMachine 12 = .ok (.iload_n 2, 1) := by decide +kernel
theorem dX4_addMachine_13 : decode cX4_addMachine 13 = .ok (.iconst 0, 1) := by decide +kernel
theorem dX4_addMachine_14 : decode cX4_addMachine 14 = .ok (.bipush 12, 2) := by decide +kernel
theorem dX4_addMachine_16 : decode cX4_addMachine 16 = .ok (.invokestatic 40, 3) := by decide +kernel
theorem dX4_addMachine_19 : decode cX4_addMachine 19 = .ok (.ifCond .ne 6, 3) := by decide +kernel
theorem dX4_addMachine_22 : decode cX4_addMachine 22 = .ok (.bipush (-2), 2) := by decide +kernel
theorem dX4_addMachine_24 : decode cX4_addMachine 24 = .ok (.ireturn, 1) := by decide +kernel
theorem dX4_addMachine_25 : decode cX4_addMachine 25 = .ok (.aload_n 0, 1) := by decide +kernel
theorem dX4_addMachine_26 : decode cX4_addMachine 26 = .ok (.getfield 12, 3) := by decide +kernel
theorem dX4_addMachine_29 : decode cX4_addMachine 29 = .ok (.getfield 44, 3) := by decide +kernel
theorem dX4_addMachine_32 : decode cX4_addMachine 32 = .ok (.invokevirtual 48, 3) := by decide +kernel
theorem dX4_addMachine_35 : decode cX4_addMachine 35 = .ok (.ifCond .eq 6, 3) := by decide +kernel
theorem dX4_addMachine_38 : decode cX4_addMachine 38 = .ok (.bipush (-3), 2) := by decide +kernel
theorem dX4_addMachine_40 : decode cX4_addMachine 40 = .ok (.ireturn, 1) := by decide +kernel
theorem dX4_addMachine_41 : decode cX4_addMachine 41 = .ok (.aload_n 0, 1) := by decide +kernel
theorem dX4_addMachine_42 : decode cX4_addMachine 42 = .ok (.getfield 25, 3) := by decide +kernel
theorem dX4_addMachine_45 : decode cX4_addMachine 45 = .ok (.aload_n 0, 1) := by decide +kernel
theorem dX4_addMachine_46 : decode cX4_addMachine 46 = .ok (.getfield 12, 3) := by decide +kernel
theorem dX4_addMachine_49 : decode cX4_addMachine 49 = .ok (.invokevirtual 54, 3) := by decide +kernel
theorem dX4_addMachine_52 : decode cX4_addMachine 52 = .ok (.aload_n 0, 1) := by decide +kernel
theorem dX4_addMachine_53 : decode cX4_addMachine 53 = .ok (.getfield 12, 3) := by decide +kernel
theorem dX4_addMachine_56 : decode cX4_addMachine 56 = .ok (.iload_n 1, 1) := by decide +kernel
theorem dX4_addMachine_57 : decode cX4_addMachine 57 = .ok (.iload_n 2, 1) := by decide +kernel
theorem dX4_addMachine_58 : decode cX4_addMachine 58 = .ok (.invokevirtual 58, 3) := by decide +kernel
theorem dX4_addMachine_61 : decode cX4_addMachine 61 = .ok (.ireturn, 1) := by decide +kernel
theorem dX4_addMember_0 : decode cX4_addMember 0 = .ok (.aload_n 0, 1) := by decide +kernel
theorem dX4_addMember_1 : decode cX4_addMember 1 = .ok (.getfield 12, 3) := by decide +kernel
theorem dX4_addMember_4 : decode cX4_addMember 4 = .ok (.getfield 62, 3) := by decide +kernel
theorem dX4_addMember_7 : decode cX4_addMember 7 = .ok (.invokevirtual 48, 3) := by decide +kernel
theorem dX4_addMember_10 : decode cX4_addMember 10 = .ok (.ifCond .eq 6, 3) := by decide +kernel
theorem dX4_addMember_13 : decode cX4_addMember 13 = .ok (.bipush (-3), 2) := by decide +kernel
theorem dX4_addMember_15 : decode cX4_addMember 15 = .ok (.ireturn, 1) := by decide +kernel
theorem dX4_addMember_16 : decode cX4_addMember 16 = .ok (.aload_n 0, 1) := by decide +kernel
theorem dX4_addMember_17 : decode cX4_addMember 17 = .ok (.getfield 25, 3) := by decide +kernel
theorem dX4_addMember_20 : decode cX4_addMember 20 = .ok (.aload_n 0, 1) := by decide +kernel
theorem dX4_addMember_21 : decode cX4_addMember 21 = .ok (.getfield 12, 3) := by decide +kernel
theorem dX4_addMember_24 : decode cX4_addMember 24 = .ok (.invokevirtual 54, 3) := by decide +kernel
theorem dX4_addMember_27 : decode cX4_addMember 27 = .ok (.aload_n 0, 1) := by decide +kernel
theorem dX4_addMember_28 : decode cX4_addMember 28 = .ok (.getfield 12, 3) := by decide +kernel
theorem dX4_addMember_31 : decode cX4_addMember 31 = .ok (.getfield 62, 3) := by decide +kernel
theorem dX4_addMember_34 : decode cX4_addMember 34 = .ok (.invokevirtual 65, 3) := by decide +kernel
theorem dX4_addMember_37 : decode cX4_addMember 37 = .ok (.ireturn, 1) := by decide +kernel
theorem dX4_setWind_0 : decode cX4_setWind 0 = .ok (.aload_n 0, 1) := by decide +kernel
theorem dX4_setWind_1 : decode cX4_setWind 1 = .ok (.getfield 12, 3) := by decide +kernel
theorem dX4_setWind_4 : decode cX4_setWind 4 = .ok (.iload_n 1, 1) := by decide +kernel
theorem dX4_setWind_5 : decode cX4_setWind 5 = .ok (.invokevirtual 69, 3) := by decide +kernel
theorem dX4_setWind_8 : decode cX4_setWind 8 = .ok (.ifCond .ne 5, 3) := by decide +kernel
theorem dX4_setWind_11 : decode cX4_setWind 11 = .ok (.iconst (-1), 1) := by decide +kernel
theorem dX4_setWind_12 : decode cX4_setWind 12 = .ok (.ireturn, 1) := by decide +kernel
theorem dX4_setWind_13 : decode cX4_setWind 13 = .ok (.iload_n 2, 1) := by decide +kernel
theorem dX4_setWind_14 : decode cX4_setWind 14 = .ok (.iconst 0, 1) := by decide +kernel
theorem dX4_setWind_15 : decode cX4_setWind 15 = .ok (.bipush 99, 2) := by decide +kernel
theorem dX4_setWind_17 : decode cX4_setWind 17 = .ok (.invokestatic 40, 3) := by decide +kernel
theorem dX4_setWind_20 : decode cX4_setWind 20 = .ok (.ifCond .ne 6, 3) := by decide +kernel
theorem dX4_setWind_23 : decode cX4_setWind 23 = .ok (.bipush (-2), 2) := by decide +kernel
theorem dX4_setWind_25 : decode cX4_setWind 25 = .ok (.ireturn, 1) := by decide +kernel
theorem dX4_setWind_26 : decode cX4_setWind 26 = .ok (.aload_n 0, 1) := by decide +kernel
theorem dX4_setWind_27 : decode cX4_setWind 27 = .ok (.getfield 12, 3) := by decide +kernel
theorem dX4_setWind_30 : decode cX4_setWind 30 = .ok (.iload_n 1, 1) := by decide +kernel
theorem dX4_setWind_31 : decode cX4_setWind 31 = .ok (.invokevirtual 73, 3) := by decide +kernel
theorem dX4_setWind_34 : decode cX4_setWind 34 = .ok (.istore_n 3, 1) := by decide +kernel
theorem dX4_setWind_35 : decode cX4_setWind 35 = .ok (.iload_n 3, 1) := by decide +kernel
theorem dX4_setWind_36 : decode cX4_setWind 36 = .ok (.iload_n 2, 1) := by decide +kernel
theorem dX4_setWind_37 : decode cX4_setWind 37 = .ok (.if_icmp .ne 6, 3) := by decide +kernel
theorem dX4_setWind_40 : decode cX4_setWind 40 = .ok (.bipush (-5), 2) := by decide +kernel
theorem dX4_setWind_42 : decode cX4_setWind 42 = .ok (.ireturn, 1) := by decide +kernel
theorem dX4_setWind_43 : decode cX4_setWind 43 = .ok (.aload_n 0, 1) := by decide +kernel
theorem dX4_setWind_44 : decode cX4_setWind 44 = .ok (.getfield 25, 3) := by decide +kernel
theorem dX4_setWind_47 : decode cX4_setWind 47 = .ok (.aload_n 0, 1) := by decide +kernel
theorem dX4_setWind_48 : decode cX4_setWind 48 = .ok (.getfield 12, 3) := by decide +kernel
theorem dX4_setWind_51 : decode cX4_setWind 51 = .ok (.invokevirtual 54, 3) := by decide +kernel
theorem dX4_setWind_54 : decode cX4_setWind 54 = .ok (.aload_n 0, 1) := by decide +kernel
theorem dX4_setWind_55 : decode cX4_setWind 55 = .ok (.getfield 12, 3) := by decide +kernel
theorem dX4_setWind_58 : decode cX4_setWind 58 = .ok (.iload_n 1, 1) := by decide +kernel
theorem dX4_setWind_59 : decode cX4_setWind 59 = .ok (.iload_n 2, 1) := by decide +kernel
theorem dX4_setWind_60 : decode cX4_setWind 60 = .ok (.invokevirtual 77, 3) := by decide +kernel
theorem dX4_setWind_63 : decode cX4_setWind 63 = .ok (.iload_n 3, 1) := by decide +kernel
theorem dX4_setWind_64 : decode cX4_setWind 64 = .ok (.ireturn, 1) := by decide +kernel
theorem dX4_book_0 : decode cX4_book 0 = .ok (.aload_n 0, 1) := by decide +kernel
theorem dX4_book_1 : decode cX4_book 1 = .ok (.getfield 12, 3) := by decide +kernel
theorem dX4_book_4 : decode cX4_book 4 = .ok (.getfield 62, 3) := by decide +kernel
theorem dX4_book_7 : decode cX4_book 7 = .ok (.iload_n 1, 1) := by decide +kernel
theorem dX4_book_8 : decode cX4_book 8 = .ok (.invokevirtual 81, 3) := by decide +kernel
theorem dX4_book_11 : decode cX4_book 11 = .ok (.ifCond .eq 28, 3) := by decide +kernel
theorem dX4_book_14 : decode cX4_book 14 = .ok (.aload_n 0, 1) := by decide +kernel
theorem dX4_book_15 : decode cX4_book 15 = .ok (.getfield 12, 3) := by decide +kernel
theorem dX4_book_18 : decode cX4_book 18 = .ok (.getfield 44, 3) := by decide +kernel
theorem dX4_book_21 : decode cX4_book 21 = .ok (.iload_n 2, 1) := by decide +kernel
theorem dX4_book_22 : decode cX4_book 22 = .ok (.invokevirtual 81, 3) := by decide +kernel
theorem dX4_book_25 : decode cX4_book 25 = .ok (.ifCond .eq 14, 3) := by decide +kernel
theorem dX4_book_28 : decode cX4_book 28 = .ok (.aload_n 0, 1) := by decide +kernel
theorem dX4_book_29 : decode cX4_book 29 = .ok (.getfield 12, 3) := by decide +kernel
theorem dX4_book_32 : decode cX4_book 32 = .ok (.iload_n 3, 1) := by decide +kernel
theorem dX4_book_33 : decode cX4_book 33 = .ok (.invokevirtual 69, 3) := by decide +kernel
theorem dX4_book_36 : decode cX4_book 36 = .ok (.ifCond .ne 5, 3) := by decide +kernel
theorem dX4_book_39 : decode cX4_book 39 = .ok (.iconst (-1), 1) := by decide +kernel
theorem dX4_book_40 : decode cX4_book 40 = .ok (.ireturn, 1) := by decide +kernel
theorem dX4_book_41 : decode cX4_book 41 = .ok (.iload 4, 2) := by decide +kernel
theorem dX4_book_43 : decode cX4_book 43 = .ok (.iload 5, 2) := by decide +kernel
theorem dX4_book_45 : decode cX4_book 45 = .ok (.invokestatic 84, 3) := by decide +kernel
theorem dX4_book_48 : decode cX4_book 48 = .ok (.ifCond .ne 6, 3) := by decide +kernel
theorem dX4_book_51 : decode cX4_book 51 = .ok (.bipush (-2), 2) := by decide +kernel
theorem dX4_book_53 : decode cX4_book 53 = .ok (.ireturn, 1) := by decide +kernel
theorem dX4_book_54 : decode cX4_book 54 = .ok (.aload_n 0, 1) := by decide +kernel
theorem dX4_book_55 : decode cX4_book 55 = .ok (.getfield 12, 3) := by decide +kernel
theorem dX4_book_58 : decode cX4_book 58 = .ok (.iload_n 2, 1) := by decide +kernel
theorem dX4_book_59 : decode cX4_book 59 = .ok (.iload_n 3, 1) := by decide +kernel
theorem dX4_book_60 : decode cX4_book 60 = .ok (.iload 4, 2) := by decide +kernel
theorem dX4_book_62 : decode cX4_book 62 = .ok (.iload 5, 2) := by decide +kernel
theorem dX4_book_64 : decode cX4_book 64 = .ok (.invokevirtual 88, 3) := by decide +kernel
theorem dX4_book_67 : decode cX4_book 67 = .ok (.ifCond .ne 6, 3) := by decide +kernel
theorem dX4_book_70 : decode cX4_book 70 = .ok (.bipush (-4), 2) := by decide +kernel
theorem dX4_book_72 : decode cX4_book 72 = .ok (.ireturn, 1) := by decide +kernel
theorem dX4_book_73 : decode cX4_book 73 = .ok (.aload_n 0, 1) := by decide +kernel
theorem dX4_book_74 : decode cX4_book 74 = .ok (.getfield 12, 3) := by decide +kernel
theorem dX4_book_77 : decode cX4_book 77 = .ok (.getfield 92, 3) := by decide +kernel
theorem dX4_book_80 : decode cX4_book 80 = .ok (.invokevirtual 48, 3) := by decide +kernel
theorem dX4_book_83 : decode cX4_book 83 = .ok (.ifCond .eq 6, 3) := by decide +kernel
theorem dX4_book_86 : decode cX4_book 86 = .ok (.bipush (-3), 2) := by decide +kernel
theorem dX4_book_88 : decode cX4_book 88 = .ok (.ireturn, 1) := by decide +kernel
theorem dX4_book_89 : decode cX4_book 89 = .ok (.aload_n 0, 1) := by decide +kernel
theorem dX4_book_90 : decode cX4_book 90 = .ok (.getfield 25, 3) := by decide +kernel
theorem dX4_book_93 : decode cX4_book 93 = .ok (.aload_n 0, 1) := by decide +kernel
theorem dX4_book_94 : decode cX4_book 94 = .ok (.getfield 12, 3) := by decide +kernel
theorem dX4_book_97 : decode cX4_book 97 = .ok (.invokevirtual 54, 3) := by decide +kernel
theorem dX4_book_100 : decode cX4_book 100 = .ok (.aload_n 0, 1) := by decide +kernel
theorem dX4_book_101 : decode cX4_book 101 = .ok (.getfield 12, 3) := by decide +kernel
theorem dX4_book_104 : decode cX4_book 104 = .ok (.iload_n 1, 1) := by decide +kernel
theorem dX4_book_105 : decode cX4_book 105 = .ok (.iload 4, 2) := by decide +kernel
theorem dX4_book_107 : decode cX4_book 107 = .ok (.iload 5, 2) := by decide +kernel
theorem dX4_book_109 : decode cX4_book 109 = .ok (.invokevirtual 95, 3) := by decide +kernel
theorem dX4_book_112 : decode cX4_book 112 = .ok (.istore 6, 2) := by decide +kernel
theorem dX4_book_114 : decode cX4_book 114 = .ok (.aload_n 0, 1) := by decide +kernel
theorem dX4_book_115 : decode cX4_book 115 = .ok (.getfield 12, 3) := by decide +kernel
theorem dX4_book_118 : decode cX4_book 118 = .ok (.iload 6, 2) := by decide +kernel
theorem dX4_book_120 : decode cX4_book 120 = .ok (.iload_n 2, 1) := by decide +kernel
theorem dX4_book_121 : decode cX4_book 121 = .ok (.iload_n 3, 1) := by decide +kernel
theorem dX4_book_122 : decode cX4_book 122 = .ok (.invokevirtual 99, 3) := by decide +kernel
theorem dX4_book_125 : decode cX4_book 125 = .ok (.iload 6, 2) := by decide +kernel
theorem dX4_book_127 : decode cX4_book 127 = .ok (.ireturn, 1) := by decide +kernel
theorem dX4_cancel_0 : decode cX4_cancel 0 = .ok (.aload_n 0, 1) := by decide +kernel
theorem dX4_cancel_1 : decode cX4_cancel 1 = .ok (.getfield 12, 3) := by decide +kernel
theorem dX4_cancel_4 : decode cX4_cancel 4 = .ok (.getfield 92, 3) := by decide +kernel
theorem dX4_cancel_7 : decode cX4_cancel 7 = .ok (.iload_n 1, 1) := by decide +kernel
theorem dX4_cancel_8 : decode cX4_cancel 8 = .ok (.invokevirtual 81, 3) := by decide +kernel
theorem dX4_cancel_11 : decode cX4_cancel 11 = .ok (.ifCond .ne 5, 3) := by decide +kernel
theorem dX4_cancel_14 : decode cX4_cancel 14 = .ok (.iconst (-1), 1) := by decide +kernel
theorem dX4_cancel_15 : decode cX4_cancel 15 = .ok (.ireturn, 1) := by decide +kernel
theorem dX4_cancel_16 : decode cX4_cancel 16 = .ok (.aload_n 0, 1) := by decide +kernel
theorem dX4_cancel_17 : decode cX4_cancel 17 = .ok (.getfield 12, 3) := by decide +kernel
theorem dX4_cancel_20 : decode cX4_cancel 20 = .ok (.iload_n 1, 1) := by decide +kernel
theorem dX4_cancel_21 : decode cX4_cancel 21 = .ok (.invokevirtual 103, 3) := by decide +kernel
theorem dX4_cancel_24 : decode cX4_cancel 24 = .ok (.ifCond .ne 6, 3) := by decide +kernel
theorem dX4_cancel_27 : decode cX4_cancel 27 = .ok (.bipush (-4), 2) := by decide +kernel
theorem dX4_cancel_29 : decode cX4_cancel 29 = .ok (.ireturn, 1) := by decide +kernel
theorem dX4_cancel_30 : decode cX4_cancel 30 = .ok (.aload_n 0, 1) := by decide +kernel
theorem dX4_cancel_31 : decode cX4_cancel 31 = .ok (.getfield 25, 3) := by decide +kernel
theorem dX4_cancel_34 : decode cX4_cancel 34 = .ok (.aload_n 0, 1) := by decide +kernel
theorem dX4_cancel_35 : decode cX4_cancel 35 = .ok (.getfield 12, 3) := by decide +kernel
theorem dX4_cancel_38 : decode cX4_cancel 38 = .ok (.invokevirtual 54, 3) := by decide +kernel
theorem dX4_cancel_41 : decode cX4_cancel 41 = .ok (.aload_n 0, 1) := by decide +kernel
theorem dX4_cancel_42 : decode cX4_cancel 42 = .ok (.getfield 12, 3) := by decide +kernel
theorem dX4_cancel_45 : decode cX4_cancel 45 = .ok (.getfield 92, 3) := by decide +kernel
theorem dX4_cancel_48 : decode cX4_cancel 48 = .ok (.iload_n 1, 1) := by decide +kernel
theorem dX4_cancel_49 : decode cX4_cancel 49 = .ok (.iconst 2, 1) := by decide +kernel
theorem dX4_cancel_50 : decode cX4_cancel 50 = .ok (.invokevirtual 106, 3) := by decide +kernel
theorem dX4_cancel_53 : decode cX4_cancel 53 = .ok (.aload_n 0, 1) := by decide +kernel
theorem dX4_cancel_54 : decode cX4_cancel 54 = .ok (.getfield 12, 3) := by decide +kernel
theorem dX4_cancel_57 : decode cX4_cancel 57 = .ok (.getfield 109, 3) := by decide +kernel
theorem dX4_cancel_60 : decode cX4_cancel 60 = .ok (.if_icmp .ne 7, 3) := by decide +kernel
theorem dX4_cancel_63 : decode cX4_cancel 63 = .ok (.iconst 4, 1) := by decide +kernel
theorem dX4_cancel_64 : decode cX4_cancel 64 = .ok (.goto 4, 3) := by decide +kernel
theorem dX4_cancel_67 : decode cX4_cancel 67 = .ok (.iconst 0, 1) := by decide +kernel
theorem dX4_cancel_68 : decode cX4_cancel 68 = .ok (.istore_n 2, 1) := by decide +kernel
theorem dX4_cancel_69 : decode cX4_cancel 69 = .ok (.aload_n 0, 1) := by decide +kernel
theorem dX4_cancel_70 : decode cX4_cancel 70 = .ok (.getfield 12, 3) := by decide +kernel
theorem dX4_cancel_73 : decode cX4_cancel 73 = .ok (.aload_n 0, 1) := by decide +kernel
theorem dX4_cancel_74 : decode cX4_cancel 74 = .ok (.getfield 12, 3) := by decide +kernel
theorem dX4_cancel_77 : decode cX4_cancel 77 = .ok (.getfield 92, 3) := by decide +kernel
theorem dX4_cancel_80 : decode cX4_cancel 80 = .ok (.iload_n 1, 1) := by decide +kernel
theorem dX4_cancel_81 : decode cX4_cancel 81 = .ok (.iconst 0, 1) := by decide +kernel
theorem dX4_cancel_82 : decode cX4_cancel 82 = .ok (.invokevirtual 106, 3) := by decide +kernel
theorem dX4_cancel_85 : decode cX4_cancel 85 = .ok (.iload_n 2, 1) := by decide +kernel
theorem dX4_cancel_86 : decode cX4_cancel 86 = .ok (.invokevirtual 113, 3) := by decide +kernel
theorem dX4_cancel_89 : decode cX4_cancel 89 = .ok (.aload_n 0, 1) := by decide +kernel
theorem dX4_cancel_90 : decode cX4_cancel 90 = .ok (.getfield 12, 3) := by decide +kernel
theorem dX4_cancel_93 : decode cX4_cancel 93 = .ok (.getfield 92, 3) := by decide +kernel
theorem dX4_cancel_96 : decode cX4_cancel 96 = .ok (.iload_n 1, 1) := by decide +kernel
theorem dX4_cancel_97 : decode cX4_cancel 97 = .ok (.iconst 5, 1) := by decide +kernel
theorem dX4_cancel_98 : decode cX4_cancel 98 = .ok (.iconst 3, 1) := by decide +kernel
theorem dX4_cancel_99 : decode cX4_cancel 99 = .ok (.invokevirtual 116, 3) := by decide +kernel
theorem dX4_cancel_102 : decode cX4_cancel 102 = .ok (.iload_n 2, 1) := by decide +kernel
theorem dX4_cancel_103 : decode cX4_cancel 103 = .ok (.ireturn, 1) := by decide +kernel
theorem dX4_swap_0 : decode cX4_swap 0 = .ok (.aload_n 0, 1) := by decide +kernel
theorem dX4_swap_1 : decode cX4_swap 1 = .ok (.getfield 12, 3) := by decide +kernel
theorem dX4_swap_4 : decode cX4_swap 4 = .ok (.getfield 92, 3) := by decide +kernel
theorem dX4_swap_7 : decode cX4_swap 7 = .ok (.iload_n 1, 1) := by decide +kernel
theorem dX4_swap_8 : decode cX4_swap 8 = .ok (.invokevirtual 81, 3) := by decide +kernel
theorem dX4_swap_11 : decode cX4_swap 11 = .ok (.ifCond .eq 17, 3) := by decide +kernel
theorem dX4_swap_14 : decode cX4_swap 14 = .ok (.aload_n 0, 1) := by decide +kernel
theorem dX4_swap_15 : decode cX4_swap 15 = .ok (.getfield 12, 3) := by decide +kernel
theorem dX4_swap_18 : decode cX4_swap 18 = .ok (.getfield 92, 3) := by decide +kernel
theorem dX4_swap_21 : decode cX4_swap 21 = .ok (.iload_n 2, 1) := by decide +kernel
theorem dX4_swap_22 : decode cX4_swap 22 = .ok (.invokevirtual 81, 3) := by decide +kernel
theorem dX4_swap_25 : decode cX4_swap 25 = .ok (.ifCond .ne 5, 3) := by decide +kernel
theorem dX4_swap_28 : decode cX4_swap 28 = .ok (.iconst (-1), 1) := by decide +kernel
theorem dX4_swap_29 : decode cX4_swap 29 = .ok (.ireturn, 1) := by decide +kernel
theorem dX4_swap_30 : decode cX4_swap 30 = .ok (.iload_n 1, 1) := by decide +kernel
theorem dX4_swap_31 : decode cX4_swap 31 = .ok (.iload_n 2, 1) := by decide +kernel
theorem dX4_swap_32 : decode cX4_swap 32 = .ok (.if_icmp .ne 6, 3) := by decide +kernel
theorem dX4_swap_35 : decode cX4_swap 35 = .ok (.bipush (-2), 2) := by decide +kernel
theorem dX4_swap_37 : decode cX4_swap 37 = .ok (.ireturn, 1) := by decide +kernel
theorem dX4_swap_38 : decode cX4_swap 38 = .ok (.aload_n 0, 1) := by decide +kernel
theorem dX4_swap_39 : decode cX4_swap 39 = .ok (.getfield 12, 3) := by decide +kernel
theorem dX4_swap_42 : decode cX4_swap 42 = .ok (.iload_n 1, 1) := by decide +kernel
theorem dX4_swap_43 : decode cX4_swap 43 = .ok (.invokevirtual 103, 3) := by decide +kernel
theorem dX4_swap_46 : decode cX4_swap 46 = .ok (.ifCond .eq 14, 3) := by decide +kernel
theorem dX4_swap_49 : decode cX4_swap 49 = .ok (.aload_n 0, 1) := by decide +kernel
theorem dX4_swap_50 : decode cX4_swap 50 = .ok (.getfield 12, 3) := by decide +kernel
theorem dX4_swap_53 : decode cX4_swap 53 = .ok (.iload_n 2, 1) := by decide +kernel
theorem dX4_swap_54 : decode cX4_swap 54 = .ok (.invokevirtual 103, 3) := by decide +kernel
theorem dX4_swap_57 : decode cX4_swap 57 = .ok (.ifCond .ne 6, 3) := by decide +kernel
theorem dX4_swap_60 : decode cX4_swap 60 = .ok (.bipush (-4), 2) := by decide +kernel
theorem dX4_swap_62 : decode cX4_swap 62 = .ok (.ireturn, 1) := by decide +kernel
theorem dX4_swap_63 : decode cX4_swap 63 = .ok (.aload_n 0, 1) := by decide +kernel
theorem dX4_swap_64 : decode cX4_swap 64 = .ok (.getfield 12, 3) := by decide +kernel
theorem dX4_swap_67 : decode cX4_swap 67 = .ok (.getfield 92, 3) := by decide +kernel
theorem dX4_swap_70 : decode cX4_swap 70 = .ok (.iload_n 1, 1) := by decide +kernel
theorem dX4_swap_71 : decode cX4_swap 71 = .ok (.iconst 1, 1) := by decide +kernel
theorem dX4_swap_72 : decode cX4_swap 72 = .ok (.invokevirtual 106, 3) := by decide +kernel
theorem dX4_swap_75 : decode cX4_swap 75 = .ok (.istore_n 3, 1) := by decide +kernel
theorem dX4_swap_76 : decode cX4_swap 76 = .ok (.aload_n 0, 1) := by decide +kernel
theorem dX4_swap_77 : decode cX4_swap 77 = .ok (.getfield 12, 3) := by decide +kernel
theorem dX4_swap_80 : decode cX4_swap 80 = .ok (.getfield 92, 3) := by decide +kernel
theorem dX4_swap_83 : decode cX4_swap 83 = .ok (.iload_n 1, 1) := by decide +kernel
theorem dX4_swap_84 : decode cX4_swap 84 = .ok (.iconst 2, 1) := by decide +kernel
theorem dX4_swap_85 : decode cX4_swap 85 = .ok (.invokevirtual 106, 3) := by decide +kernel
theorem dX4_swap_88 : decode cX4_swap 88 = .ok (.istore 4, 2) := by decide +kernel
theorem dX4_swap_90 : decode cX4_swap 90 = .ok (.aload_n 0, 1) := by decide +kernel
theorem dX4_swap_91 : decode cX4_swap 91 = .ok (.getfield 12, 3) := by decide +kernel
theorem dX4_swap_94 : decode cX4_swap 94 = .ok (.getfield 92, 3) := by decide +kernel
theorem dX4_swap_97 : decode cX4_swap 97 = .ok (.iload_n 2, 1) := by decide +kernel
theorem dX4_swap_98 : decode cX4_swap 98 = .ok (.iconst 1, 1) := by decide +kernel
theorem dX4_swap_99 : decode cX4_swap 99 = .ok (.invokevirtual 106, 3) := by decide +kernel
theorem dX4_swap_102 : decode cX4_swap 102 = .ok (.istore 5, 2) := by decide +kernel
theorem dX4_swap_104 : decode cX4_swap 104 = .ok (.aload_n 0, 1) := by decide +kernel
theorem dX4_swap_105 : decode cX4_swap 105 = .ok (.getfield 12, 3) := by decide +kernel
theorem dX4_swap_108 : decode cX4_swap 108 = .ok (.getfield 92, 3) := by decide +kernel
theorem dX4_swap_111 : decode cX4_swap 111 = .ok (.iload_n 2, 1) := by decide +kernel
theorem dX4_swap_112 : decode cX4_swap 112 = .ok (.iconst 2, 1) := by decide +kernel
theorem dX4_swap_113 : decode cX4_swap 113 = .ok (.invokevirtual 106, 3) := by decide +kernel
theorem dX4_swap_116 : decode cX4_swap 116 = .ok (.istore 6, 2) := by decide +kernel
theorem dX4_swap_118 : decode cX4_swap 118 = .ok (.aload_n 0, 1) := by decide +kernel
theorem dX4_swap_119 : decode cX4_swap 119 = .ok (.getfield 12, 3) := by decide +kernel
theorem dX4_swap_122 : decode cX4_swap 122 = .ok (.iload 5, 2) := by decide +kernel
theorem dX4_swap_124 : decode cX4_swap 124 = .ok (.iload_n 1, 1) := by decide +kernel
theorem dX4_swap_125 : decode cX4_swap 125 = .ok (.invokevirtual 119, 3) := by decide +kernel
theorem dX4_swap_128 : decode cX4_swap 128 = .ok (.ifCond .eq 15, 3) := by decide +kernel
theorem dX4_swap_131 : decode cX4_swap 131 = .ok (.aload_n 0, 1) := by decide +kernel
theorem dX4_swap_132 : decode cX4_swap 132 = .ok (.getfield 12, 3) := by decide +kernel
theorem dX4_swap_135 : decode cX4_swap 135 = .ok (.iload_n 3, 1) := by decide +kernel
theorem dX4_swap_136 : decode cX4_swap 136 = .ok (.iload_n 2, 1) := by decide +kernel
theorem dX4_swap_137 : decode cX4_swap 137 = .ok (.invokevirtual 119, 3) := by decide +kernel
theorem dX4_swap_140 : decode cX4_swap 140 = .ok (.ifCond .ne 6, 3) := by decide +kernel
theorem dX4_swap_143 : decode cX4_swap 143 = .ok (.bipush (-4), 2) := by decide +kernel
theorem dX4_swap_145 : decode cX4_swap 145 = .ok (.ireturn, 1) := by decide +kernel
theorem dX4_swap_146 : decode cX4_swap 146 = .ok (.aload_n 0, 1) := by decide +kernel
theorem dX4_swap_147 : decode cX4_swap 147 = .ok (.getfield 25, 3) := by decide +kernel
theorem dX4_swap_150 : decode cX4_swap 150 = .ok (.aload_n 0, 1) := by decide +kernel
theorem dX4_swap_151 : decode cX4_swap 151 = .ok (.getfield 12, 3) := by decide +kernel
theorem dX4_swap_154 : decode cX4_swap 154 = .ok (.invokevirtual 54, 3) := by decide +kernel
theorem dX4_swap_157 : decode cX4_swap 157 = .ok (.aload_n 0, 1) := by decide +kernel
theorem dX4_swap_158 : decode cX4_swap 158 = .ok (.getfield 12, 3) := by decide +kernel
theorem dX4_swap_161 : decode cX4_swap 161 = .ok (.iload_n 1, 1) := by decide +kernel
theorem dX4_swap_162 : decode cX4_swap 162 = .ok (.iload 5, 2) := by decide +kernel
theorem dX4_swap_164 : decode cX4_swap 164 = .ok (.iload 6, 2) := by decide +kernel
theorem dX4_swap_166 : decode cX4_swap 166 = .ok (.invokevirtual 99, 3) := by decide +kernel
theorem dX4_swap_169 : decode cX4_swap 169 = .ok (.aload_n 0, 1) := by decide +kernel
theorem dX4_swap_170 : decode cX4_swap 170 = .ok (.getfield 12, 3) := by decide +kernel
theorem dX4_swap_173 : decode cX4_swap 173 = .ok (.iload_n 2, 1) := by decide +kernel
theorem dX4_swap_174 : decode cX4_swap 174 = .ok (.iload_n 3, 1) := by decide +kernel
theorem dX4_swap_175 : decode cX4_swap 175 = .ok (.iload 4, 2) := by decide +kernel
theorem dX4_swap_177 : decode cX4_swap 177 = .ok (.invokevirtual 99, 3) := by decide +kernel
theorem dX4_swap_180 : decode cX4_swap 180 = .ok (.iload 6, 2) := by decide +kernel
theorem dX4_swap_182 : decode cX4_swap 182 = .ok (.ireturn, 1) := by decide +kernel
theorem dX4_order_0 : decode cX4_order 0 = .ok (.aload_n 0, 1) := by decide +kernel
theorem dX4_order_1 : decode cX4_order 1 = .ok (.getfield 12, 3) := by decide +kernel
theorem dX4_order_4 : decode cX4_order 4 = .ok (.getfield 62, 3) := by decide +kernel
theorem dX4_order_7 : decode cX4_order 7 = .ok (.iload_n 1, 1) := by decide +kernel
theorem dX4_order_8 : decode cX4_order 8 = .ok (.invokevirtual 81, 3) := by decide +kernel
theorem dX4_order_11 : decode cX4_order 11 = .ok (.ifCond .eq 43, 3) := by decide +kernel
theorem dX4_order_14 : decode cX4_order 14 = .ok (.aload_n 0, 1) := by decide +kernel
theorem dX4_order_15 : decode cX4_order 15 = .ok (.getfield 12, 3) := by decide +kernel
theorem dX4_order_18 : decode cX4_order 18 = .ok (.getfield 44, 3) := by decide +kernel
theorem dX4_order_21 : decode cX4_order 21 = .ok (.iload_n 2, 1) := by decide +kernel
theorem dX4_order_22 : decode cX4_order 22 = .ok (.invokevirtual 81, 3) := by decide +kernel
theorem dX4_order_25 : decode cX4_order 25 = .ok (.ifCond .eq 29, 3) := by decide +kernel
theorem dX4_order_28 : decode cX4_order 28 = .ok (.aload_n 0, 1) := by decide +kernel
theorem dX4_order_29 : decode cX4_order 29 = .ok (.getfield 12, 3) := by decide +kernel
theorem dX4_order_32 : decode cX4_order 32 = .ok (.getfield 44, 3) := by decide +kernel
theorem dX4_order_35 : decode cX4_order 35 = .ok (.iload_n 3, 1) := by decide +kernel
theorem dX4_order_36 : decode cX4_order 36 = .ok (.invokevirtual 81, 3) := by decide +kernel
theorem dX4_order_39 : decode cX4_order 39 = .ok (.ifCond .eq 15, 3) := by decide +kernel
theorem dX4_order_42 : decode cX4_order 42 = .ok (.aload_n 0, 1) := by decide +kernel
theorem dX4_order_43 : decode cX4_order 43 = .ok (.getfield 12, 3) := by decide +kernel
theorem dX4_order_46 : decode cX4_order 46 = .ok (.iload 5, 2) := by decide +kernel
theorem dX4_order_48 : decode cX4_order 48 = .ok (.invokevirtual 69, 3) := by decide +kernel
theorem dX4_order_51 : decode cX4_order 51 = .ok (.ifCond .ne 5, 3) := by decide +kernel
theorem dX4_order_54 : decode cX4_order 54 = .ok (.iconst (-1), 1) := by decide +kernel
theorem dX4_order_55 : decode cX4_order 55 = .ok (.ireturn, 1) := by decide +kernel
theorem dX4_order_56 : decode cX4_order 56 = .ok (.iload 4, 2) := by decide +kernel
theorem dX4_order_58 : decode cX4_order 58 = .ok (.iconst 1, 1) := by decide +kernel
theorem dX4_order_59 : decode cX4_order 59 = .ok (.bipush 12, 2) := by decide +kernel
theorem dX4_order_61 : decode cX4_order 61 = .ok (.invokestatic 40, 3) := by decide +kernel
theorem dX4_order_64 : decode cX4_order 64 = .ok (.ifCond .eq 8, 3) := by decide +kernel
theorem dX4_order_67 : decode cX4_order 67 = .ok (.iload_n 2, 1) := by decide +kernel
theorem dX4_order_68 : decode cX4_order 68 = .ok (.iload_n 3, 1) := by decide +kernel
theorem dX4_order_69 : decode cX4_order 69 = .ok (.if_icmp .ne 6, 3) := by decide +kernel
theorem dX4_order_72 : decode cX4_order 72 = .ok (.bipush (-2), 2) := by decide +kernel
theorem dX4_order_74 : decode cX4_order 74 = .ok (.ireturn, 1) := by decide +kernel
theorem dX4_order_75 : decode cX4_order 75 = .ok (.aload_n 0, 1) := by decide +kernel
theorem dX4_order_76 : decode cX4_order 76 = .ok (.getfield 12, 3) := by decide +kernel
theorem dX4_order_79 : decode cX4_order 79 = .ok (.getfield 122, 3) := by decide +kernel
theorem dX4_order_82 : decode cX4_order 82 = .ok (.invokevirtual 48, 3) := by decide +kernel
theorem dX4_order_85 : decode cX4_order 85 = .ok (.ifCond .eq 6, 3) := by decide +kernel
theorem dX4_order_88 : decode cX4_order 88 = .ok (.bipush (-3), 2) := by decide +kernel
theorem dX4_order_90 : decode cX4_order 90 = .ok (.ireturn, 1) := by decide +kernel
theorem dX4_order_91 : decode cX4_order 91 = .ok (.aload_n 0, 1) := by decide +kernel
theorem dX4_order_92 : decode cX4_order 92 = .ok (.getfield 25, 3) := by decide +kernel
theorem dX4_order_95 : decode cX4_order 95 = .ok (.aload_n 0, 1) := by decide +kernel
theorem dX4_order_96 : decode cX4_order 96 = .ok (.getfield 12, 3) := by decide +kernel
theorem dX4_order_99 : decode cX4_order 99 = .ok (.invokevirtual 54, 3) := by decide +kernel
theorem dX4_order_102 : decode cX4_order 102 = .ok (.aload_n 0, 1) := by decide +kernel
theorem dX4_order_103 : decode cX4_order 103 = .ok (.getfield 12, 3) := by decide +kernel
theorem dX4_order_106 : decode cX4_order 106 = .ok (.iload_n 1, 1) := by decide +kernel
theorem dX4_order_107 : decode cX4_order 107 = .ok (.iload_n 2, 1) := by decide +kernel
theorem dX4_order_108 : decode cX4_order 108 = .ok (.iload_n 3, 1) := by decide +kernel
theorem dX4_order_109 : decode cX4_order 109 = .ok (.iload 4, 2) := by decide +kernel
theorem dX4_order_111 : decode cX4_order 111 = .ok (.iload 5, 2) := by decide +kernel
theorem dX4_order_113 : decode cX4_order 113 = .ok (.invokevirtual 125, 3) := by decide +kernel
theorem dX4_order_116 : decode cX4_order 116 = .ok (.ireturn, 1) := by decide +kernel
theorem dX4_takeBack_0 : decode cX4_takeBack 0 = .ok (.aload_n 0, 1) := by decide +kernel
theorem dX4_takeBack_1 : decode cX4_takeBack 1 = .ok (.getfield 12, 3) := by decide +kernel
theorem dX4_takeBack_4 : decode cX4_takeBack 4 = .ok (.getfield 122, 3) := by decide +kernel
theorem dX4_takeBack_7 : decode cX4_takeBack 7 = .ok (.iload_n 1, 1) := by decide +kernel
theorem dX4_takeBack_8 : decode cX4_takeBack 8 = .ok (.invokevirtual 81, 3) := by decide +kernel
theorem dX4_takeBack_11 : decode cX4_takeBack 11 = .ok (.ifCond .ne 5, 3) := by decide +kernel
theorem dX4_takeBack_14 : decode cX4_takeBack 14 = .ok (.iconst (-1), 1) := by decide +kernel
theorem dX4_takeBack_15 : decode cX4_takeBack 15 = .ok (.ireturn, 1) := by decide +kernel
theorem dX4_takeBack_16 : decode cX4_takeBack 16 = .ok (.aload_n 0, 1) := by decide +kernel
theorem dX4_takeBack_17 : decode cX4_takeBack 17 = .ok (.getfield 25, 3) := by decide +kernel
theorem dX4_takeBack_20 : decode cX4_takeBack 20 = .ok (.aload_n 0, 1) := by decide +kernel
theorem dX4_takeBack_21 : decode cX4_takeBack 21 = .ok (.getfield 12, 3) := by decide +kernel
theorem dX4_takeBack_24 : decode cX4_takeBack 24 = .ok (.invokevirtual 54, 3) := by decide +kernel
theorem dX4_takeBack_27 : decode cX4_takeBack 27 = .ok (.aload_n 0, 1) := by decide +kernel
theorem dX4_takeBack_28 : decode cX4_takeBack 28 = .ok (.getfield 12, 3) := by decide +kernel
theorem dX4_takeBack_31 : decode cX4_takeBack 31 = .ok (.getfield 122, 3) := by decide +kernel
theorem dX4_takeBack_34 : decode cX4_takeBack 34 = .ok (.iload_n 1, 1) := by decide +kernel
theorem dX4_takeBack_35 : decode cX4_takeBack 35 = .ok (.invokevirtual 129, 3) := by decide +kernel
theorem dX4_takeBack_38 : decode cX4_takeBack 38 = .ok (.aload_n 0, 1) := by decide +kernel
theorem dX4_takeBack_39 : decode cX4_takeBack 39 = .ok (.getfield 12, 3) := by decide +kernel
theorem dX4_takeBack_42 : decode cX4_takeBack 42 = .ok (.getfield 122, 3) := by decide +kernel
theorem dX4_takeBack_45 : decode cX4_takeBack 45 = .ok (.invokevirtual 133, 3) := by decide +kernel
theorem dX4_takeBack_48 : decode cX4_takeBack 48 = .ok (.ireturn, 1) := by decide +kernel
theorem dX4_pass_0 : decode cX4_pass 0 = .ok (.iload_n 1, 1) := by decide +kernel
theorem dX4_pass_1 : decode cX4_pass 1 = .ok (.iconst 1, 1) := by decide +kernel
theorem dX4_pass_2 : decode cX4_pass 2 = .ok (.bipush 20, 2) := by decide +kernel
theorem dX4_pass_4 : decode cX4_pass 4 = .ok (.invokestatic 40, 3) := by decide +kernel
theorem dX4_pass_7 : decode cX4_pass 7 = .ok (.ifCond .ne 6, 3) := by decide +kernel
theorem dX4_pass_10 : decode cX4_pass 10 = .ok (.bipush (-2), 2) := by decide +kernel
theorem dX4_pass_12 : decode cX4_pass 12 = .ok (.ireturn, 1) := by decide +kernel
theorem dX4_pass_13 : decode cX4_pass 13 = .ok (.aload_n 0, 1) := by decide +kernel
theorem dX4_pass_14 : decode cX4_pass 14 = .ok (.getfield 12, 3) := by decide +kernel
theorem dX4_pass_17 : decode cX4_pass 17 = .ok (.getfield 109, 3) := by decide +kernel
theorem dX4_pass_20 : decode cX4_pass 20 = .ok (.iload_n 1, 1) := by decide +kernel
theorem dX4_pass_21 : decode cX4_pass 21 = .ok (.iadd, 1) := by decide +kernel
theorem dX4_pass_22 : decode cX4_pass 22 = .ok (.sipush 200, 3) := by decide +kernel
theorem dX4_pass_25 : decode cX4_pass 25 = .ok (.if_icmp .lt 6, 3) := by decide +kernel
theorem dX4_pass_28 : decode cX4_pass 28 = .ok (.bipush (-4), 2) := by decide +kernel
theorem dX4_pass_30 : decode cX4_pass 30 = .ok (.ireturn, 1) := by decide +kernel
theorem dX4_pass_31 : decode cX4_pass 31 = .ok (.aload_n 0, 1) := by decide +kernel
theorem dX4_pass_32 : decode cX4_pass 32 = .ok (.getfield 25, 3) := by decide +kernel
theorem dX4_pass_35 : decode cX4_pass 35 = .ok (.aload_n 0, 1) := by decide +kernel
theorem dX4_pass_36 : decode cX4_pass 36 = .ok (.getfield 12, 3) := by decide +kernel
theorem dX4_pass_39 : decode cX4_pass 39 = .ok (.invokevirtual 54, 3) := by decide +kernel
theorem dX4_pass_42 : decode cX4_pass 42 = .ok (.iconst 0, 1) := by decide +kernel
theorem dX4_pass_43 : decode cX4_pass 43 = .ok (.istore_n 2, 1) := by decide +kernel
theorem dX4_pass_44 : decode cX4_pass 44 = .ok (.iconst 0, 1) := by decide +kernel
theorem dX4_pass_45 : decode cX4_pass 45 = .ok (.istore_n 3, 1) := by decide +kernel
theorem dX4_pass_46 : decode cX4_pass 46 = .ok (.iload_n 3, 1) := by decide +kernel
theorem dX4_pass_47 : decode cX4_pass 47 = .ok (.iload_n 1, 1) := by decide +kernel
theorem dX4_pass_48 : decode cX4_pass 48 = .ok (.if_icmp .ge 19, 3) := by decide +kernel
theorem dX4_pass_51 : decode cX4_pass 51 = .ok (.iload_n 2, 1) := by decide +kernel
theorem dX4_pass_52 : decode cX4_pass 52 = .ok (.aload_n 0, 1) := by decide +kernel
theorem dX4_pass_53 : decode cX4_pass 53 = .ok (.getfield 12, 3) := by decide +kernel
theorem dX4_pass_56 : decode cX4_pass 56 = .ok (.invokevirtual 136, 3) := by decide +kernel
theorem dX4_pass_59 : decode cX4_pass 59 = .ok (.iadd, 1) := by decide +kernel
theorem dX4_pass_60 : decode cX4_pass 60 = .ok (.istore_n 2, 1) := by decide +kernel
theorem dX4_pass_61 : decode cX4_pass 61 = .ok (.iinc 3 1, 3) := by decide +kernel
theorem dX4_pass_64 : decode cX4_pass 64 = .ok (.goto (-18), 3) := by decide +kernel
theorem dX4_pass_67 : decode cX4_pass 67 = .ok (.iload_n 2, 1) := by decide +kernel
theorem dX4_pass_68 : decode cX4_pass 68 = .ok (.ireturn, 1) := by decide +kernel
theorem dX4_type_0 : decode cX4_type 0 = .ok (.aload_n 0, 1) := by decide +kernel
theorem dX4_type_1 : decode cX4_type 1 = .ok (.getfield 32, 3) := by decide +kernel
theorem dX4_type_4 : decode cX4_type 4 = .ok (.iload_n 1, 1) := by decide +kernel
theorem dX4_type_5 : decode cX4_type 5 = .ok (.invokevirtual 139, 3) := by decide +kernel
theorem dX4_type_8 : decode cX4_type 8 = .ok (.ifCond .eq 13, 3) := by decide +kernel
theorem dX4_type_11 : decode cX4_type 11 = .ok (.aload_n 0, 1) := by decide +kernel
theorem dX4_type_12 : decode cX4_type 12 = .ok (.getfield 32, 3) := by decide +kernel
theorem dX4_type_15 : decode cX4_type 15 = .ok (.invokevirtual 143, 3) := by decide +kernel
theorem dX4_type_18 : decode cX4_type 18 = .ok (.goto 5, 3) := by decide +kernel
theorem dX4_type_21 : decode cX4_type 21 = .ok (.bipush (-3), 2) := by decide +kernel
theorem dX4_type_23 : decode cX4_type 23 = .ok (.ireturn, 1) := by decide +kernel
theorem dX4_clearText_0 : decode cX4_clearText 0 = .ok (.aload_n 0, 1) := by decide +kernel
theorem dX4_clearText_1 : decode cX4_clearText 1 = .ok (.getfield 32, 3) := by decide +kernel
theorem dX4_clearText_4 : decode cX4_clearText 4 = .ok (.invokevirtual 143, 3) := by decide +kernel
theorem dX4_clearText_7 : decode cX4_clearText 7 = .ok (.istore_n 1, 1) := by decide +kernel
theorem dX4_clearText_8 : decode cX4_clearText 8 = .ok (.aload_n 0, 1) := by decide +kernel
theorem dX4_clearText_9 : decode cX4_clearText 9 = .ok (.getfield 32, 3) := by decide +kernel
theorem dX4_clearText_12 : decode cX4_clearText 12 = .ok (.invokevirtual 146, 3) := by decide +kernel
theorem dX4_clearText_15 : decode cX4_clearText 15 = .ok (.iload_n 1, 1) := by decide +kernel
theorem dX4_clearText_16 : decode cX4_clearText 16 = .ok (.ireturn, 1) := by decide +kernel
theorem dX4_readWinds_0 : decode cX4_readWinds 0 = .ok (.aload_n 0, 1) := by decide +kernel
theorem dX4_readWinds_1 : decode cX4_readWinds 1 = .ok (.getfield 32, 3) := by decide +kernel
theorem dX4_readWinds_4 : decode cX4_readWinds 4 = .ok (.invokevirtual 149, 3) := by decide +kernel
theorem dX4_readWinds_7 : decode cX4_readWinds 7 = .ok (.istore_n 1, 1) := by decide +kernel
theorem dX4_readWinds_8 : decode cX4_readWinds 8 = .ok (.iload_n 1, 1) := by decide +kernel
theorem dX4_readWinds_9 : decode cX4_readWinds 9 = .ok (.iconst (-1), 1) := by decide +kernel
theorem dX4_readWinds_10 : decode cX4_readWinds 10 = .ok (.if_icmp .eq 8, 3) := by decide +kernel
theorem dX4_readWinds_13 : decode cX4_readWinds 13 = .ok (.bipush (-100), 2) := by decide +kernel
theorem dX4_readWinds_15 : decode cX4_readWinds 15 = .ok (.iload_n 1, 1) := by decide +kernel
theorem dX4_readWinds_16 : decode cX4_readWinds 16 = .ok (.isub, 1) := by decide +kernel
theorem dX4_readWinds_17 : decode cX4_readWinds 17 = .ok (.ireturn, 1) := by decide +kernel
theorem dX4_readWinds_18 : decode cX4_readWinds 18 = .ok (.aload_n 0, 1) := by decide +kernel
theorem dX4_readWinds_19 : decode cX4_readWinds 19 = .ok (.getfield 12, 3) := by decide +kernel
theorem dX4_readWinds_22 : decode cX4_readWinds 22 = .ok (.aload_n 0, 1) := by decide +kernel
theorem dX4_readWinds_23 : decode cX4_readWinds 23 = .ok (.getfield 32, 3) := by decide +kernel
theorem dX4_readWinds_26 : decode cX4_readWinds 26 = .ok (.getfield 152, 3) := by decide +kernel
theorem dX4_readWinds_29 : decode cX4_readWinds 29 = .ok (.invokevirtual 155, 3) := by decide +kernel
theorem dX4_readWinds_32 : decode cX4_readWinds 32 = .ok (.ifCond .ne 5, 3) := by decide +kernel
theorem dX4_readWinds_35 : decode cX4_readWinds 35 = .ok (.iconst (-1), 1) := by decide +kernel
theorem dX4_readWinds_36 : decode cX4_readWinds 36 = .ok (.ireturn, 1) := by decide +kernel
theorem dX4_readWinds_37 : decode cX4_readWinds 37 = .ok (.aload_n 0, 1) := by decide +kernel
theorem dX4_readWinds_38 : decode cX4_readWinds 38 = .ok (.getfield 25, 3) := by decide +kernel
theorem dX4_readWinds_41 : decode cX4_readWinds 41 = .ok (.aload_n 0, 1) := by decide +kernel
theorem dX4_readWinds_42 : decode cX4_readWinds 42 = .ok (.getfield 12, 3) := by decide +kernel
theorem dX4_readWinds_45 : decode cX4_readWinds 45 = .ok (.invokevirtual 54, 3) := by decide +kernel
theorem dX4_readWinds_48 : decode cX4_readWinds 48 = .ok (.aload_n 0, 1) := by decide +kernel
theorem dX4_readWinds_49 : decode cX4_readWinds 49 = .ok (.getfield 12, 3) := by decide +kernel
theorem dX4_readWinds_52 : decode cX4_readWinds 52 = .ok (.aload_n 0, 1) := by decide +kernel
theorem dX4_readWinds_53 : decode cX4_readWinds 53 = .ok (.getfield 32, 3) := by decide +kernel
theorem dX4_readWinds_56 : decode cX4_readWinds 56 = .ok (.getfield 152, 3) := by decide +kernel
theorem dX4_readWinds_59 : decode cX4_readWinds 59 = .ok (.invokevirtual 159, 3) := by decide +kernel
theorem dX4_readWinds_62 : decode cX4_readWinds 62 = .ok (.aload_n 0, 1) := by decide +kernel
theorem dX4_readWinds_63 : decode cX4_readWinds 63 = .ok (.getfield 32, 3) := by decide +kernel
theorem dX4_readWinds_66 : decode cX4_readWinds 66 = .ok (.getfield 152, 3) := by decide +kernel
theorem dX4_readWinds_69 : decode cX4_readWinds 69 = .ok (.invokevirtual 133, 3) := by decide +kernel
theorem dX4_readWinds_72 : decode cX4_readWinds 72 = .ok (.ireturn, 1) := by decide +kernel
theorem dX4_undo_0 : decode cX4_undo 0 = .ok (.aload_n 0, 1) := by decide +kernel
theorem dX4_undo_1 : decode cX4_undo 1 = .ok (.getfield 25, 3) := by decide +kernel
theorem dX4_undo_4 : decode cX4_undo 4 = .ok (.invokevirtual 163, 3) := by decide +kernel
theorem dX4_undo_7 : decode cX4_undo 7 = .ok (.ifCond .ne 6, 3) := by decide +kernel
theorem dX4_undo_10 : decode cX4_undo 10 = .ok (.bipush (-5), 2) := by decide +kernel
theorem dX4_undo_12 : decode cX4_undo 12 = .ok (.ireturn, 1) := by decide +kernel
theorem dX4_undo_13 : decode cX4_undo 13 = .ok (.aload_n 0, 1) := by decide +kernel
theorem dX4_undo_14 : decode cX4_undo 14 = .ok (.getfield 25, 3) := by decide +kernel
theorem dX4_undo_17 : decode cX4_undo 17 = .ok (.aload_n 0, 1) := by decide +kernel
theorem dX4_undo_18 : decode cX4_undo 18 = .ok (.getfield 12, 3) := by decide +kernel
theorem dX4_undo_21 : decode cX4_undo 21 = .ok (.invokevirtual 164, 3) := by decide +kernel
theorem dX4_undo_24 : decode cX4_undo 24 = .ok (.aload_n 0, 1) := by decide +kernel
theorem dX4_undo_25 : decode cX4_undo 25 = .ok (.getfield 25, 3) := by decide +kernel
theorem dX4_undo_28 : decode cX4_undo 28 = .ok (.invokevirtual 163, 3) := by decide +kernel
theorem dX4_undo_31 : decode cX4_undo 31 = .ok (.ireturn, 1) := by decide +kernel
theorem dX4_keep_0 : decode cX4_keep 0 = .ok (.aload_n 0, 1) := by decide +kernel
theorem dX4_keep_1 : decode cX4_keep 1 = .ok (.getfield 16, 3) := by decide +kernel
theorem dX4_keep_4 : decode cX4_keep 4 = .ok (.aload_n 0, 1) := by decide +kernel
theorem dX4_keep_5 : decode cX4_keep 5 = .ok (.getfield 12, 3) := by decide +kernel
theorem dX4_keep_8 : decode cX4_keep 8 = .ok (.invokevirtual 167, 3) := by decide +kernel
theorem dX4_keep_11 : decode cX4_keep 11 = .ok (.aload_n 0, 1) := by decide +kernel
theorem dX4_keep_12 : decode cX4_keep 12 = .ok (.iconst 1, 1) := by decide +kernel
theorem dX4_keep_13 : decode cX4_keep 13 = .ok (.putfield 36, 3) := by decide +kernel
theorem dX4_keep_16 : decode cX4_keep 16 = .ok (.aload_n 0, 1) := by decide +kernel
theorem dX4_keep_17 : decode cX4_keep 17 = .ok (.getfield 12, 3) := by decide +kernel
theorem dX4_keep_20 : decode cX4_keep 20 = .ok (.getfield 109, 3) := by decide +kernel
theorem dX4_keep_23 : decode cX4_keep 23 = .ok (.ireturn, 1) := by decide +kernel
theorem dX4_restore_0 : decode cX4_restore 0 = .ok (.aload_n 0, 1) := by decide +kernel
theorem dX4_restore_1 : decode cX4_restore 1 = .ok (.getfield 36, 3) := by decide +kernel
theorem dX4_restore_4 : decode cX4_restore 4 = .ok (.ifCond .ne 6, 3) := by decide +kernel
theorem dX4_restore_7 : decode cX4_restore 7 = .ok (.bipush (-5), 2) := by decide +kernel
theorem dX4_restore_9 : decode cX4_restore 9 = .ok (.ireturn, 1) := by decide +kernel
theorem dX4_restore_10 : decode cX4_restore 10 = .ok (.aload_n 0, 1) := by decide +kernel
theorem dX4_restore_11 : decode cX4_restore 11 = .ok (.getfield 25, 3) := by decide +kernel
theorem dX4_restore_14 : decode cX4_restore 14 = .ok (.aload_n 0, 1) := by decide +kernel
theorem dX4_restore_15 : decode cX4_restore 15 = .ok (.getfield 12, 3) := by decide +kernel
theorem dX4_restore_18 : decode cX4_restore 18 = .ok (.invokevirtual 54, 3) := by decide +kernel
theorem dX4_restore_21 : decode cX4_restore 21 = .ok (.aload_n 0, 1) := by decide +kernel
theorem dX4_restore_22 : decode cX4_restore 22 = .ok (.getfield 12, 3) := by decide +kernel
theorem dX4_restore_25 : decode cX4_restore 25 = .ok (.aload_n 0, 1) := by decide +kernel
theorem dX4_restore_26 : decode cX4_restore 26 = .ok (.getfield 16, 3) := by decide +kernel
theorem dX4_restore_29 : decode cX4_restore 29 = .ok (.invokevirtual 167, 3) := by decide +kernel
theorem dX4_restore_32 : decode cX4_restore 32 = .ok (.aload_n 0, 1) := by decide +kernel
theorem dX4_restore_33 : decode cX4_restore 33 = .ok (.getfield 12, 3) := by decide +kernel
theorem dX4_restore_36 : decode cX4_restore 36 = .ok (.getfield 109, 3) := by decide +kernel
theorem dX4_restore_39 : decode cX4_restore 39 = .ok (.ireturn, 1) := by decide +kernel
theorem dX4_bears_0 : decode cX4_bears 0 = .ok (.aload_n 0, 1) := by decide +kernel
theorem dX4_bears_1 : decode cX4_bears 1 = .ok (.getfield 12, 3) := by decide +kernel
theorem dX4_bears_4 : decode cX4_bears 4 = .ok (.getfield 44, 3) := by decide +kernel
theorem dX4_bears_7 : decode cX4_bears 7 = .ok (.iload_n 1, 1) := by decide +kernel
theorem dX4_bears_8 : decode cX4_bears 8 = .ok (.invokevirtual 81, 3) := by decide +kernel
theorem dX4_bears_11 : decode cX4_bears 11 = .ok (.ifCond .ne 5, 3) := by decide +kernel
theorem dX4_bears_14 : decode cX4_bears 14 = .ok (.iconst (-1), 1) := by decide +kernel
theorem dX4_bears_15 : decode cX4_bears 15 = .ok (.ireturn, 1) := by decide +kernel
theorem dX4_bears_16 : decode cX4_bears 16 = .ok (.iload_n 2, 1) := by decide +kernel
theorem dX4_bears_17 : decode cX4_bears 17 = .ok (.invokestatic 170, 3) := by decide +kernel
theorem dX4_bears_20 : decode cX4_bears 20 = .ok (.ifCond .ne 6, 3) := by decide +kernel
theorem dX4_bears_23 : decode cX4_bears 23 = .ok (.bipush (-2), 2) := by decide +kernel
theorem dX4_bears_25 : decode cX4_bears 25 = .ok (.ireturn, 1) := by decide +kernel
theorem dX4_bears_26 : decode cX4_bears 26 = .ok (.aload_n 0, 1) := by decide +kernel
theorem dX4_bears_27 : decode cX4_bears 27 = .ok (.getfield 12, 3) := by decide +kernel
theorem dX4_bears_30 : decode cX4_bears 30 = .ok (.iload_n 1, 1) := by decide +kernel
theorem dX4_bears_31 : decode cX4_bears 31 = .ok (.iload_n 2, 1) := by decide +kernel
theorem dX4_bears_32 : decode cX4_bears 32 = .ok (.invokevirtual 173, 3) := by decide +kernel
theorem dX4_bears_35 : decode cX4_bears 35 = .ok (.ireturn, 1) := by decide +kernel
theorem dX4_willBear_0 : decode cX4_willBear 0 = .ok (.aload_n 0, 1) := by decide +kernel
theorem dX4_willBear_1 : decode cX4_willBear 1 = .ok (.getfield 12, 3) := by decide +kernel
theorem dX4_willBear_4 : decode cX4_willBear 4 = .ok (.getfield 44, 3) := by decide +kernel
theorem dX4_willBear_7 : decode cX4_willBear 7 = .ok (.iload_n 1, 1) := by decide +kernel
theorem dX4_willBear_8 : decode cX4_willBear 8 = .ok (.invokevirtual 81, 3) := by decide +kernel
theorem dX4_willBear_11 : decode cX4_willBear 11 = .ok (.ifCond .eq 14, 3) := by decide +kernel
theorem dX4_willBear_14 : decode cX4_willBear 14 = .ok (.aload_n 0, 1) := by decide +kernel
theorem dX4_willBear_15 : decode cX4_willBear 15 = .ok (.getfield 12, 3) := by decide +kernel
theorem dX4_willBear_18 : decode cX4_willBear 18 = .ok (.iload_n 3, 1) := by decide +kernel
theorem dX4_willBear_19 : decode cX4_willBear 19 = .ok (.invokevirtual 69, 3) := by decide +kernel
theorem dX4_willBear_22 : decode cX4_willBear 22 = .ok (.ifCond .ne 5, 3) := by decide +kernel
theorem dX4_willBear_25 : decode cX4_willBear 25 = .ok (.iconst (-1), 1) := by decide +kernel
theorem dX4_willBear_26 : decode cX4_willBear 26 = .ok (.ireturn, 1) := by decide +kernel
theorem dX4_willBear_27 : decode cX4_willBear 27 = .ok (.iload_n 2, 1) := by decide +kernel
theorem dX4_willBear_28 : decode cX4_willBear 28 = .ok (.invokestatic 170, 3) := by decide +kernel
theorem dX4_willBear_31 : decode cX4_willBear 31 = .ok (.ifCond .ne 6, 3) := by decide +kernel
theorem dX4_willBear_34 : decode cX4_willBear 34 = .ok (.bipush (-2), 2) := by decide +kernel
theorem dX4_willBear_36 : decode cX4_willBear 36 = .ok (.ireturn, 1) := by decide +kernel
theorem dX4_willBear_37 : decode cX4_willBear 37 = .ok (.aload_n 0, 1) := by decide +kernel
theorem dX4_willBear_38 : decode cX4_willBear 38 = .ok (.getfield 19, 3) := by decide +kernel
theorem dX4_willBear_41 : decode cX4_willBear 41 = .ok (.aload_n 0, 1) := by decide +kernel
theorem dX4_willBear_42 : decode cX4_willBear 42 = .ok (.getfield 12, 3) := by decide +kernel
theorem dX4_willBear_45 : decode cX4_willBear 45 = .ok (.invokevirtual 167, 3) := by decide +kernel
theorem dX4_willBear_48 : decode cX4_willBear 48 = .ok (.aload_n 0, 1) := by decide +kernel
theorem dX4_willBear_49 : decode cX4_willBear 49 = .ok (.getfield 19, 3) := by decide +kernel
theorem dX4_willBear_52 : decode cX4_willBear 52 = .ok (.iload_n 3, 1) := by decide +kernel
theorem dX4_willBear_53 : decode cX4_willBear 53 = .ok (.invokevirtual 176, 3) := by decide +kernel
theorem dX4_willBear_56 : decode cX4_willBear 56 = .ok (.aload_n 0, 1) := by decide +kernel
theorem dX4_willBear_57 : decode cX4_willBear 57 = .ok (.getfield 19, 3) := by decide +kernel
theorem dX4_willBear_60 : decode cX4_willBear 60 = .ok (.iload_n 1, 1) := by decide +kernel
theorem dX4_willBear_61 : decode cX4_willBear 61 = .ok (.iload_n 2, 1) := by decide +kernel
theorem dX4_willBear_62 : decode cX4_willBear 62 = .ok (.invokevirtual 173, 3) := by decide +kernel
theorem dX4_willBear_65 : decode cX4_willBear 65 = .ok (.ireturn, 1) := by decide +kernel
theorem dX4_windLimit_0 : decode cX4_windLimit 0 = .ok (.iload_n 1, 1) := by decide +kernel
theorem dX4_windLimit_1 : decode cX4_windLimit 1 = .ok (.iload_n 2, 1) := by decide +kernel
theorem dX4_windLimit_2 : decode cX4_windLimit 2 = .ok (.invokestatic 84, 3) := by decide +kernel
theorem dX4_windLimit_5 : decode cX4_windLimit 5 = .ok (.ifCond .ne 6, 3) := by decide +kernel
theorem dX4_windLimit_8 : decode cX4_windLimit 8 = .ok (.bipush (-2), 2) := by decide +kernel
theorem dX4_windLimit_10 : decode cX4_windLimit 10 = .ok (.ireturn, 1) := by decide +kernel
theorem dX4_windLimit_11 : decode cX4_windLimit 11 = .ok (.iload_n 1, 1) := by decide +kernel
theorem dX4_windLimit_12 : decode cX4_windLimit 12 = .ok (.iload_n 2, 1) := by decide +kernel
theorem dX4_windLimit_13 : decode cX4_windLimit 13 = .ok (.invokestatic 179, 3) := by decide +kernel
theorem dX4_windLimit_16 : decode cX4_windLimit 16 = .ok (.ireturn, 1) := by decide +kernel
theorem dX4_machine_0 : decode cX4_machine 0 = .ok (.aload_n 0, 1) := by decide +kernel
theorem dX4_machine_1 : decode cX4_machine 1 = .ok (.getfield 12, 3) := by decide +kernel
theorem dX4_machine_4 : decode cX4_machine 4 = .ok (.getfield 44, 3) := by decide +kernel
theorem dX4_machine_7 : decode cX4_machine 7 = .ok (.iload_n 1, 1) := by decide +kernel
theorem dX4_machine_8 : decode cX4_machine 8 = .ok (.invokevirtual 81, 3) := by decide +kernel
theorem dX4_machine_11 : decode cX4_machine 11 = .ok (.ifCond .ne 5, 3) := by decide +kernel
theorem dX4_machine_14 : decode cX4_machine 14 = .ok (.iconst (-1), 1) := by decide +kernel
theorem dX4_machine_15 : decode cX4_machine 15 = .ok (.ireturn, 1) := by decide +kernel
theorem dX4_machine_16 : decode cX4_machine 16 = .ok (.iload_n 2, 1) := by decide +kernel
theorem dX4_machine_17 : decode cX4_machine 17 = .ok (.tableswitch 138 0 6 #[43, 56, 69, 84, 97, 110, 123], 43) := by decide +kernel
theorem dX4_machine_60 : decode cX4_machine 60 = .ok (.aload_n 0, 1) := by decide +kernel
theorem dX4_machine_61 : decode cX4_machine 61 = .ok (.getfield 12, 3) := by decide +kernel
theorem dX4_machine_64 : decode cX4_machine 64 = .ok (.getfield 44, 3) := by decide +kernel
theorem dX4_machine_67 : decode cX4_machine 67 = .ok (.iload_n 1, 1) := by decide +kernel
theorem dX4_machine_68 : decode cX4_machine 68 = .ok (.iconst 0, 1) := by decide +kernel
theorem dX4_machine_69 : decode cX4_machine 69 = .ok (.invokevirtual 106, 3) := by decide +kernel
theorem dX4_machine_72 : decode cX4_machine 72 = .ok (.ireturn, 1) := by decide +kernel
theorem dX4_machine_73 : decode cX4_machine 73 = .ok (.aload_n 0, 1) := by decide +kernel
theorem dX4_machine_74 : decode cX4_machine 74 = .ok (.getfield 12, 3) := by decide +kernel
theorem dX4_machine_77 : decode cX4_machine 77 = .ok (.getfield 44, 3) := by decide +kernel
theorem dX4_machine_80 : decode cX4_machine 80 = .ok (.iload_n 1, 1) := by decide +kernel
theorem dX4_machine_81 : decode cX4_machine 81 = .ok (.iconst 1, 1) := by decide +kernel
theorem dX4_machine_82 : decode cX4_machine 82 = .ok (.invokevirtual 106, 3) := by decide +kernel
theorem dX4_machine_85 : decode cX4_machine 85 = .ok (.ireturn, 1) := by decide +kernel
theorem dX4_machine_86 : decode cX4_machine 86 = .ok (.aload_n 0, 1) := by decide +kernel
theorem dX4_machine_87 : decode cX4_machine 87 = .ok (.getfield 12, 3) := by decide +kernel
theorem dX4_machine_90 : decode cX4_machine 90 = .ok (.getfield 92, 3) := by decide +kernel
theorem dX4_machine_93 : decode cX4_machine 93 = .ok (.iconst 1, 1) := by decide +kernel
theorem dX4_machine_94 : decode cX4_machine 94 = .ok (.iload_n 1, 1) := by decide +kernel
theorem dX4_machine_95 : decode cX4_machine 95 = .ok (.iconst 5, 1) := by decide +kernel
theorem dX4_machine_96 : decode cX4_machine 96 = .ok (.iconst 0, 1) := by decide +kernel
theorem dX4_machine_97 : decode cX4_machine 97 = .ok (.invokevirtual 182, 3) := by decide +kernel
theorem dX4_machine_100 : decode cX4_machine 100 = .ok (.ireturn, 1) := by decide +kernel
theorem dX4_machine_101 : decode cX4_machine 101 = .ok (.aload_n 0, 1) := by decide +kernel
theorem dX4_machine_102 : decode cX4_machine 102 = .ok (.getfield 12, 3) := by decide +kernel
theorem dX4_machine_105 : decode cX4_machine 105 = .ok (.getfield 122, 3) := by decide +kernel
theorem dX4_machine_108 : decode cX4_machine 108 = .ok (.iconst 1, 1) := by decide +kernel
theorem dX4_machine_109 : decode cX4_machine 109 = .ok (.iload_n 1, 1) := by decide +kernel
theorem dX4_machine_110 : decode cX4_machine 110 = .ok (.invokevirtual 186, 3) := by decide +kernel
theorem dX4_machine_113 : decode cX4_machine 113 = .ok (.ireturn, 1) := by decide +kernel
theorem dX4_machine_114 : decode cX4_machine 114 = .ok (.aload_n 0, 1) := by decide +kernel
theorem dX4_machine_115 : decode cX4_machine 115 = .ok (.getfield 12, 3) := by decide +kernel
theorem dX4_machine_118 : decode cX4_machine 118 = .ok (.getfield 122, 3) := by decide +kernel
theorem dX4_machine_121 : decode cX4_machine 121 = .ok (.iconst 2, 1) := by decide +kernel
theorem dX4_machine_122 : decode cX4_machine 122 = .ok (.iload_n 1, 1) := by decide +kernel
theorem dX4_machine_123 : decode cX4_machine 123 = .ok (.invokevirtual 186, 3) := by decide +kernel
theorem dX4_machine_126 : decode cX4_machine 126 = .ok (.ireturn, 1) := by decide +kernel
theorem dX4_machine_127 : decode cX4_machine 127 = .ok (.aload_n 0, 1) := by decide +kernel
theorem dX4_machine_128 : decode cX4_machine 128 = .ok (.getfield 12, 3) := by decide +kernel
theorem dX4_machine_131 : decode cX4_machine 131 = .ok (.getfield 44, 3) := by decide +kernel
theorem dX4_machine_134 : decode cX4_machine 134 = .ok (.iload_n 1, 1) := by decide +kernel
theorem dX4_machine_135 : decode cX4_machine 135 = .ok (.iconst 2, 1) := by decide +kernel
theorem dX4_machine_136 : decode cX4_machine 136 = .ok (.invokevirtual 106, 3) := by decide +kernel
theorem dX4_machine_139 : decode cX4_machine 139 = .ok (.ireturn, 1) := by decide +kernel
theorem dX4_machine_140 : decode cX4_machine 140 = .ok (.aload_n 0, 1) := by decide +kernel
theorem dX4_machine_141 : decode cX4_machine 141 = .ok (.getfield 12, 3) := by decide +kernel
theorem dX4_machine_144 : decode cX4_machine 144 = .ok (.getfield 92, 3) := by decide +kernel
theorem dX4_machine_147 : decode cX4_machine 147 = .ok (.iconst 1, 1) := by decide +kernel
theorem dX4_machine_148 : decode cX4_machine 148 = .ok (.iload_n 1, 1) := by decide +kernel
theorem dX4_machine_149 : decode cX4_machine 149 = .ok (.iconst 5, 1) := by decide +kernel
theorem dX4_machine_150 : decode cX4_machine 150 = .ok (.iconst 1, 1) := by decide +kernel
theorem dX4_machine_151 : decode cX4_machine 151 = .ok (.invokevirtual 182, 3) := by decide +kernel
theorem dX4_machine_154 : decode cX4_machine 154 = .ok (.ireturn, 1) := by decide +kernel
theorem dX4_machine_155 : decode cX4_machine 155 = .ok (.bipush (-2), 2) := by decide +kernel
theorem dX4_machine_157 : decode cX4_machine 157 = .ok (.ireturn, 1) := by decide +kernel
theorem dX4_member_0 : decode cX4_member 0 = .ok (.aload_n 0, 1) := by decide +kernel
theorem dX4_member_1 : decode cX4_member 1 = .ok (.getfield 12, 3) := by decide +kernel
theorem dX4_member_4 : decode cX4_member 4 = .ok (.getfield 62, 3) := by decide +kernel
theorem dX4_member_7 : decode cX4_member 7 = .ok (.iload_n 1, 1) := by decide +kernel
theorem dX4_member_8 : decode cX4_member 8 = .ok (.invokevirtual 81, 3) := by decide +kernel
theorem dX4_member_11 : decode cX4_member 11 = .ok (.ifCond .ne 5, 3) := by decide +kernel
theorem dX4_member_14 : decode cX4_member 14 = .ok (.iconst (-1), 1) := by decide +kernel
theorem dX4_member_15 : decode cX4_member 15 = .ok (.ireturn, 1) := by decide +kernel
theorem dX4_member_16 : decode cX4_member 16 = .ok (.iload_n 2, 1) := by decide +kernel
theorem dX4_member_17 : decode cX4_member 17 = .ok (.tableswitch 142 0 6 #[43, 56, 71, 86, 101, 116, 129], 43) := by decide +kernel
theorem dX4_member_60 : decode cX4_member 60 = .ok (.aload_n 0, 1) := by decide +kernel
theorem dX4_member_61 : decode cX4_member 61 = .ok (.getfield 12, 3) := by decide +kernel
theorem dX4_member_64 : decode cX4_member 64 = .ok (.getfield 62, 3) := by decide +kernel
theorem dX4_member_67 : decode cX4_member 67 = .ok (.iload_n 1, 1) := by decide +kernel
theorem dX4_member_68 : decode cX4_member 68 = .ok (.iconst 0, 1) := by decide +kernel
theorem dX4_member_69 : decode cX4_member 69 = .ok (.invokevirtual 106, 3) := by decide +kernel
theorem dX4_member_72 : decode cX4_member 72 = .ok (.ireturn, 1) := by decide +kernel
theorem dX4_member_73 : decode cX4_member 73 = .ok (.aload_n 0, 1) := by decide +kernel
theorem dX4_member_74 : decode cX4_member 74 = .ok (.getfield 12, 3) := by decide +kernel
theorem dX4_member_77 : decode cX4_member 77 = .ok (.getfield 92, 3) := by decide +kernel
theorem dX4_member_80 : decode cX4_member 80 = .ok (.iconst 0, 1) := by decide +kernel
theorem dX4_member_81 : decode cX4_member 81 = .ok (.iload_n 1, 1) := by decide +kernel
theorem dX4_member_82 : decode cX4_member 82 = .ok (.iconst 5, 1) := by decide +kernel
theorem dX4_member_83 : decode cX4_member 83 = .ok (.iconst 0, 1) := by decide +kernel
theorem dX4_member_84 : decode cX4_member 84 = .ok (.invokevirtual 182, 3) := by decide +kernel
theorem dX4_member_87 : decode cX4_member 87 = .ok (.ireturn, 1) := by decide +kernel
theorem dX4_member_88 : decode cX4_member 88 = .ok (.aload_n 0, 1) := by decide +kernel
theorem dX4_member_89 : decode cX4_member 89 = .ok (.getfield 12, 3) := by decide +kernel
theorem dX4_member_92 : decode cX4_member 92 = .ok (.getfield 92, 3) := by decide +kernel
theorem dX4_member_95 : decode cX4_member 95 = .ok (.iconst 0, 1) := by decide +kernel
theorem dX4_member_96 : decode cX4_member 96 = .ok (.iload_n 1, 1) := by decide +kernel
theorem dX4_member_97 : decode cX4_member 97 = .ok (.iconst 5, 1) := by decide +kernel
theorem dX4_member_98 : decode cX4_member 98 = .ok (.iconst 1, 1) := by decide +kernel
theorem dX4_member_99 : decode cX4_member 99 = .ok (.invokevirtual 182, 3) := by decide +kernel
theorem dX4_member_102 : decode cX4_member 102 = .ok (.ireturn, 1) := by decide +kernel
theorem dX4_member_103 : decode cX4_member 103 = .ok (.aload_n 0, 1) := by decide +kernel
theorem dX4_member_104 : decode cX4_member 104 = .ok (.getfield 12, 3) := by decide +kernel
theorem dX4_member_107 : decode cX4_member 107 = .ok (.getfield 92, 3) := by decide +kernel
theorem dX4_member_110 : decode cX4_member 110 = .ok (.iconst 0, 1) := by decide +kernel
theorem dX4_member_111 : decode cX4_member 111 = .ok (.iload_n 1, 1) := by decide +kernel
theorem dX4_member_112 : decode cX4_member 112 = .ok (.iconst 5, 1) := by decide +kernel
theorem dX4_member_113 : decode cX4_member 113 = .ok (.iconst 2, 1) := by decide +kernel
theorem dX4_member_114 : decode cX4_member 114 = .ok (.invokevirtual 182, 3) := by decide +kernel
theorem dX4_member_117 : decode cX4_member 117 = .ok (.ireturn, 1) := by decide +kernel
theorem dX4_member_118 : decode cX4_member 118 = .ok (.aload_n 0, 1) := by decide +kernel
theorem dX4_member_119 : decode cX4_member 119 = .ok (.getfield 12, 3) := by decide +kernel
theorem dX4_member_122 : decode cX4_member 122 = .ok (.getfield 92, 3) := by decide +kernel
theorem dX4_member_125 : decode cX4_member 125 = .ok (.iconst 0, 1) := by decide +kernel
theorem dX4_member_126 : decode cX4_member 126 = .ok (.iload_n 1, 1) := by decide +kernel
theorem dX4_member_127 : decode cX4_member 127 = .ok (.iconst 5, 1) := by decide +kernel
theorem dX4_member_128 : decode cX4_member 128 = .ok (.iconst 3, 1) := by decide +kernel
theorem dX4_member_129 : decode cX4_member 129 = .ok (.invokevirtual 182, 3) := by decide +kernel
theorem dX4_member_132 : decode cX4_member 132 = .ok (.ireturn, 1) := by decide +kernel
theorem dX4_member_133 : decode cX4_member 133 = .ok (.aload_n 0, 1) := by decide +kernel
theorem dX4_member_134 : decode cX4_member 134 = .ok (.getfield 12, 3) := by decide +kernel
theorem dX4_member_137 : decode cX4_member 137 = .ok (.getfield 62, 3) := by decide +kernel
theorem dX4_member_140 : decode cX4_member 140 = .ok (.iload_n 1, 1) := by decide +kernel
theorem dX4_member_141 : decode cX4_member 141 = .ok (.iconst 1, 1) := by decide +kernel
theorem dX4_member_142 : decode cX4_member 142 = .ok (.invokevirtual 106, 3) := by decide +kernel
theorem dX4_member_145 : decode cX4_member 145 = .ok (.ireturn, 1) := by decide +kernel
theorem dX4_member_146 : decode cX4_member 146 = .ok (.aload_n 0, 1) := by decide +kernel
theorem dX4_member_147 : decode cX4_member 147 = .ok (.getfield 12, 3) := by decide +kernel
theorem dX4_member_150 : decode cX4_member 150 = .ok (.getfield 122, 3) := by decide +kernel
theorem dX4_member_153 : decode cX4_member 153 = .ok (.iconst 0, 1) := by decide +kernel
theorem dX4_member_154 : decode cX4_member 154 = .ok (.iload_n 1, 1) := by decide +kernel
theorem dX4_member_155 : decode cX4_member 155 = .ok (.invokevirtual 186, 3) := by decide +kernel
theorem dX4_member_158 : decode cX4_member 158 = .ok (.ireturn, 1) := by decide +kernel
theorem dX4_member_159 : decode cX4_member 159 = .ok (.bipush (-2), 2) := by decide +kernel
theorem dX4_member_161 : decode cX4_member 161 = .ok (.ireturn, 1) := by decide +kernel
theorem dX4_booking_0 : decode cX4_booking 0 = .ok (.aload_n 0, 1) := by decide +kernel
theorem dX4_booking_1 : decode cX4_booking 1 = .ok (.getfield 12, 3) := by decide +kernel
theorem dX4_booking_4 : decode cX4_booking 4 = .ok (.getfield 92, 3) := by decide +kernel
theorem dX4_booking_7 : decode cX4_booking 7 = .ok (.iload_n 1, 1) := by decide +kernel
theorem dX4_booking_8 : decode cX4_booking 8 = .ok (.invokevirtual 81, 3) := by decide +kernel
theorem dX4_booking_11 : decode cX4_booking 11 = .ok (.ifCond .ne 5, 3) := by decide +kernel
theorem dX4_booking_14 : decode cX4_booking 14 = .ok (.iconst (-1), 1) := by decide +kernel
theorem dX4_booking_15 : decode cX4_booking 15 = .ok (.ireturn, 1) := by decide +kernel
theorem dX4_booking_16 : decode cX4_booking 16 = .ok (.iload_n 2, 1) := by decide +kernel
theorem dX4_booking_17 : decode cX4_booking 17 = .ok (.bipush 8, 2) := by decide +kernel
theorem dX4_booking_19 : decode cX4_booking 19 = .ok (.if_icmp .ne 12, 3) := by decide +kernel
theorem dX4_booking_22 : decode cX4_booking 22 = .ok (.aload_n 0, 1) := by decide +kernel
theorem dX4_booking_23 : decode cX4_booking 23 = .ok (.getfield 12, 3) := by decide +kernel
theorem dX4_booking_26 : decode cX4_booking 26 = .ok (.iload_n 1, 1) := by decide +kernel
theorem dX4_booking_27 : decode cX4_booking 27 = .ok (.invokevirtual 189, 3) := by decide +kernel
theorem dX4_booking_30 : decode cX4_booking 30 = .ok (.ireturn, 1) := by decide +kernel
theorem dX4_booking_31 : decode cX4_booking 31 = .ok (.iload_n 2, 1) := by decide +kernel
theorem dX4_booking_32 : decode cX4_booking 32 = .ok (.iconst 0, 1) := by decide +kernel
theorem dX4_booking_33 : decode cX4_booking 33 = .ok (.bipush 7, 2) := by decide +kernel
theorem dX4_booking_35 : decode cX4_booking 35 = .ok (.invokestatic 40, 3) := by decide +kernel
theorem dX4_booking_38 : decode cX4_booking 38 = .ok (.ifCond .eq 18, 3) := by decide +kernel
theorem dX4_booking_41 : decode cX4_booking 41 = .ok (.aload_n 0, 1) := by decide +kernel
theorem dX4_booking_42 : decode cX4_booking 42 = .ok (.getfield 12, 3) := by decide +kernel
theorem dX4_booking_45 : decode cX4_booking 45 = .ok (.getfield 92, 3) := by decide +kernel
theorem dX4_booking_48 : decode cX4_booking 48 = .ok (.iload_n 1, 1) := by decide +kernel
theorem dX4_booking_49 : decode cX4_booking 49 = .ok (.iload_n 2, 1) := by decide +kernel
theorem dX4_booking_50 : decode cX4_booking 50 = .ok (.invokevirtual 106, 3) := by decide +kernel
theorem dX4_booking_53 : decode cX4_booking 53 = .ok (.goto 5, 3) := by decide +kernel
theorem dX4_booking_56 : decode cX4_booking 56 = .ok (.bipush (-2), 2) := by decide +kernel
theorem dX4_booking_58 : decode cX4_booking 58 = .ok (.ireturn, 1) := by decide +kernel
theorem dX4_move_0 : decode cX4_move 0 = .ok (.aload_n 0, 1) := by decide +kernel
theorem dX4_move_1 : decode cX4_move 1 = .ok (.getfield 12, 3) := by decide +kernel
theorem dX4_move_4 : decode cX4_move 4 = .ok (.getfield 122, 3) := by decide +kernel
theorem dX4_move_7 : decode cX4_move 7 = .ok (.iload_n 1, 1) := by decide +kernel
theorem dX4_move_8 : decode cX4_move 8 = .ok (.invokevirtual 81, 3) := by decide +kernel
theorem dX4_move_11 : decode cX4_move 11 = .ok (.ifCond .ne 5, 3) := by decide +kernel
theorem dX4_move_14 : decode cX4_move 14 = .ok (.iconst (-1), 1) := by decide +kernel
theorem dX4_move_15 : decode cX4_move 15 = .ok (.ireturn, 1) := by decide +kernel
theorem dX4_move_16 : decode cX4_move 16 = .ok (.iload_n 2, 1) := by decide +kernel
theorem dX4_move_17 : decode cX4_move 17 = .ok (.iconst 0, 1) := by decide +kernel
theorem dX4_move_18 : decode cX4_move 18 = .ok (.iconst 4, 1) := by decide +kernel
theorem dX4_move_19 : decode cX4_move 19 = .ok (.invokestatic 40, 3) := by decide +kernel
theorem dX4_move_22 : decode cX4_move 22 = .ok (.ifCond .eq 18, 3) := by decide +kernel
theorem dX4_move_25 : decode cX4_move 25 = .ok (.aload_n 0, 1) := by decide +kernel
theorem dX4_move_26 : decode cX4_move 26 = .ok (.getfield 12, 3) := by decide +kernel
theorem dX4_move_29 : decode cX4_move 29 = .ok (.getfield 122, 3) := by decide +kernel
theorem dX4_move_32 : decode cX4_move 32 = .ok (.iload_n 1, 1) := by decide +kernel
theorem dX4_move_33 : decode cX4_move 33 = .ok (.iload_n 2, 1) := by decide +kernel
theorem dX4_move_34 : decode cX4_move 34 = .ok (.invokevirtual 106, 3) := by decide +kernel
theorem dX4_move_37 : decode cX4_move 37 = .ok (.goto 5, 3) := by decide +kernel
theorem dX4_move_40 : decode cX4_move 40 = .ok (.bipush (-2), 2) := by decide +kernel
theorem dX4_move_42 : decode cX4_move 42 = .ok (.ireturn, 1) := by decide +kernel
theorem dX4_bookedAt_0 : decode cX4_bookedAt 0 = .ok (.aload_n 0, 1) := by decide +kernel
theorem dX4_bookedAt_1 : decode cX4_bookedAt 1 = .ok (.getfield 12, 3) := by decide +kernel
theorem dX4_bookedAt_4 : decode cX4_bookedAt 4 = .ok (.getfield 44, 3) := by decide +kernel
theorem dX4_bookedAt_7 : decode cX4_bookedAt 7 = .ok (.iload_n 1, 1) := by decide +kernel
theorem dX4_bookedAt_8 : decode cX4_bookedAt 8 = .ok (.invokevirtual 81, 3) := by decide +kernel
theorem dX4_bookedAt_11 : decode cX4_bookedAt 11 = .ok (.ifCond .eq 10, 3) := by decide +kernel
theorem dX4_bookedAt_14 : decode cX4_bookedAt 14 = .ok (.iload_n 2, 1) := by decide +kernel
theorem dX4_bookedAt_15 : decode cX4_bookedAt 15 = .ok (.invokestatic 192, 3) := by decide +kernel
theorem dX4_bookedAt_18 : decode cX4_bookedAt 18 = .ok (.ifCond .ne 5, 3) := by decide +kernel
theorem dX4_bookedAt_21 : decode cX4_bookedAt 21 = .ok (.iconst (-1), 1) := by decide +kernel
theorem dX4_bookedAt_22 : decode cX4_bookedAt 22 = .ok (.ireturn, 1) := by decide +kernel
theorem dX4_bookedAt_23 : decode cX4_bookedAt 23 = .ok (.aload_n 0, 1) := by decide +kernel
theorem dX4_bookedAt_24 : decode cX4_bookedAt 24 = .ok (.getfield 12, 3) := by decide +kernel
theorem dX4_bookedAt_27 : decode cX4_bookedAt 27 = .ok (.iload_n 1, 1) := by decide +kernel
theorem dX4_bookedAt_28 : decode cX4_bookedAt 28 = .ok (.iload_n 2, 1) := by decide +kernel
theorem dX4_bookedAt_29 : decode cX4_bookedAt 29 = .ok (.invokevirtual 195, 3) := by decide +kernel
theorem dX4_bookedAt_32 : decode cX4_bookedAt 32 = .ok (.ireturn, 1) := by decide +kernel
theorem dX4_machineFor_0 : decode cX4_machineFor 0 = .ok (.aload_n 0, 1) := by decide +kernel
theorem dX4_machineFor_1 : decode cX4_machineFor 1 = .ok (.getfield 12, 3) := by decide +kernel
theorem dX4_machineFor_4 : decode cX4_machineFor 4 = .ok (.iload_n 1, 1) := by decide +kernel
theorem dX4_machineFor_5 : decode cX4_machineFor 5 = .ok (.invokevirtual 69, 3) := by decide +kernel
theorem dX4_machineFor_8 : decode cX4_machineFor 8 = .ok (.ifCond .ne 5, 3) := by decide +kernel
theorem dX4_machineFor_11 : decode cX4_machineFor 11 = .ok (.iconst (-1), 1) := by decide +kernel
theorem dX4_machineFor_12 : decode cX4_machineFor 12 = .ok (.ireturn, 1) := by decide +kernel
theorem dX4_machineFor_13 : decode cX4_machineFor 13 = .ok (.iload_n 2, 1) := by decide +kernel
theorem dX4_machineFor_14 : decode cX4_machineFor 14 = .ok (.iload_n 3, 1) := by decide +kernel
theorem dX4_machineFor_15 : decode cX4_machineFor 15 = .ok (.invokestatic 84, 3) := by decide +kernel
theorem dX4_machineFor_18 : decode cX4_machineFor 18 = .ok (.ifCond .ne 6, 3) := by decide +kernel
theorem dX4_machineFor_21 : decode cX4_machineFor 21 = .ok (.bipush (-2), 2) := by decide +kernel
theorem dX4_machineFor_23 : decode cX4_machineFor 23 = .ok (.ireturn, 1) := by decide +kernel
theorem dX4_machineFor_24 : decode cX4_machineFor 24 = .ok (.iconst 0, 1) := by decide +kernel
theorem dX4_machineFor_25 : decode cX4_machineFor 25 = .ok (.istore 4, 2) := by decide +kernel
theorem dX4_machineFor_27 : decode cX4_machineFor 27 = .ok (.iload 4, 2) := by decide +kernel
theorem dX4_machineFor_29 : decode cX4_machineFor 29 = .ok (.aload_n 0, 1) := by decide +kernel
theorem dX4_machineFor_30 : decode cX4_machineFor 30 = .ok (.getfield 12, 3) := by decide +kernel
theorem dX4_machineFor_33 : decode cX4_machineFor 33 = .ok (.getfield 44, 3) := by decide +kernel
theorem dX4_machineFor_36 : decode cX4_machineFor 36 = .ok (.invokevirtual 133, 3) := by decide +kernel
theorem dX4_machineFor_39 : decode cX4_machineFor 39 = .ok (.if_icmp .ge 27, 3) := by decide +kernel
theorem dX4_machineFor_42 : decode cX4_machineFor 42 = .ok (.aload_n 0, 1) := by decide +kernel
theorem dX4_machineFor_43 : decode cX4_machineFor 43 = .ok (.getfield 12, 3) := by decide +kernel
theorem dX4_machineFor_46 : decode cX4_machineFor 46 = .ok (.iload 4, 2) := by decide +kernel
theorem dX4_machineFor_48 : decode cX4_machineFor 48 = .ok (.iload_n 1, 1) := by decide +kernel
theorem dX4_machineFor_49 : decode cX4_machineFor 49 = .ok (.iload_n 2, 1) := by decide +kernel
theorem dX4_machineFor_50 : decode cX4_machineFor 50 = .ok (.iload_n 3, 1) := by decide +kernel
theorem dX4_machineFor_51 : decode cX4_machineFor 51 = .ok (.invokevirtual 88, 3) := by decide +kernel
theorem dX4_machineFor_54 : decode cX4_machineFor 54 = .ok (.ifCond .eq 6, 3) := by decide +kernel
theorem dX4_machineFor_57 : decode cX4_machineFor 57 = .ok (.iload 4, 2) := by decide +kernel
theorem dX4_machineFor_59 : decode cX4_machineFor 59 = .ok (.ireturn, 1) := by decide +kernel
theorem dX4_machineFor_60 : decode cX4_machineFor 60 = .ok (.iinc 4 1, 3) := by decide +kernel
theorem dX4_machineFor_63 : decode cX4_machineFor 63 = .ok (.goto (-36), 3) := by decide +kernel
theorem dX4_machineFor_66 : decode cX4_machineFor 66 = .ok (.bipush (-5), 2) := by decide +kernel
theorem dX4_machineFor_68 : decode cX4_machineFor 68 = .ok (.ireturn, 1) := by decide +kernel
theorem dX4_fate_0 : decode cX4_fate 0 = .ok (.aload_n 0, 1) := by decide +kernel
theorem dX4_fate_1 : decode cX4_fate 1 = .ok (.getfield 12, 3) := by decide +kernel
theorem dX4_fate_4 : decode cX4_fate 4 = .ok (.getfield 92, 3) := by decide +kernel
theorem dX4_fate_7 : decode cX4_fate 7 = .ok (.iload_n 1, 1) := by decide +kernel
theorem dX4_fate_8 : decode cX4_fate 8 = .ok (.invokevirtual 81, 3) := by decide +kernel
theorem dX4_fate_11 : decode cX4_fate 11 = .ok (.ifCond .ne 5, 3) := by decide +kernel
theorem dX4_fate_14 : decode cX4_fate 14 = .ok (.iconst (-1), 1) := by decide +kernel
theorem dX4_fate_15 : decode cX4_fate 15 = .ok (.ireturn, 1) := by decide +kernel
theorem dX4_fate_16 : decode cX4_fate 16 = .ok (.aload_n 0, 1) := by decide +kernel
theorem dX4_fate_17 : decode cX4_fate 17 = .ok (.getfield 12, 3) := by decide +kernel
theorem dX4_fate_20 : decode cX4_fate 20 = .ok (.iload_n 1, 1) := by decide +kernel
theorem dX4_fate_21 : decode cX4_fate 21 = .ok (.invokevirtual 103, 3) := by decide +kernel
theorem dX4_fate_24 : decode cX4_fate 24 = .ok (.ifCond .ne 6, 3) := by decide +kernel
theorem dX4_fate_27 : decode cX4_fate 27 = .ok (.bipush (-4), 2) := by decide +kernel
theorem dX4_fate_29 : decode cX4_fate 29 = .ok (.ireturn, 1) := by decide +kernel
theorem dX4_fate_30 : decode cX4_fate 30 = .ok (.aload_n 0, 1) := by decide +kernel
theorem dX4_fate_31 : decode cX4_fate 31 = .ok (.getfield 19, 3) := by decide +kernel
theorem dX4_fate_34 : decode cX4_fate 34 = .ok (.aload_n 0, 1) := by decide +kernel
theorem dX4_fate_35 : decode cX4_fate 35 = .ok (.getfield 12, 3) := by decide +kernel
theorem dX4_fate_38 : decode cX4_fate 38 = .ok (.invokevirtual 167, 3) := by decide +kernel
theorem dX4_fate_41 : decode cX4_fate 41 = .ok (.aload_n 0, 1) := by decide +kernel
theorem dX4_fate_42 : decode cX4_fate 42 = .ok (.getfield 19, 3) := by decide +kernel
theorem dX4_fate_45 : decode cX4_fate 45 = .ok (.aload_n 0, 1) := by decide +kernel
theorem dX4_fate_46 : decode cX4_fate 46 = .ok (.getfield 12, 3) := by decide +kernel
theorem dX4_fate_49 : decode cX4_fate 49 = .ok (.getfield 92, 3) := by decide +kernel
theorem dX4_fate_52 : decode cX4_fate 52 = .ok (.iload_n 1, 1) := by decide +kernel
theorem dX4_fate_53 : decode cX4_fate 53 = .ok (.iconst 2, 1) := by decide +kernel
theorem dX4_fate_54 : decode cX4_fate 54 = .ok (.invokevirtual 106, 3) := by decide +kernel
theorem dX4_fate_57 : decode cX4_fate 57 = .ok (.invokevirtual 176, 3) := by decide +kernel
theorem dX4_fate_60 : decode cX4_fate 60 = .ok (.aload_n 0, 1) := by decide +kernel
theorem dX4_fate_61 : decode cX4_fate 61 = .ok (.getfield 19, 3) := by decide +kernel
theorem dX4_fate_64 : decode cX4_fate 64 = .ok (.iload_n 1, 1) := by decide +kernel
theorem dX4_fate_65 : decode cX4_fate 65 = .ok (.invokevirtual 198, 3) := by decide +kernel
theorem dX4_fate_68 : decode cX4_fate 68 = .ok (.ifCond .ne 5, 3) := by decide +kernel
theorem dX4_fate_71 : decode cX4_fate 71 = .ok (.iconst 0, 1) := by decide +kernel
theorem dX4_fate_72 : decode cX4_fate 72 = .ok (.ireturn, 1) := by decide +kernel
theorem dX4_fate_73 : decode cX4_fate 73 = .ok (.aload_n 0, 1) := by decide +kernel
theorem dX4_fate_74 : decode cX4_fate 74 = .ok (.getfield 19, 3) := by decide +kernel
theorem dX4_fate_77 : decode cX4_fate 77 = .ok (.iload_n 1, 1) := by decide +kernel
theorem dX4_fate_78 : decode cX4_fate 78 = .ok (.invokevirtual 201, 3) := by decide +kernel
theorem dX4_fate_81 : decode cX4_fate 81 = .ok (.bipush (-5), 2) := by decide +kernel
theorem dX4_fate_83 : decode cX4_fate 83 = .ok (.if_icmp .ne 7, 3) := by decide +kernel
theorem dX4_fate_86 : decode cX4_fate 86 = .ok (.iconst 2, 1) := by decide +kernel
theorem dX4_fate_87 : decode cX4_fate 87 = .ok (.goto 4, 3) := by decide +kernel
theorem dX4_fate_90 : decode cX4_fate 90 = .ok (.iconst 1, 1) := by decide +kernel
theorem dX4_fate_91 : decode cX4_fate 91 = .ok (.ireturn, 1) := by decide +kernel
theorem dX4_wind_0 : decode cX4_wind 0 = .ok (.iload_n 1, 1) := by decide +kernel
theorem dX4_wind_1 : decode cX4_wind 1 = .ok (.invokestatic 192, 3) := by decide +kernel
theorem dX4_wind_4 : decode cX4_wind 4 = .ok (.ifCond .eq 14, 3) := by decide +kernel
theorem dX4_wind_7 : decode cX4_wind 7 = .ok (.aload_n 0, 1) := by decide +kernel
theorem dX4_wind_8 : decode cX4_wind 8 = .ok (.getfield 12, 3) := by decide +kernel
theorem dX4_wind_11 : decode cX4_wind 11 = .ok (.iload_n 1, 1) := by decide +kernel
theorem dX4_wind_12 : decode cX4_wind 12 = .ok (.invokevirtual 73, 3) := by decide +kernel
theorem dX4_wind_15 : decode cX4_wind 15 = .ok (.goto 4, 3) := by decide +kernel
theorem dX4_wind_18 : decode cX4_wind 18 = .ok (.iconst (-1), 1) := by decide +kernel
theorem dX4_wind_19 : decode cX4_wind 19 = .ok (.ireturn, 1) := by decide +kernel
theorem dX4_count_0 : decode cX4_count 0 = .ok (.iload_n 1, 1) := by decide +kernel
theorem dX4_count_1 : decode cX4_count 1 = .ok (.tableswitch 263 0 16 #[83, 91, 102, 113, 124, 137, 150, 163, 176, 187, 195, 203, 215, 227, 235, 247, 255], 83) := by decide +kernel
theorem dX4_count_84 : decode cX4_count 84 = .ok (.aload_n 0, 1) := by decide +kernel
theorem dX4_count_85 : decode cX4_count 85 = .ok (.getfield 12, 3) := by decide +kernel
theorem dX4_count_88 : decode cX4_count 88 = .ok (.getfield 109, 3) := by decide +kernel
theorem dX4_count_91 : decode cX4_count 91 = .ok (.ireturn, 1) := by decide +kernel
theorem dX4_count_92 : decode cX4_count 92 = .ok (.aload_n 0, 1) := by decide +kernel
theorem dX4_count_93 : decode cX4_count 93 = .ok (.getfield 12, 3) := by decide +kernel
theorem dX4_count_96 : decode cX4_count 96 = .ok (.getfield 44, 3) := by decide +kernel
theorem dX4_count_99 : decode cX4_count 99 = .ok (.invokevirtual 133, 3) := by decide +kernel
theorem dX4_count_102 : decode cX4_count 102 = .ok (.ireturn, 1) := by decide +kernel
theorem dX4_count_103 : decode cX4_count 103 = .ok (.aload_n 0, 1) := by decide +kernel
theorem dX4_count_104 : decode cX4_count 104 = .ok (.getfield 12, 3) := by decide +kernel
theorem dX4_count_107 : decode cX4_count 107 = .ok (.getfield 62, 3) := by decide +kernel
theorem dX4_count_110 : decode cX4_count 110 = .ok (.invokevirtual 133, 3) := by decide +kernel
theorem dX4_count_113 : decode cX4_count 113 = .ok (.ireturn, 1) := by decide +kernel
theorem dX4_count_114 : decode cX4_count 114 = .ok (.aload_n 0, 1) := by decide +kernel
theorem dX4_count_115 : decode cX4_count 115 = .ok (.getfield 12, 3) := by decide +kernel
theorem dX4_count_118 : decode cX4_count 118 = .ok (.getfield 92, 3) := by decide +kernel
theorem dX4_count_121 : decode cX4_count 121 = .ok (.invokevirtual 133, 3) := by decide +kernel
theorem dX4_count_124 : decode cX4_count 124 = .ok (.ireturn, 1) := by decide +kernel
theorem dX4_count_125 : decode cX4_count 125 = .ok (.aload_n 0, 1) := by decide +kernel
theorem dX4_count_126 : decode cX4_count 126 = .ok (.getfield 12, 3) := by decide +kernel
theorem dX4_count_129 : decode cX4_count 129 = .ok (.getfield 92, 3) := by decide +kernel
theorem dX4_count_132 : decode cX4_count 132 = .ok (.iconst 5, 1) := by decide +kernel
theorem dX4_count_133 : decode cX4_count 133 = .ok (.iconst 0, 1) := by decide +kernel
theorem dX4_count_134 : decode cX4_count 134 = .ok (.invokevirtual 186, 3) := by decide +kernel
theorem dX4_count_137 : decode cX4_count 137 = .ok (.ireturn, 1) := by decide +kernel
theorem dX4_count_138 : decode cX4_count 138 = .ok (.aload_n 0, 1) := by decide +kernel
theorem dX4_count_139 : decode cX4_count 139 = .ok (.getfield 12, 3) := by decide +kernel
theorem dX4_count_142 : decode cX4_count 142 = .ok (.getfield 92, 3) := by decide +kernel
theorem dX4_count_145 : decode cX4_count 145 = .ok (.iconst 5, 1) := by decide +kernel
theorem dX4_count_146 : decode cX4_count 146 = .ok (.iconst 1, 1) := by decide +kernel
theorem dX4_count_147 : decode cX4_count 147 = .ok (.invokevirtual 186, 3) := by decide +kernel
theorem dX4_count_150 : decode cX4_count 150 = .ok (.ireturn, 1) := by decide +kernel
theorem dX4_count_151 : decode cX4_count 151 = .ok (.aload_n 0, 1) := by decide +kernel
theorem dX4_count_152 : decode cX4_count 152 = .ok (.getfield 12, 3) := by decide +kernel
theorem dX4_count_155 : decode cX4_count 155 = .ok (.getfield 92, 3) := by decide +kernel
theorem dX4_count_158 : decode cX4_count 158 = .ok (.iconst 5, 1) := by decide +kernel
theorem dX4_count_159 : decode cX4_count 159 = .ok (.iconst 2, 1) := by decide +kernel
theorem dX4_count_160 : decode cX4_count 160 = .ok (.invokevirtual 186, 3) := by decide +kernel
theorem dX4_count_163 : decode cX4_count 163 = .ok (.ireturn, 1) := by decide +kernel
theorem dX4_count_164 : decode cX4_count 164 = .ok (.aload_n 0, 1) := by decide +kernel
theorem dX4_count_165 : decode cX4_count 165 = .ok (.getfield 12, 3) := by decide +kernel
theorem dX4_count_168 : decode cX4_count 168 = .ok (.getfield 92, 3) := by decide +kernel
theorem dX4_count_171 : decode cX4_count 171 = .ok (.iconst 5, 1) := by decide +kernel
theorem dX4_count_172 : decode cX4_count 172 = .ok (.iconst 3, 1) := by decide +kernel
theorem dX4_count_173 : decode cX4_count 173 = .ok (.invokevirtual 186, 3) := by decide +kernel
theorem dX4_count_176 : decode cX4_count 176 = .ok (.ireturn, 1) := by decide +kernel
theorem dX4_count_177 : decode cX4_count 177 = .ok (.aload_n 0, 1) := by decide +kernel
theorem dX4_count_178 : decode cX4_count 178 = .ok (.getfield 12, 3) := by decide +kernel
theorem dX4_count_181 : decode cX4_count 181 = .ok (.getfield 122, 3) := by decide +kernel
theorem dX4_count_184 : decode cX4_count 184 = .ok (.invokevirtual 133, 3) := by decide +kernel
theorem dX4_count_187 : decode cX4_count 187 = .ok (.ireturn, 1) := by decide +kernel
theorem dX4_count_188 : decode cX4_count 188 = .ok (.aload_n 0, 1) := by decide +kernel
theorem dX4_count_189 : decode cX4_count 189 = .ok (.getfield 12, 3) := by decide +kernel
theorem dX4_count_192 : decode cX4_count 192 = .ok (.getfield 204, 3) := by decide +kernel
theorem dX4_count_195 : decode cX4_count 195 = .ok (.ireturn, 1) := by decide +kernel
theorem dX4_count_196 : decode cX4_count 196 = .ok (.aload_n 0, 1) := by decide +kernel
theorem dX4_count_197 : decode cX4_count 197 = .ok (.getfield 12, 3) := by decide +kernel
theorem dX4_count_200 : decode cX4_count 200 = .ok (.getfield 207, 3) := by decide +kernel
theorem dX4_count_203 : decode cX4_count 203 = .ok (.ireturn, 1) := by decide +kernel
theorem dX4_count_204 : decode cX4_count 204 = .ok (.aload_n 0, 1) := by decide +kernel
theorem dX4_count_205 : decode cX4_count 205 = .ok (.getfield 12, 3) := by decide +kernel
theorem dX4_count_208 : decode cX4_count 208 = .ok (.getfield 62, 3) := by decide +kernel
theorem dX4_count_211 : decode cX4_count 211 = .ok (.iconst 0, 1) := by decide +kernel
theorem dX4_count_212 : decode cX4_count 212 = .ok (.invokevirtual 210, 3) := by decide +kernel
theorem dX4_count_215 : decode cX4_count 215 = .ok (.ireturn, 1) := by decide +kernel
theorem dX4_count_216 : decode cX4_count 216 = .ok (.aload_n 0, 1) := by decide +kernel
theorem dX4_count_217 : decode cX4_count 217 = .ok (.getfield 12, 3) := by decide +kernel
theorem dX4_count_220 : decode cX4_count 220 = .ok (.getfield 62, 3) := by decide +kernel
theorem dX4_count_223 : decode cX4_count 223 = .ok (.iconst 1, 1) := by decide +kernel
theorem dX4_count_224 : decode cX4_count 224 = .ok (.invokevirtual 210, 3) := by decide +kernel
theorem dX4_count_227 : decode cX4_count 227 = .ok (.ireturn, 1) := by decide +kernel
theorem dX4_count_228 : decode cX4_count 228 = .ok (.aload_n 0, 1) := by decide +kernel
theorem dX4_count_229 : decode cX4_count 229 = .ok (.getfield 12, 3) := by decide +kernel
theorem dX4_count_232 : decode cX4_count 232 = .ok (.getfield 213, 3) := by decide +kernel
theorem dX4_count_235 : decode cX4_count 235 = .ok (.ireturn, 1) := by decide +kernel
theorem dX4_count_236 : decode cX4_count 236 = .ok (.aload_n 0, 1) := by decide +kernel
theorem dX4_count_237 : decode cX4_count 237 = .ok (.getfield 12, 3) := by decide +kernel
theorem dX4_count_240 : decode cX4_count 240 = .ok (.getfield 44, 3) := by decide +kernel
theorem dX4_count_243 : decode cX4_count 243 = .ok (.iconst 1, 1) := by decide +kernel
theorem dX4_count_244 : decode cX4_count 244 = .ok (.invokevirtual 210, 3) := by decide +kernel
theorem dX4_count_247 : decode cX4_count 247 = .ok (.ireturn, 1) := by decide +kernel
theorem dX4_count_248 : decode cX4_count 248 = .ok (.aload_n 0, 1) := by decide +kernel
theorem dX4_count_249 : decode cX4_count 249 = .ok (.getfield 25, 3) := by decide +kernel
theorem dX4_count_252 : decode cX4_count 252 = .ok (.invokevirtual 163, 3) := by decide +kernel
theorem dX4_count_255 : decode cX4_count 255 = .ok (.ireturn, 1) := by decide +kernel
theorem dX4_count_256 : decode cX4_count 256 = .ok (.aload_n 0, 1) := by decide +kernel
theorem dX4_count_257 : decode cX4_count 257 = .ok (.getfield 32, 3) := by decide +kernel
theorem dX4_count_260 : decode cX4_count 260 = .ok (.invokevirtual 143, 3) := by decide +kernel
theorem dX4_count_263 : decode cX4_count 263 = .ok (.ireturn, 1) := by decide +kernel
theorem dX4_count_264 : decode cX4_count 264 = .ok (.bipush (-2), 2) := by decide +kernel
theorem dX4_count_266 : decode cX4_count 266 = .ok (.ireturn, 1) := by decide +kernel
theorem dX4_isWithin_0 : decode cX4_isWithin 0 = .ok (.iload_n 0, 1) := by decide +kernel
theorem dX4_isWithin_1 : decode cX4_isWithin 1 = .ok (.iload_n 1, 1) := by decide +kernel
theorem dX4_isWithin_2 : decode cX4_isWithin 2 = .ok (.if_icmp .lt 12, 3) := by decide +kernel
theorem dX4_isWithin_5 : decode cX4_isWithin 5 = .ok (.iload_n 0, 1) := by decide +kernel
theorem dX4_isWithin_6 : decode cX4_isWithin 6 = .ok (.iload_n 2, 1) := by decide +kernel
theorem dX4_isWithin_7 : decode cX4_isWithin 7 = .ok (.if_icmp .gt 7, 3) := by decide +kernel
theorem dX4_isWithin_10 : decode cX4_isWithin 10 = .ok (.iconst 1, 1) := by decide +kernel
theorem dX4_isWithin_11 : decode cX4_isWithin 11 = .ok (.goto 4, 3) := by decide +kernel
theorem dX4_isWithin_14 : decode cX4_isWithin 14 = .ok (.iconst 0, 1) := by decide +kernel
theorem dX4_isWithin_15 : decode cX4_isWithin 15 = .ok (.ireturn, 1) := by decide +kernel
theorem dX4_isHalfDay_0 : decode cX4_isHalfDay 0 = .ok (.iload_n 0, 1) := by decide +kernel
theorem dX4_isHalfDay_1 : decode cX4_isHalfDay 1 = .ok (.iconst 0, 1) := by decide +kernel
theorem dX4_isHalfDay_2 : decode cX4_isHalfDay 2 = .ok (.sipush 199, 3) := by decide +kernel
theorem dX4_isHalfDay_5 : decode cX4_isHalfDay 5 = .ok (.invokestatic 40, 3) := by decide +kernel
theorem dX4_isHalfDay_8 : decode cX4_isHalfDay 8 = .ok (.ireturn, 1) := by decide +kernel
theorem dX4_isRadius_0 : decode cX4_isRadius 0 = .ok (.iload_n 0, 1) := by decide +kernel
theorem dX4_isRadius_1 : decode cX4_isRadius 1 = .ok (.iconst 2, 1) := by decide +kernel
theorem dX4_isRadius_2 : decode cX4_isRadius 2 = .ok (.bipush 60, 2) := by decide +kernel
theorem dX4_isRadius_4 : decode cX4_isRadius 4 = .ok (.invokestatic 40, 3) := by decide +kernel
theorem dX4_isRadius_7 : decode cX4_isRadius 7 = .ok (.ireturn, 1) := by decide +kernel
theorem dX4_isLift_0 : decode cX4_isLift 0 = .ok (.iload_n 0, 1) := by decide +kernel
theorem dX4_isLift_1 : decode cX4_isLift 1 = .ok (.iconst 1, 1) := by decide +kernel
theorem dX4_isLift_2 : decode cX4_isLift 2 = .ok (.sipush 2000, 3) := by decide +kernel
theorem dX4_isLift_5 : decode cX4_isLift 5 = .ok (.invokestatic 40, 3) := by decide +kernel
theorem dX4_isLift_8 : decode cX4_isLift 8 = .ok (.ifCond .eq 14, 3) := by decide +kernel
theorem dX4_isLift_11 : decode cX4_isLift 11 = .ok (.iload_n 1, 1) := by decide +kernel
theorem dX4_isLift_12 : decode cX4_isLift 12 = .ok (.invokestatic 170, 3) := by decide +kernel
theorem dX4_isLift_15 : decode cX4_isLift 15 = .ok (.ifCond .eq 7, 3) := by decide +kernel
theorem dX4_isLift_18 : decode cX4_isLift 18 = .ok (.iconst 1, 1) := by decide +kernel
theorem dX4_isLift_19 : decode cX4_isLift 19 = .ok (.goto 4, 3) := by decide +kernel
theorem dX4_isLift_22 : decode cX4_isLift 22 = .ok (.iconst 0, 1) := by decide +kernel
theorem dX4_isLift_23 : decode cX4_isLift 23 = .ok (.ireturn, 1) := by decide +kernel
theorem dX4_limitFor_0 : decode cX4_limitFor 0 = .ok (.bipush 60, 2) := by decide +kernel
theorem dX4_limitFor_2 : decode cX4_limitFor 2 = .ok (.iload_n 0, 1) := by decide +kernel
theorem dX4_limitFor_3 : decode cX4_limitFor 3 = .ok (.bipush 20, 2) := by decide +kernel
theorem dX4_limitFor_5 : decode cX4_limitFor 5 = .ok (.idiv, 1) := by decide +kernel
theorem dX4_limitFor_6 : decode cX4_limitFor 6 = .ok (.isub, 1) := by decide +kernel
theorem dX4_limitFor_7 : decode cX4_limitFor 7 = .ok (.iload_n 1, 1) := by decide +kernel
theorem dX4_limitFor_8 : decode cX4_limitFor 8 = .ok (.iconst 2, 1) := by decide +kernel
theorem dX4_limitFor_9 : decode cX4_limitFor 9 = .ok (.idiv, 1) := by decide +kernel
theorem dX4_limitFor_10 : decode cX4_limitFor 10 = .ok (.isub, 1) := by decide +kernel
theorem dX4_limitFor_11 : decode cX4_limitFor 11 = .ok (.bipush 10, 2) := by decide +kernel
theorem dX4_limitFor_13 : decode cX4_limitFor 13 = .ok (.invokestatic 216, 3) := by decide +kernel
theorem dX4_limitFor_16 : decode cX4_limitFor 16 = .ok (.ireturn, 1) := by decide +kernel
end
section
theorem dX5_init_0 : decode cX5_init 0 = .ok (.aload_n 0, 1) := by decide +kernel
theorem dX5_init_1 : decode cX5_init 1 = .ok (.invokespecial 1, 3) := by decide +kernel
theorem dX5_init_4 : decode cX5_init 4 = .ok (.aload_n 0, 1) := by decide +kernel
theorem dX5_init_5 : decode cX5_init 5 = .ok (.sipush 3745, 3) := by decide +kernel
theorem dX5_init_8 : decode cX5_init 8 = .ok (.newarray .int, 2) := by decide +kernel
theorem dX5_init_10 : decode cX5_init 10 = .ok (.putfield 7, 3) := by decide +kernel
theorem dX5_init_13 : decode cX5_init 13 = .ok (.aload_n 0, 1) := by decide +kernel
theorem dX5_init_14 : decode cX5_init 14 = .ok (.bipush 60, 2) := by decide +kernel
theorem dX5_init_16 : decode cX5_init 16 = .ok (.newarray .int, 2) := by decide +kernel
theorem dX5_init_18 : decode cX5_init 18 = .ok (.putfield 13, 3) := by decide +kernel
theorem dX5_init_21 : decode cX5_init 21 = .ok (.aload_n 0, 1) := by decide +kernel
theorem dX5_init_22 : decode cX5_init 22 = .ok (.bipush (-5), 2) := by decide +kernel
theorem dX5_init_24 : decode cX5_init 24 = .ok (.putfield 16, 3) := by decide +kernel
theorem dX5_init_27 : decode cX5_init 27 = .ok (.return_, 1) := by decide +kernel
theorem dX5_in_0 : decode cX5_in 0 = .ok (.iload_n 0, 1) := by decide +kernel
theorem dX5_in_1 : decode cX5_in 1 = .ok (.iload_n 1, 1) := by decide +kernel
theorem dX5_in_2 : decode cX5_in 2 = .ok (.if_icmp .lt 12, 3) := by decide +kernel
theorem dX5_in_5 : decode cX5_in 5 = .ok (.iload_n 0, 1) := by decide +kernel
theorem dX5_in_6 : decode cX5_in 6 = .ok (.iload_n 2, 1) := by decide +kernel
theorem dX5_in_7 : decode cX5_in 7 = .ok (.if_icmp .gt 7, 3) := by decide +kernel
theorem dX5_in_10 : decode cX5_in 10 = .ok (.iconst 1, 1) := by decide +kernel
theorem dX5_in_11 : decode cX5_in 11 = .ok (.goto 4, 3) := by decide +kernel
theorem dX5_in_14 : decode cX5_in 14 = .ok (.iconst 0, 1) := by decide +kernel
theorem dX5_in_15 : decode cX5_in 15 = .ok (.ireturn, 1) := by decide +kernel
theorem dX5_of_0 : decode cX5_of 0 = .ok (.bipush 9, 2) := by decide +kernel
theorem dX5_of_2 : decode cX5_of 2 = .ok (.iconst 4, 1) := by decide +kernel
theorem dX5_of_3 : decode cX5_of 3 = .ok (.iload_n 0, 1) := by decide +kernel
theorem dX5_of_4 : decode cX5_of 4 = .ok (.imul, 1) := by decide +kernel
theorem dX5_of_5 : decode cX5_of 5 = .ok (.iadd, 1) := by decide +kernel
theorem dX5_of_6 : decode cX5_of 6 = .ok (.iload_n 1, 1) := by decide +kernel
theorem dX5_of_7 : decode cX5_of 7 = .ok (.iadd, 1) := by decide +kernel
theorem dX5_of_8 : decode cX5_of 8 = .ok (.ireturn, 1) := by decide +kernel
theorem dX5_ofMember_0 : decode cX5_ofMember 0 = .ok (.bipush 29, 2) := by decide +kernel
theorem dX5_ofMember_2 : decode cX5_ofMember 2 = .ok (.iconst 2, 1) := by decide +kernel
theorem dX5_ofMember_3 : decode cX5_ofMember 3 = .ok (.iload_n 0, 1) := by decide +kernel
theorem dX5_ofMember_4 : decode cX5_ofMember 4 = .ok (.imul, 1) := by decide +kernel
theorem dX5_ofMember_5 : decode cX5_ofMember 5 = .ok (.iadd, 1) := by decide +kernel
theorem dX5_ofMember_6 : decode cX5_ofMember 6 = .ok (.iload_n 1, 1) := by decide +kernel
theorem dX5_ofMember_7 : decode cX5_ofMember 7 = .ok (.iadd, 1) := by decide +kernel
theorem dX5_ofMember_8 : decode cX5_ofMember 8 = .ok (.ireturn, 1) := by decide +kernel
theorem dX5_ofBooking_0 : decode cX5_ofBooking 0 = .ok (.bipush 45, 2) := by decide +kernel
theorem dX5_ofBooking_2 : decode cX5_ofBooking 2 = .ok (.bipush 8, 2) := by decide +kernel
theorem dX5_ofBooking_4 : decode cX5_ofBooking 4 = .ok (.iload_n 0, 1) := by decide +kernel
theorem dX5_ofBooking_5 : decode cX5_ofBooking 5 = .ok (.imul, 1) := by decide +kernel
theorem dX5_ofBooking_6 : decode cX5_ofBooking 6 = .ok (.iadd, 1) := by decide +kernel
theorem dX5_ofBooking_7 : decode cX5_ofBooking 7 = .ok (.iload_n 1, 1) := by decide +kernel
theorem dX5_ofBooking_8 : decode cX5_ofBooking 8 = .ok (.iadd, 1) := by decide +kernel
theorem dX5_ofBooking_9 : decode cX5_ofBooking 9 = .ok (.ireturn, 1) := by decide +kernel
theorem dX5_ofMove_0 : decode cX5_ofMove 0 = .ok (.sipush 285, 3) := by decide +kernel
theorem dX5_ofMove_3 : decode cX5_ofMove 3 = .ok (.iconst 5, 1) := by decide +kernel
theorem dX5_ofMove_4 : decode cX5_ofMove 4 = .ok (.iload_n 0, 1) := by decide +kernel
theorem dX5_ofMove_5 : decode cX5_ofMove 5 = .ok (.imul, 1) := by decide +kernel
theorem dX5_ofMove_6 : decode cX5_ofMove 6 = .ok (.iadd, 1) := by decide +kernel
theorem dX5_ofMove_7 : decode cX5_ofMove 7 = .ok (.iload_n 1, 1) := by decide +kernel
theorem dX5_ofMove_8 : decode cX5_ofMove 8 = .ok (.iadd, 1) := by decide +kernel
theorem dX5_ofMove_9 : decode cX5_ofMove 9 = .ok (.ireturn, 1) := by decide +kernel
theorem dX5_isMachine_0 : decode cX5_isMachine 0 = .ok (.iload_n 1, 1) := by decide +kernel
theorem dX5_isMachine_1 : decode cX5_isMachine 1 = .ok (.iconst 0, 1) := by decide +kernel
theorem dX5_isMachine_2 : decode cX5_isMachine 2 = .ok (.aload_n 0, 1) := by decide +kernel
theorem dX5_isMachine_3 : decode cX5_isMachine 3 = .ok (.getfield 7, 3) := by decide +kernel
theorem dX5_isMachine_6 : decode cX5_isMachine 6 = .ok (.iconst 1, 1) := by decide +kernel
theorem dX5_isMachine_7 : decode cX5_isMachine 7 = .ok (.iaload, 1) := by decide +kernel
theorem dX5_isMachine_8 : decode cX5_isMachine 8 = .ok (.iconst 1, 1) := by decide +kernel
theorem dX5_isMachine_9 : decode cX5_isMachine 9 = .ok (.isub, 1) := by decide +kernel
theorem dX5_isMachine_10 : decode cX5_isMachine 10 = .ok (.invokestatic 20, 3) := by decide +kernel
theorem dX5_isMachine_13 : decode cX5_isMachine 13 = .ok (.ireturn, 1) := by decide +kernel
theorem dX5_isMember_0 : decode cX5_isMember 0 = .ok (.iload_n 1, 1) := by decide +kernel
theorem dX5_isMember_1 : decode cX5_isMember 1 = .ok (.iconst 0, 1) := by decide +kernel
theorem dX5_isMember_2 : decode cX5_isMember 2 = .ok (.aload_n 0, 1) := by decide +kernel
theorem dX5_isMember_3 : decode cX5_isMember 3 = .ok (.getfield 7, 3) := by decide +kernel
theorem dX5_isMember_6 : decode cX5_isMember 6 = .ok (.iconst 2, 1) := by decide +kernel
theorem dX5_isMember_7 : decode cX5_isMember 7 = .ok (.iaload, 1) := by decide +kernel
theorem dX5_isMember_8 : decode cX5_isMember 8 = .ok (.iconst 1, 1) := by decide +kernel
theorem dX5_isMember_9 : decode cX5_isMember 9 = .ok (.isub, 1) := by decide +kernel
theorem dX5_isMember_10 : decode cX5_isMember 10 = .ok (.invokestatic 20, 3) := by decide +kernel
theorem dX5_isMember_13 : decode cX5_isMember 13 = .ok (.ireturn, 1) := by decide +kernel
theorem dX5_isBooking_0 : decode cX5_isBooking 0 = .ok (.iload_n 1, 1) := by decide +kernel
theorem dX5_isBooking_1 : decode cX5_isBooking 1 = .ok (.iconst 0, 1) := by decide +kernel
theorem dX5_isBooking_2 : decode cX5_isBooking 2 = .ok (.aload_n 0, 1) := by decide +kernel
theorem dX5_isBooking_3 : decode cX5_isBooking 3 = .ok (.getfield 7, 3) := by decide +kernel
theorem dX5_isBooking_6 : decode cX5_isBooking 6 = .ok (.iconst 3, 1) := by decide +kernel
theorem dX5_isBooking_7 : decode cX5_isBooking 7 = .ok (.iaload, 1) := by decide +kernel
theorem dX5_isBooking_8 : decode cX5_isBooking 8 = .ok (.iconst 1, 1) := by decide +kernel
theorem dX5_isBooking_9 : decode cX5_isBooking 9 = .ok (.isub, 1) := by decide +kernel
theorem dX5_isBooking_10 : decode cX5_isBooking 10 = .ok (.invokestatic 20, 3) := by decide +kernel
theorem dX5_isBooking_13 : decode cX5_isBooking 13 = .ok (.ireturn, 1) := by decide +kernel
theorem dX5_isMove_0 : decode cX5_isMove 0 = .ok (.iload_n 1, 1) := by decide +kernel
theorem dX5_isMove_1 : decode cX5_isMove 1 = .ok (.iconst 0, 1) := by decide +kernel
theorem dX5_isMove_2 : decode cX5_isMove 2 = .ok (.aload_n 0, 1) := by decide +kernel
theorem dX5_isMove_3 : decode cX5_isMove 3 = .ok (.getfield 7, 3) := by decide +kernel
theorem dX5_isMove_6 : decode cX5_isMove 6 = .ok (.iconst 4, 1) := by decide +kernel
theorem dX5_isMove_7 : decode cX5_isMove 7 = .ok (.iaload, 1) := by decide +kernel
theorem dX5_isMove_8 : decode cX5_isMove 8 = .ok (.iconst 1, 1) := by decide +kernel
theorem dX5_isMove_9 : decode cX5_isMove 9 = .ok (.isub, 1) := by decide +kernel
theorem dX5_isMove_10 : decode cX5_isMove 10 = .ok (.invokestatic 20, 3) := by decide +kernel
theorem dX5_isMove_13 : decode cX5_isMove 13 = .ok (.ireturn, 1) := by decide +kernel
theorem dX5_isToCome_0 : decode cX5_isToCome 0 = .ok (.iload_n 1, 1) := by decide +kernel
theorem dX5_isToCome_1 : decode cX5_isToCome 1 = .ok (.aload_n 0, 1) := by decide +kernel
theorem dX5_isToCome_2 : decode cX5_isToCome 2 = .ok (.getfield 7, 3) := by decide +kernel
theorem dX5_isToCome_5 : decode cX5_isToCome 5 = .ok (.iconst 0, 1) := by decide +kernel
theorem dX5_isToCome_6 : decode cX5_isToCome 6 = .ok (.iaload, 1) := by decide +kernel
theorem dX5_isToCome_7 : decode cX5_isToCome 7 = .ok (.sipush 199, 3) := by decide +kernel
theorem dX5_isToCome_10 : decode cX5_isToCome 10 = .ok (.invokestatic 20, 3) := by decide +kernel
theorem dX5_isToCome_13 : decode cX5_isToCome 13 = .ok (.ireturn, 1) := by decide +kernel
theorem dX5_isLift_0 : decode cX5_isLift 0 = .ok (.iload_n 0, 1) := by decide +kernel
theorem dX5_isLift_1 : decode cX5_isLift 1 = .ok (.iconst 1, 1) := by decide +kernel
theorem dX5_isLift_2 : decode cX5_isLift 2 = .ok (.sipush 2000, 3) := by decide +kernel
theorem dX5_isLift_5 : decode cX5_isLift 5 = .ok (.invokestatic 20, 3) := by decide +kernel
theorem dX5_isLift_8 : decode cX5_isLift 8 = .ok (.ifCond .eq 17, 3) := by decide +kernel
theorem dX5_isLift_11 : decode cX5_isLift 11 = .ok (.iload_n 1, 1) := by decide +kernel
theorem dX5_isLift_12 : decode cX5_isLift 12 = .ok (.iconst 2, 1) := by decide +kernel
theorem dX5_isLift_13 : decode cX5_isLift 13 = .ok (.bipush 60, 2) := by decide +kernel
theorem dX5_isLift_15 : decode cX5_isLift 15 = .ok (.invokestatic 20, 3) := by decide +kernel
theorem dX5_isLift_18 : decode cX5_isLift 18 = .ok (.ifCond .eq 7, 3) := by decide +kernel
theorem dX5_isLift_21 : decode cX5_isLift 21 = .ok (.iconst 1, 1) := by decide +kernel
theorem dX5_isLift_22 : decode cX5_isLift 22 = .ok (.goto 4, 3) := by decide +kernel
theorem dX5_isLift_25 : decode cX5_isLift 25 = .ok (.iconst 0, 1) := by decide +kernel
theorem dX5_isLift_26 : decode cX5_isLift 26 = .ok (.ireturn, 1) := by decide +kernel
theorem dX5_copy_0 : decode cX5_copy 0 = .ok (.iconst 0, 1) := by decide +kernel
theorem dX5_copy_1 : decode cX5_copy 1 = .ok (.istore_n 3, 1) := by decide +kernel
theorem dX5_copy_2 : decode cX5_copy 2 = .ok (.iload_n 3, 1) := by decide +kernel
theorem dX5_copy_3 : decode cX5_copy 3 = .ok (.sipush 535, 3) := by decide +kernel
theorem dX5_copy_6 : decode cX5_copy 6 = .ok (.if_icmp .ge 25, 3) := by decide +kernel
theorem dX5_copy_9 : decode cX5_copy 9 = .ok (.aload_n 0, 1) := by decide +kernel
theorem dX5_copy_10 : decode cX5_copy 10 = .ok (.getfield 7, 3) := by decide +kernel
theorem dX5_copy_13 : decode cX5_copy 13 = .ok (.iload_n 2, 1) := by decide +kernel
theorem dX5_copy_14 : decode cX5_copy 14 = .ok (.iload_n 3, 1) := by decide +kernel
theorem dX5_copy_15 : decode cX5_copy 15 = .ok (.iadd, 1) := by decide +kernel
theorem dX5_copy_16 : decode cX5_copy 16 = .ok (.aload_n 0, 1) := by decide +kernel
theorem dX5_copy_17 : decode cX5_copy 17 = .ok (.getfield 7, 3) := by decide +kernel
theorem dX5_copy_20 : decode cX5_copy 20 = .ok (.iload_n 1, 1) := by decide +kernel
theorem dX5_copy_21 : decode cX5_copy 21 = .ok (.iload_n 3, 1) := by decide +kernel
theorem dX5_copy_22 : decode cX5_copy 22 = .ok (.iadd, 1) := by decide +kernel
theorem dX5_copy_23 : decode cX5_copy 23 = .ok (.iaload, 1) := by decide +kernel
theorem dX5_copy_24 : decode cX5_copy 24 = .ok (.iastore, 1) := by decide +kernel
theorem dX5_copy_25 : decode cX5_copy 25 = .ok (.iinc 3 1, 3) := by decide +kernel
theorem dX5_copy_28 : decode cX5_copy 28 = .ok (.goto (-26), 3) := by decide +kernel
theorem dX5_copy_31 : decode cX5_copy 31 = .ok (.return_, 1) := by decide +kernel
theorem dX5_record_0 : decode cX5_record 0 = .ok (.aload_n 0, 1) := by decide +kernel
theorem dX5_record_1 : decode cX5_record 1 = .ok (.getfield 24, 3) := by decide +kernel
theorem dX5_record_4 : decode cX5_record 4 = .ok (.iconst 4, 1) := by decide +kernel
theorem dX5_record_5 : decode cX5_record 5 = .ok (.if_icmp .ne 44, 3) := by decide +kernel
theorem dX5_record_8 : decode cX5_record 8 = .ok (.iconst 1, 1) := by decide +kernel
theorem dX5_record_9 : decode cX5_record 9 = .ok (.istore_n 1, 1) := by decide +kernel
theorem dX5_record_10 : decode cX5_record 10 = .ok (.iload_n 1, 1) := by decide +kernel
theorem dX5_record_11 : decode cX5_record 11 = .ok (.iconst 4, 1) := by decide +kernel
theorem dX5_record_12 : decode cX5_record 12 = .ok (.if_icmp .ge 27, 3) := by decide +kernel
theorem dX5_record_15 : decode cX5_record 15 = .ok (.aload_n 0, 1) := by decide +kernel
theorem dX5_record_16 : decode cX5_record 16 = .ok (.sipush 535, 3) := by decide +kernel
theorem dX5_record_19 : decode cX5_record 19 = .ok (.sipush 535, 3) := by decide +kernel
theorem dX5_record_22 : decode cX5_record 22 = .ok (.iload_n 1, 1) := by decide +kernel
theorem dX5_record_23 : decode cX5_record 23 = .ok (.imul, 1) := by decide +kernel
theorem dX5_record_24 : decode cX5_record 24 = .ok (.iadd, 1) := by decide +kernel
theorem dX5_record_25 : decode cX5_record 25 = .ok (.sipush 535, 3) := by decide +kernel
theorem dX5_record_28 : decode cX5_record 28 = .ok (.iload_n 1, 1) := by decide +kernel
theorem dX5_record_29 : decode cX5_record 29 = .ok (.imul, 1) := by decide +kernel
theorem dX5_record_30 : decode cX5_record 30 = .ok (.invokevirtual 27, 3) := by decide +kernel
theorem dX5_record_33 : decode cX5_record 33 = .ok (.iinc 1 1, 3) := by decide +kernel
theorem dX5_record_36 : decode cX5_record 36 = .ok (.goto (-26), 3) := by decide +kernel
theorem dX5_record_39 : decode cX5_record 39 = .ok (.aload_n 0, 1) := by decide +kernel
theorem dX5_record_40 : decode cX5_record 40 = .ok (.dup, 1) := by decide +kernel
theorem dX5_record_41 : decode cX5_record 41 = .ok (.getfield 24, 3) := by decide +kernel
theorem dX5_record_44 : decode cX5_record 44 = .ok (.iconst 1, 1) := by decide +kernel
theorem dX5_record_45 : decode cX5_record 45 = .ok (.isub, 1) := by decide +kernel
theorem dX5_record_46 : decode cX5_record 46 = .ok (.putfield 24, 3) := by decide +kernel
theorem dX5_record_49 : decode cX5_record 49 = .ok (.aload_n 0, 1) := by decide +kernel
theorem dX5_record_50 : decode cX5_record 50 = .ok (.iconst 0, 1) := by decide +kernel
theorem dX5_record_51 : decode cX5_record 51 = .ok (.sipush 535, 3) := by decide +kernel
theorem dX5_record_54 : decode cX5_record 54 = .ok (.sipush 535, 3) := by decide +kernel
theorem dX5_record_57 : decode cX5_record 57 = .ok (.aload_n 0, 1) := by decide +kernel
theorem dX5_record_58 : decode cX5_record 58 = .ok (.getfield 24, 3) := by decide +kernel
theorem dX5_record_61 : decode cX5_record 61 = .ok (.imul, 1) := by decide +kernel
theorem dX5_record_62 : decode cX5_record 62 = .ok (.iadd, 1) := by decide +kernel
theorem dX5_record_63 : decode cX5_record 63 = .ok (.invokevirtual 27, 3) := by decide +kernel
theorem dX5_record_66 : decode cX5_record 66 = .ok (.aload_n 0, 1) := by decide +kernel
theorem dX5_record_67 : decode cX5_record 67 = .ok (.dup, 1) := by decide +kernel
theorem dX5_record_68 : decode cX5_record 68 = .ok (.getfield 24, 3) := by decide +kernel
theorem dX5_record_71 : decode cX5_record 71 = .ok (.iconst 1, 1) := by decide +kernel
theorem dX5_record_72 : decode cX5_record 72 = .ok (.iadd, 1) := by decide +kernel
theorem dX5_record_73 : decode cX5_record 73 = .ok (.putfield 24, 3) := by decide +kernel
theorem dX5_record_76 : decode cX5_record 76 = .ok (.return_, 1) := by decide +kernel
theorem dX5_undo_0 : decode cX5_undo 0 = .ok (.aload_n 0, 1) := by decide +kernel
theorem dX5_undo_1 : decode cX5_undo 1 = .ok (.getfield 24, 3) := by decide +kernel
theorem dX5_undo_4 : decode cX5_undo 4 = .ok (.ifCond .ne 6, 3) := by decide +kernel
theorem dX5_undo_7 : decode cX5_undo 7 = .ok (.bipush (-5), 2) := by decide +kernel
theorem dX5_undo_9 : decode cX5_undo 9 = .ok (.ireturn, 1) := by decide +kernel
theorem dX5_undo_10 : decode cX5_undo 10 = .ok (.aload_n 0, 1) := by decide +kernel
theorem dX5_undo_11 : decode cX5_undo 11 = .ok (.dup, 1) := by decide +kernel
theorem dX5_undo_12 : decode cX5_undo 12 = .ok (.getfield 24, 3) := by decide +kernel
theorem dX5_undo_15 : decode cX5_undo 15 = .ok (.iconst 1, 1) := by decide +kernel
theorem dX5_undo_16 : decode cX5_undo 16 = .ok (.isub, 1) := by decide +kernel
theorem dX5_undo_17 : decode cX5_undo 17 = .ok (.putfield 24, 3) := by decide +kernel
theorem dX5_undo_20 : decode cX5_undo 20 = .ok (.aload_n 0, 1) := by decide +kernel
theorem dX5_undo_21 : decode cX5_undo 21 = .ok (.sipush 535, 3) := by decide +kernel
theorem dX5_undo_24 : decode cX5_undo 24 = .ok (.sipush 535, 3) := by decide +kernel
theorem dX5_undo_27 : decode cX5_undo 27 = .ok (.aload_n 0, 1) := by decide +kernel
theorem dX5_undo_28 : decode cX5_undo 28 = .ok (.getfield 24, 3) := by decide +kernel
theorem dX5_undo_31 : decode cX5_undo 31 = .ok (.imul, 1) := by decide +kernel
theorem dX5_undo_32 : decode cX5_undo 32 = .ok (.iadd, 1) := by decide +kernel
theorem dX5_undo_33 : decode cX5_undo 33 = .ok (.iconst 0, 1) := by decide +kernel
theorem dX5_undo_34 : decode cX5_undo 34 = .ok (.invokevirtual 27, 3) := by decide +kernel
theorem dX5_undo_37 : decode cX5_undo 37 = .ok (.aload_n 0, 1) := by decide +kernel
theorem dX5_undo_38 : decode cX5_undo 38 = .ok (.getfield 24, 3) := by decide +kernel
theorem dX5_undo_41 : decode cX5_undo 41 = .ok (.ireturn, 1) := by decide +kernel
theorem dX5_keep_0 : decode cX5_keep 0 = .ok (.aload_n 0, 1) := by decide +kernel
theorem dX5_keep_1 : decode cX5_keep 1 = .ok (.iconst 0, 1) := by decide +kernel
theorem dX5_keep_2 : decode cX5_keep 2 = .ok (.sipush 2675, 3) := by decide +kernel
theorem dX5_keep_5 : decode cX5_keep 5 = .ok (.invokevirtual 27, 3) := by decide +kernel
theorem dX5_keep_8 : decode cX5_keep 8 = .ok (.aload_n 0, 1) := by decide +kernel
theorem dX5_keep_9 : decode cX5_keep 9 = .ok (.iconst 1, 1) := by decide +kernel
theorem dX5_keep_10 : decode cX5_keep 10 = .ok (.putfield 31, 3) := by decide +kernel
theorem dX5_keep_13 : decode cX5_keep 13 = .ok (.aload_n 0, 1) := by decide +kernel
theorem dX5_keep_14 : decode cX5_keep 14 = .ok (.getfield 7, 3) := by decide +kernel
theorem dX5_keep_17 : decode cX5_keep 17 = .ok (.iconst 0, 1) := by decide +kernel
theorem dX5_keep_18 : decode cX5_keep 18 = .ok (.iaload, 1) := by decide +kernel
theorem dX5_keep_19 : decode cX5_keep 19 = .ok (.ireturn, 1) := by decide +kernel
theorem dX5_restore_0 : decode cX5_restore 0 = .ok (.aload_n 0, 1) := by decide +kernel
theorem dX5_restore_1 : decode cX5_restore 1 = .ok (.getfield 31, 3) := by decide +kernel
theorem dX5_restore_4 : decode cX5_restore 4 = .ok (.ifCond .ne 6, 3) := by decide +kernel
theorem dX5_restore_7 : decode cX5_restore 7 = .ok (.bipush (-5), 2) := by decide +kernel
theorem dX5_restore_9 : decode cX5_restore 9 = .ok (.ireturn, 1) := by decide +kernel
theorem dX5_restore_10 : decode cX5_restore 10 = .ok (.aload_n 0, 1) := by decide +kernel
theorem dX5_restore_11 : decode cX5_restore 11 = .ok (.invokevirtual 35, 3) := by decide +kernel
theorem dX5_restore_14 : decode cX5_restore 14 = .ok (.aload_n 0, 1) := by decide +kernel
theorem dX5_restore_15 : decode cX5_restore 15 = .ok (.sipush 2675, 3) := by decide +kernel
theorem dX5_restore_18 : decode cX5_restore 18 = .ok (.iconst 0, 1) := by decide +kernel
theorem dX5_restore_19 : decode cX5_restore 19 = .ok (.invokevirtual 27, 3) := by decide +kernel
theorem dX5_restore_22 : decode cX5_restore 22 = .ok (.aload_n 0, 1) := by decide +kernel
theorem dX5_restore_23 : decode cX5_restore 23 = .ok (.getfield 7, 3) := by decide +kernel
theorem dX5_restore_26 : decode cX5_restore 26 = .ok (.iconst 0, 1) := by decide +kernel
theorem dX5_restore_27 : decode cX5_restore 27 = .ok (.iaload, 1) := by decide +kernel
theorem dX5_restore_28 : decode cX5_restore 28 = .ok (.ireturn, 1) := by decide +kernel
theorem dX5_addMachine_0 : decode cX5_addMachine 0 = .ok (.iload_n 1, 1) := by decide +kernel
theorem dX5_addMachine_1 : decode cX5_addMachine 1 = .ok (.bipush 10, 2) := by decide +kernel
theorem dX5_addMachine_3 : decode cX5_addMachine 3 = .ok (.sipush 200, 3) := by decide +kernel
theorem dX5_addMachine_6 : decode cX5_addMachine 6 = .ok (.invokestatic 20, 3) := by decide +kernel
theorem dX5_addMachine_9 : decode cX5_addMachine 9 = .ok (.ifCond .eq 13, 3) := by decide +kernel
theorem dX5_addMachine_12 : decode cX5_addMachine 12 = .ok (.iload_n 2, 1) := by decide +kernel
theorem dX5_addMachine_13 : decode cX5_addMachine 13 = .ok (.iconst 0, 1) := by decide +kernel
theorem dX5_addMachine_14 : decode cX5_addMachine 14 = .ok (.bipush 12, 2) := by decide +kernel
theorem dX5_addMachine_16 : decode cX5_addMachine 16 = .ok (.invokestatic 20, 3) := by decide +kernel
theorem dX5_addMachine_19 : decode cX5_addMachine 19 = .ok (.ifCond .ne 6, 3) := by decide +kernel
theorem dX5_addMachine_22 : decode cX5_addMachine 22 = .ok (.bipush (-2), 2) := by decide +kernel
theorem dX5_addMachine_24 : decode cX5_addMachine 24 = .ok (.ireturn, 1) := by decide +kernel
theorem dX5_addMachine_25 : decode cX5_addMachine 25 = .ok (.aload_n 0, 1) := by decide +kernel
theorem dX5_addMachine_26 : decode cX5_addMachine 26 = .ok (.getfield 7, 3) := by decide +kernel
theorem dX5_addMachine_29 : decode cX5_addMachine 29 = .ok (.iconst 1, 1) := by decide +kernel
theorem dX5_addMachine_30 : decode cX5_addMachine 30 = .ok (.iaload, 1) := by decide +kernel
theorem dX5_addMachine_31 : decode cX5_addMachine 31 = .ok (.iconst 5, 1) := by decide +kernel
theorem dX5_addMachine_32 : decode cX5_addMachine 32 = .ok (.if_icmp .ne 6, 3) := by decide +kernel
theorem dX5_addMachine_35 : decode cX5_addMachine 35 = .ok (.bipush (-3), 2) := by decide +kernel
theorem dX5_addMachine_37 : decode cX5_addMachine 37 = .ok (.ireturn, 1) := by decide +kernel
theorem dX5_addMachine_38 : decode cX5_addMachine 38 = .ok (.aload_n 0, 1) := by decide +kernel
theorem dX5_addMachine_39 : decode cX5_addMachine 39 = .ok (.invokevirtual 35, 3) := by decide +kernel
theorem dX5_addMachine_42 : decode cX5_addMachine 42 = .ok (.aload_n 0, 1) := by decide +kernel
theorem dX5_addMachine_43 : decode cX5_addMachine 43 = .ok (.getfield 7, 3) := by decide +kernel
theorem dX5_addMachine_46 : decode cX5_addMachine 46 = .ok (.iconst 1, 1) := by decide +kernel
theorem dX5_addMachine_47 : decode cX5_addMachine 47 = .ok (.iaload, 1) := by decide +kernel
theorem dX5_addMachine_48 : decode cX5_addMachine 48 = .ok (.istore_n 3, 1) := by decide +kernel
theorem dX5_addMachine_49 : decode cX5_addMachine 49 = .ok (.aload_n 0, 1) := by decide +kernel
theorem dX5_addMachine_50 : decode cX5_addMachine 50 = .ok (.getfield 7, 3) := by decide +kernel
theorem dX5_addMachine_53 : decode cX5_addMachine 53 = .ok (.iload_n 3, 1) := by decide +kernel
theorem dX5_addMachine_54 : decode cX5_addMachine 54 = .ok (.iconst 0, 1) := by decide +kernel
theorem dX5_addMachine_55 : decode cX5_addMachine 55 = .ok (.invokestatic 38, 3) := by decide +kernel
theorem dX5_addMachine_58 : decode cX5_addMachine 58 = .ok (.iload_n 1, 1) := by decide +kernel
theorem dX5_addMachine_59 : decode cX5_addMachine 59 = .ok (.iastore, 1) := by decide +kernel
theorem dX5_addMachine_60 : decode cX5_addMachine 60 = .ok (.aload_n 0, 1) := by decide +kernel
theorem dX5_addMachine_61 : decode cX5_addMachine 61 = .ok (.getfield 7, 3) := by decide +kernel
theorem dX5_addMachine_64 : decode cX5_addMachine 64 = .ok (.iload_n 3, 1) := by decide +kernel
theorem dX5_addMachine_65 : decode cX5_addMachine 65 = .ok (.iconst 1, 1) := by decide +kernel
theorem dX5_addMachine_66 : decode cX5_addMachine 66 = .ok (.invokestatic 38, 3) := by decide +kernel
theorem dX5_addMachine_69 : decode cX5_addMachine 69 = .ok (.iload_n 2, 1) := by decide +kernel
theorem dX5_addMachine_70 : decode cX5_addMachine 70 = .ok (.iastore, 1) := by decide +kernel
theorem dX5_addMachine_71 : decode cX5_addMachine 71 = .ok (.aload_n 0, 1) := by decide +kernel
theorem dX5_addMachine_72 : decode cX5_addMachine 72 = .ok (.getfield 7, 3) := by decide +kernel
theorem dX5_addMachine_75 : decode cX5_addMachine 75 = .ok (.iload_n 3, 1) := by decide +kernel
theorem dX5_addMachine_76 : decode cX5_addMachine 76 = .ok (.iconst 2, 1) := by decide +kernel
theorem dX5_addMachine_77 : decode cX5_addMachine 77 = .ok (.invokestatic 38, 3) := by decide +kernel
theorem dX5_addMachine_80 : decode cX5_addMachine 80 = .ok (.iconst 0, 1) := by decide +kernel
theorem dX5_addMachine_81 : decode cX5_addMachine 81 = .ok (.iastore, 1) := by decide +kernel
theorem dX5_addMachine_82 : decode cX5_addMachine 82 = .ok (.aload_n 0, 1) := by decide +kernel
theorem dX5_addMachine_83 : decode cX5_addMachine 83 = .ok (.getfield 7, 3) := by decide +kernel
theorem dX5_addMachine_86 : decode cX5_addMachine 86 = .ok (.iload_n 3, 1) := by decide +kernel
theorem dX5_addMachine_87 : decode cX5_addMachine 87 = .ok (.iconst 3, 1) := by decide +kernel
theorem dX5_addMachine_88 : decode cX5_addMachine 88 = .ok (.invokestatic 38, 3) := by decide +kernel
theorem dX5_addMachine_91 : decode cX5_addMachine 91 = .ok (.iconst 0, 1) := by decide +kernel
theorem dX5_addMachine_92 : decode cX5_addMachine 92 = .ok (.iastore, 1) := by decide +kernel
theorem dX5_addMachine_93 : decode cX5_addMachine 93 = .ok (.aload_n 0, 1) := by decide +kernel
theorem dX5_addMachine_94 : decode cX5_addMachine 94 = .ok (.getfield 7, 3) := by decide +kernel
theorem dX5_addMachine_97 : decode cX5_addMachine 97 = .ok (.iconst 1, 1) := by decide +kernel
theorem dX5_addMachine_98 : decode cX5_addMachine 98 = .ok (.dup2, 1) := by decide +kernel
theorem dX5_addMachine_99 : decode cX5_addMachine 99 = .ok (.iaload, 1) := by decide +kernel
theorem dX5_addMachine_100 : decode cX5_addMachine 100 = .ok (.iconst 1, 1) := by decide +kernel
theorem dX5_addMachine_101 : decode cX5_addMachine 101 = .ok (.iadd, 1) := by decide +kernel
theorem dX5_addMachine_102 : decode cX5_addMachine 102 = .ok (.iastore, 1) := by decide +kernel
theorem dX5_addMachine_103 : decode cX5_addMachine 103 = .ok (.iload_n 3, 1) := by decide +kernel
theorem dX5_addMachine_104 : decode cX5_addMachine 104 = .ok (.ireturn, 1) := by decide +kernel
theorem dX5_addMember_0 : decode cX5_addMember 0 = .ok (.aload_n 0, 1) := by decide +kernel
theorem dX5_addMember_1 : decode cX5_addMember 1 = .ok (.getfield 7, 3) := by decide +kernel
theorem dX5_addMember_4 : decode cX5_addMember 4 = .ok (.iconst 2, 1) := by decide +kernel
theorem dX5_addMember_5 : decode cX5_addMember 5 = .ok (.iaload, 1) := by decide +kernel
theorem dX5_addMember_6 : decode cX5_addMember 6 = .ok (.bipush 8, 2) := by decide +kernel
theorem dX5_addMember_8 : decode cX5_addMember 8 = .ok (.if_icmp .ne 6, 3) := by decide +kernel
theorem dX5_addMember_11 : decode cX5_addMember 11 = .ok (.bipush (-3), 2) := by decide +kernel
theorem dX5_addMember_13 : decode cX5_addMember 13 = .ok (.ireturn, 1) := by decide +kernel
theorem dX5_addMember_14 : decode cX5_addMember 14 = .ok (.aload_n 0, 1) := by decide +kernel
theorem dX5_addMember_15 : decode cX5_addMember 15 = .ok (.invokevirtual 35, 3) := by decide +kernel
theorem dX5_addMember_18 : decode cX5_addMember 18 = .ok (.aload_n 0, 1) := by decide +kernel
theorem dX5_addMember_19 : decode cX5_addMember 19 = .ok (.getfield 7, 3) := by decide +kernel
theorem dX5_addMember_22 : decode cX5_addMember 22 = .ok (.iconst 2, 1) := by decide +kernel
theorem dX5_addMember_23 : decode cX5_addMember 23 = .ok (.iaload, 1) := by decide +kernel
theorem dX5_addMember_24 : decode cX5_addMember 24 = .ok (.istore_n 1, 1) := by decide +kernel
theorem dX5_addMember_25 : decode cX5_addMember 25 = .ok (.aload_n 0, 1) := by decide +kernel
theorem dX5_addMember_26 : decode cX5_addMember 26 = .ok (.getfield 7, 3) := by decide +kernel
theorem dX5_addMember_29 : decode cX5_addMember 29 = .ok (.iload_n 1, 1) := by decide +kernel
theorem dX5_addMember_30 : decode cX5_addMember 30 = .ok (.iconst 0, 1) := by decide +kernel
theorem dX5_addMember_31 : decode cX5_addMember 31 = .ok (.invokestatic 42, 3) := by decide +kernel
theorem dX5_addMember_34 : decode cX5_addMember 34 = .ok (.iconst 0, 1) := by decide +kernel
theorem dX5_addMember_35 : decode cX5_addMember 35 = .ok (.iastore, 1) := by decide +kernel
theorem dX5_addMember_36 : decode cX5_addMember 36 = .ok (.aload_n 0, 1) := by decide +kernel
theorem dX5_addMember_37 : decode cX5_addMember 37 = .ok (.getfield 7, 3) := by decide +kernel
theorem dX5_addMember_40 : decode cX5_addMember 40 = .ok (.iload_n 1, 1) := by decide +kernel
theorem dX5_addMember_41 : decode cX5_addMember 41 = .ok (.iconst 1, 1) := by decide +kernel
theorem dX5_addMember_42 : decode cX5_addMember 42 = .ok (.invokestatic 42, 3) := by decide +kernel
theorem dX5_addMember_45 : decode cX5_addMember 45 = .ok (.iconst 0, 1) := by decide +kernel
theorem dX5_addMember_46 : decode cX5_addMember 46 = .ok (.iastore, 1) := by decide +kernel
theorem dX5_addMember_47 : decode cX5_addMember 47 = .ok (.aload_n 0, 1) := by decide +kernel
theorem dX5_addMember_48 : decode cX5_addMember 48 = .ok (.getfield 7, 3) := by decide +kernel
theorem dX5_addMember_51 : decode cX5_addMember 51 = .ok (.iconst 2, 1) := by decide +kernel
theorem dX5_addMember_52 : decode cX5_addMember 52 = .ok (.dup2, 1) := by decide +kernel
theorem dX5_addMember_53 : decode cX5_addMember 53 = .ok (.iaload, 1) := by decide +kernel
theorem dX5_addMember_54 : decode cX5_addMember 54 = .ok (.iconst 1, 1) := by decide +kernel
theorem dX5_addMember_55 : decode cX5_addMember 55 = .ok (.iadd, 1) := by decide +kernel
theorem dX5_addMember_56 : decode cX5_addMember 56 = .ok (.iastore, 1) := by decide +kernel
theorem dX5_addMember_57 : decode cX5_addMember 57 = .ok (.iload_n 1, 1) := by decide +kernel
theorem dX5_addMember_58 : decode cX5_addMember 58 = .ok (.ireturn, 1) := by decide +kernel
theorem dX5_setWind_0 : decode cX5_setWind 0 = .ok (.aload_n 0, 1) := by decide +kernel
theorem dX5_setWind_1 : decode cX5_setWind 1 = .ok (.iload_n 1, 1) := by decide +kernel
theorem dX5_setWind_2 : decode cX5_setWind 2 = .ok (.invokevirtual 45, 3) := by decide +kernel
theorem dX5_setWind_5 : decode cX5_setWind 5 = .ok (.ifCond .ne 5, 3) := by decide +kernel
theorem dX5_setWind_8 : decode cX5_setWind 8 = .ok (.iconst (-1), 1) := by decide +kernel
theorem dX5_setWind_9 : decode cX5_setWind 9 = .ok (.ireturn, 1) := by decide +kernel
theorem dX5_setWind_10 : decode cX5_setWind 10 = .ok (.iload_n 2, 1) := by decide +kernel
theorem dX5_setWind_11 : decode cX5_setWind 11 = .ok (.iconst 0, 1) := by decide +kernel
theorem dX5_setWind_12 : decode cX5_setWind 12 = .ok (.bipush 99, 2) := by decide +kernel
theorem dX5_setWind_14 : decode cX5_setWind 14 = .ok (.invokestatic 20, 3) := by decide +kernel
theorem dX5_setWind_17 : decode cX5_setWind 17 = .ok (.ifCond .ne 6, 3) := by decide +kernel
theorem dX5_setWind_20 : decode cX5_setWind 20 = .ok (.bipush (-2), 2) := by decide +kernel
theorem dX5_setWind_22 : decode cX5_setWind 22 = .ok (.ireturn, 1) := by decide +kernel
theorem dX5_setWind_23 : decode cX5_setWind 23 = .ok (.aload_n 0, 1) := by decide +kernel
theorem dX5_setWind_24 : decode cX5_setWind 24 = .ok (.getfield 7, 3) := by decide +kernel
theorem dX5_setWind_27 : decode cX5_setWind 27 = .ok (.sipush 335, 3) := by decide +kernel
theorem dX5_setWind_30 : decode cX5_setWind 30 = .ok (.iload_n 1, 1) := by decide +kernel
theorem dX5_setWind_31 : decode cX5_setWind 31 = .ok (.iadd, 1) := by decide +kernel
theorem dX5_setWind_32 : decode cX5_setWind 32 = .ok (.iaload, 1) := by decide +kernel
theorem dX5_setWind_33 : decode cX5_setWind 33 = .ok (.istore_n 3, 1) := by decide +kernel
theorem dX5_setWind_34 : decode cX5_setWind 34 = .ok (.iload_n 3, 1) := by decide +kernel
theorem dX5_setWind_35 : decode cX5_setWind 35 = .ok (.iload_n 2, 1) := by decide +kernel
theorem dX5_setWind_36 : decode cX5_setWind 36 = .ok (.if_icmp .ne 6, 3) := by decide +kernel
theorem dX5_setWind_39 : decode cX5_setWind 39 = .ok (.bipush (-5), 2) := by decide +kernel
theorem dX5_setWind_41 : decode cX5_setWind 41 = .ok (.ireturn, 1) := by decide +kernel
theorem dX5_setWind_42 : decode cX5_setWind 42 = .ok (.aload_n 0, 1) := by decide +kernel
theorem dX5_setWind_43 : decode cX5_setWind 43 = .ok (.invokevirtual 35, 3) := by decide +kernel
theorem dX5_setWind_46 : decode cX5_setWind 46 = .ok (.aload_n 0, 1) := by decide +kernel
theorem dX5_setWind_47 : decode cX5_setWind 47 = .ok (.getfield 7, 3) := by decide +kernel
theorem dX5_setWind_50 : decode cX5_setWind 50 = .ok (.sipush 335, 3) := by decide +kernel
theorem dX5_setWind_53 : decode cX5_setWind 53 = .ok (.iload_n 1, 1) := by decide +kernel
theorem dX5_setWind_54 : decode cX5_setWind 54 = .ok (.iadd, 1) := by decide +kernel
theorem dX5_setWind_55 : decode cX5_setWind 55 = .ok (.iload_n 2, 1) := by decide +kernel
theorem dX5_setWind_56 : decode cX5_setWind 56 = .ok (.iastore, 1) := by decide +kernel
theorem dX5_setWind_57 : decode cX5_setWind 57 = .ok (.iload_n 3, 1) := by decide +kernel
theorem dX5_setWind_58 : decode cX5_setWind 58 = .ok (.ireturn, 1) := by decide +kernel
theorem dX5_bearsBy_0 : decode cX5_bearsBy 0 = .ok (.iload_n 0, 1) := by decide +kernel
theorem dX5_bearsBy_1 : decode cX5_bearsBy 1 = .ok (.bipush 100, 2) := by decide +kernel
theorem dX5_bearsBy_3 : decode cX5_bearsBy 3 = .ok (.imul, 1) := by decide +kernel
theorem dX5_bearsBy_4 : decode cX5_bearsBy 4 = .ok (.iload_n 1, 1) := by decide +kernel
theorem dX5_bearsBy_5 : decode cX5_bearsBy 5 = .ok (.sipush 150, 3) := by decide +kernel
theorem dX5_bearsBy_8 : decode cX5_bearsBy 8 = .ok (.imul, 1) := by decide +kernel
theorem dX5_bearsBy_9 : decode cX5_bearsBy 9 = .ok (.iadd, 1) := by decide +kernel
theorem dX5_bearsBy_10 : decode cX5_bearsBy 10 = .ok (.iload_n 2, 1) := by decide +kernel
theorem dX5_bearsBy_11 : decode cX5_bearsBy 11 = .ok (.idiv, 1) := by decide +kernel
theorem dX5_bearsBy_12 : decode cX5_bearsBy 12 = .ok (.istore_n 3, 1) := by decide +kernel
theorem dX5_bearsBy_13 : decode cX5_bearsBy 13 = .ok (.iload_n 3, 1) := by decide +kernel
theorem dX5_bearsBy_14 : decode cX5_bearsBy 14 = .ok (.iload_n 0, 1) := by decide +kernel
theorem dX5_bearsBy_15 : decode cX5_bearsBy 15 = .ok (.bipush 10, 2) := by decide +kernel
theorem dX5_bearsBy_17 : decode cX5_bearsBy 17 = .ok (.imul, 1) := by decide +kernel
theorem dX5_bearsBy_18 : decode cX5_bearsBy 18 = .ok (.if_icmp .ge 7, 3) := by decide +kernel
theorem dX5_bearsBy_21 : decode cX5_bearsBy 21 = .ok (.iload_n 3, 1) := by decide +kernel
theorem dX5_bearsBy_22 : decode cX5_bearsBy 22 = .ok (.goto 7, 3) := by decide +kernel
theorem dX5_bearsBy_25 : decode cX5_bearsBy 25 = .ok (.iload_n 0, 1) := by decide +kernel
theorem dX5_bearsBy_26 : decode cX5_bearsBy 26 = .ok (.bipush 10, 2) := by decide +kernel
theorem dX5_bearsBy_28 : decode cX5_bearsBy 28 = .ok (.imul, 1) := by decide +kernel
theorem dX5_bearsBy_29 : decode cX5_bearsBy 29 = .ok (.ireturn, 1) := by decide +kernel
theorem dX5_canBear_0 : decode cX5_canBear 0 = .ok (.iload_n 2, 1) := by decide +kernel
theorem dX5_canBear_1 : decode cX5_canBear 1 = .ok (.aload_n 0, 1) := by decide +kernel
theorem dX5_canBear_2 : decode cX5_canBear 2 = .ok (.getfield 7, 3) := by decide +kernel
theorem dX5_canBear_5 : decode cX5_canBear 5 = .ok (.iload_n 1, 1) := by decide +kernel
theorem dX5_canBear_6 : decode cX5_canBear 6 = .ok (.iconst 0, 1) := by decide +kernel
theorem dX5_canBear_7 : decode cX5_canBear 7 = .ok (.invokestatic 38, 3) := by decide +kernel
theorem dX5_canBear_10 : decode cX5_canBear 10 = .ok (.iaload, 1) := by decide +kernel
theorem dX5_canBear_11 : decode cX5_canBear 11 = .ok (.aload_n 0, 1) := by decide +kernel
theorem dX5_canBear_12 : decode cX5_canBear 12 = .ok (.getfield 7, 3) := by decide +kernel
theorem dX5_canBear_15 : decode cX5_canBear 15 = .ok (.iload_n 1, 1) := by decide +kernel
theorem dX5_canBear_16 : decode cX5_canBear 16 = .ok (.iconst 1, 1) := by decide +kernel
theorem dX5_canBear_17 : decode cX5_canBear 17 = .ok (.invokestatic 38, 3) := by decide +kernel
theorem dX5_canBear_20 : decode cX5_canBear 20 = .ok (.iaload, 1) := by decide +kernel
theorem dX5_canBear_21 : decode cX5_canBear 21 = .ok (.iload_n 3, 1) := by decide +kernel
theorem dX5_canBear_22 : decode cX5_canBear 22 = .ok (.invokestatic 49, 3) := by decide +kernel
theorem dX5_canBear_25 : decode cX5_canBear 25 = .ok (.if_icmp .gt 7, 3) := by decide +kernel
theorem dX5_canBear_28 : decode cX5_canBear 28 = .ok (.iconst 1, 1) := by decide +kernel
theorem dX5_canBear_29 : decode cX5_canBear 29 = .ok (.goto 4, 3) := by decide +kernel
theorem dX5_canBear_32 : decode cX5_canBear 32 = .ok (.iconst 0, 1) := by decide +kernel
theorem dX5_canBear_33 : decode cX5_canBear 33 = .ok (.ireturn, 1) := by decide +kernel
theorem dX5_limitOf_0 : decode cX5_limitOf 0 = .ok (.bipush 60, 2) := by decide +kernel
theorem dX5_limitOf_2 : decode cX5_limitOf 2 = .ok (.iload_n 0, 1) := by decide +kernel
theorem dX5_limitOf_3 : decode cX5_limitOf 3 = .ok (.bipush 20, 2) := by decide +kernel
theorem dX5_limitOf_5 : decode cX5_limitOf 5 = .ok (.idiv, 1) := by decide +kernel
theorem dX5_limitOf_6 : decode cX5_limitOf 6 = .ok (.isub, 1) := by decide +kernel
theorem dX5_limitOf_7 : decode cX5_limitOf 7 = .ok (.iload_n 1, 1) := by decide +kernel
theorem dX5_limitOf_8 : decode cX5_limitOf 8 = .ok (.iconst 2, 1) := by decide +kernel
theorem dX5_limitOf_9 : decode cX5_limitOf 9 = .ok (.idiv, 1) := by decide +kernel
theorem dX5_limitOf_10 : decode cX5_limitOf 10 = .ok (.isub, 1) := by decide +kernel
theorem dX5_limitOf_11 : decode cX5_limitOf 11 = .ok (.istore_n 2, 1) := by decide +kernel
theorem dX5_limitOf_12 : decode cX5_limitOf 12 = .ok (.iload_n 2, 1) := by decide +kernel
theorem dX5_limitOf_13 : decode cX5_limitOf 13 = .ok (.bipush 10, 2) := by decide +kernel
theorem dX5_limitOf_15 : decode cX5_limitOf 15 = .ok (.if_icmp .ge 8, 3) := by decide +kernel
theorem dX5_limitOf_18 : decode cX5_limitOf 18 = .ok (.bipush 10, 2) := by decide +kernel
theorem dX5_limitOf_20 : decode cX5_limitOf 20 = .ok (.goto 4, 3) := by decide +kernel
theorem dX5_limitOf_23 : decode cX5_limitOf 23 = .ok (.iload_n 2, 1) := by decide +kernel
theorem dX5_limitOf_24 : decode cX5_limitOf 24 = .ok (.ireturn, 1) := by decide +kernel
theorem dX5_bookingAt_0 : decode cX5_bookingAt 0 = .ok (.iconst 0, 1) := by decide +kernel
theorem dX5_bookingAt_1 : decode cX5_bookingAt 1 = .ok (.istore_n 3, 1) := by decide +kernel
theorem dX5_bookingAt_2 : decode cX5_bookingAt 2 = .ok (.iload_n 3, 1) := by decide +kernel
theorem dX5_bookingAt_3 : decode cX5_bookingAt 3 = .ok (.aload_n 0, 1) := by decide +kernel
theorem dX5_bookingAt_4 : decode cX5_bookingAt 4 = .ok (.getfield 7, 3) := by decide +kernel
theorem dX5_bookingAt_7 : decode cX5_bookingAt 7 = .ok (.iconst 3, 1) := by decide +kernel
theorem dX5_bookingAt_8 : decode cX5_bookingAt 8 = .ok (.iaload, 1) := by decide +kernel
theorem dX5_bookingAt_9 : decode cX5_bookingAt 9 = .ok (.if_icmp .ge 52, 3) := by decide +kernel
theorem dX5_bookingAt_12 : decode cX5_bookingAt 12 = .ok (.aload_n 0, 1) := by decide +kernel
theorem dX5_bookingAt_13 : decode cX5_bookingAt 13 = .ok (.getfield 7, 3) := by decide +kernel
theorem dX5_bookingAt_16 : decode cX5_bookingAt 16 = .ok (.iload_n 3, 1) := by decide +kernel
theorem dX5_bookingAt_17 : decode cX5_bookingAt 17 = .ok (.iconst 5, 1) := by decide +kernel
theorem dX5_bookingAt_18 : decode cX5_bookingAt 18 = .ok (.invokestatic 53, 3) := by decide +kernel
theorem dX5_bookingAt_21 : decode cX5_bookingAt 21 = .ok (.iaload, 1) := by decide +kernel
theorem dX5_bookingAt_22 : decode cX5_bookingAt 22 = .ok (.ifCond .ne 33, 3) := by decide +kernel
theorem dX5_bookingAt_25 : decode cX5_bookingAt 25 = .ok (.aload_n 0, 1) := by decide +kernel
theorem dX5_bookingAt_26 : decode cX5_bookingAt 26 = .ok (.getfield 7, 3) := by decide +kernel
theorem dX5_bookingAt_29 : decode cX5_bookingAt 29 = .ok (.iload_n 3, 1) := by decide +kernel
theorem dX5_bookingAt_30 : decode cX5_bookingAt 30 = .ok (.iconst 1, 1) := by decide +kernel
theorem dX5_bookingAt_31 : decode cX5_bookingAt 31 = .ok (.invokestatic 53, 3) := by decide +kernel
theorem dX5_bookingAt_34 : decode cX5_bookingAt 34 = .ok (.iaload, 1) := by decide +kernel
theorem dX5_bookingAt_35 : decode cX5_bookingAt 35 = .ok (.iload_n 1, 1) := by decide +kernel
theorem dX5_bookingAt_36 : decode cX5_bookingAt 36 = .ok (.if_icmp .ne 19, 3) := by decide +kernel
theorem dX5_bookingAt_39 : decode cX5_bookingAt 39 = .ok (.aload_n 0, 1) := by decide +kernel
theorem dX5_bookingAt_40 : decode cX5_bookingAt 40 = .ok (.getfield 7, 3) := by decide +kernel
theorem dX5_bookingAt_43 : decode cX5_bookingAt 43 = .ok (.iload_n 3, 1) := by decide +kernel
theorem dX5_bookingAt_44 : decode cX5_bookingAt 44 = .ok (.iconst 2, 1) := by decide +kernel
theorem dX5_bookingAt_45 : decode cX5_bookingAt 45 = .ok (.invokestatic 53, 3) := by decide +kernel
theorem dX5_bookingAt_48 : decode cX5_bookingAt 48 = .ok (.iaload, 1) := by decide +kernel
theorem dX5_bookingAt_49 : decode cX5_bookingAt 49 = .ok (.iload_n 2, 1) := by decide +kernel
theorem dX5_bookingAt_50 : decode cX5_bookingAt 50 = .ok (.if_icmp .ne 5, 3) := by decide +kernel
theorem dX5_bookingAt_53 : decode cX5_bookingAt 53 = .ok (.iload_n 3, 1) := by decide +kernel
theorem dX5_bookingAt_54 : decode cX5_bookingAt 54 = .ok (.ireturn, 1) := by decide +kernel
theorem dX5_bookingAt_55 : decode cX5_bookingAt 55 = .ok (.iinc 3 1, 3) := by decide +kernel
theorem dX5_bookingAt_58 : decode cX5_bookingAt 58 = .ok (.goto (-56), 3) := by decide +kernel
theorem dX5_bookingAt_61 : decode cX5_bookingAt 61 = .ok (.bipush (-5), 2) := by decide +kernel
theorem dX5_bookingAt_63 : decode cX5_bookingAt 63 = .ok (.ireturn, 1) := by decide +kernel
theorem dX5_give_0 : decode cX5_give 0 = .ok (.aload_n 0, 1) := by decide +kernel
theorem dX5_give_1 : decode cX5_give 1 = .ok (.getfield 7, 3) := by decide +kernel
theorem dX5_give_4 : decode cX5_give 4 = .ok (.iload_n 1, 1) := by decide +kernel
theorem dX5_give_5 : decode cX5_give 5 = .ok (.iconst 1, 1) := by decide +kernel
theorem dX5_give_6 : decode cX5_give 6 = .ok (.invokestatic 53, 3) := by decide +kernel
theorem dX5_give_9 : decode cX5_give 9 = .ok (.iload_n 2, 1) := by decide +kernel
theorem dX5_give_10 : decode cX5_give 10 = .ok (.iastore, 1) := by decide +kernel
theorem dX5_give_11 : decode cX5_give 11 = .ok (.aload_n 0, 1) := by decide +kernel
theorem dX5_give_12 : decode cX5_give 12 = .ok (.getfield 7, 3) := by decide +kernel
theorem dX5_give_15 : decode cX5_give 15 = .ok (.iload_n 1, 1) := by decide +kernel
theorem dX5_give_16 : decode cX5_give 16 = .ok (.iconst 2, 1) := by decide +kernel
theorem dX5_give_17 : decode cX5_give 17 = .ok (.invokestatic 53, 3) := by decide +kernel
theorem dX5_give_20 : decode cX5_give 20 = .ok (.iload_n 3, 1) := by decide +kernel
theorem dX5_give_21 : decode cX5_give 21 = .ok (.iastore, 1) := by decide +kernel
theorem dX5_give_22 : decode cX5_give 22 = .ok (.aload_n 0, 1) := by decide +kernel
theorem dX5_give_23 : decode cX5_give 23 = .ok (.getfield 7, 3) := by decide +kernel
theorem dX5_give_26 : decode cX5_give 26 = .ok (.iload_n 1, 1) := by decide +kernel
theorem dX5_give_27 : decode cX5_give 27 = .ok (.bipush 6, 2) := by decide +kernel
theorem dX5_give_29 : decode cX5_give 29 = .ok (.invokestatic 53, 3) := by decide +kernel
theorem dX5_give_32 : decode cX5_give 32 = .ok (.aload_n 0, 1) := by decide +kernel
theorem dX5_give_33 : decode cX5_give 33 = .ok (.getfield 7, 3) := by decide +kernel
theorem dX5_give_36 : decode cX5_give 36 = .ok (.sipush 335, 3) := by decide +kernel
theorem dX5_give_39 : decode cX5_give 39 = .ok (.iload_n 3, 1) := by decide +kernel
theorem dX5_give_40 : decode cX5_give 40 = .ok (.iadd, 1) := by decide +kernel
theorem dX5_give_41 : decode cX5_give 41 = .ok (.iaload, 1) := by decide +kernel
theorem dX5_give_42 : decode cX5_give 42 = .ok (.iastore, 1) := by decide +kernel
theorem dX5_give_43 : decode cX5_give 43 = .ok (.return_, 1) := by decide +kernel
theorem dX5_book_0 : decode cX5_book 0 = .ok (.aload_n 0, 1) := by decide +kernel
theorem dX5_book_1 : decode cX5_book 1 = .ok (.iload_n 1, 1) := by decide +kernel
theorem dX5_book_2 : decode cX5_book 2 = .ok (.invokevirtual 56, 3) := by decide +kernel
theorem dX5_book_5 : decode cX5_book 5 = .ok (.ifCond .eq 19, 3) := by decide +kernel
theorem dX5_book_8 : decode cX5_book 8 = .ok (.aload_n 0, 1) := by decide +kernel
theorem dX5_book_9 : decode cX5_book 9 = .ok (.iload_n 2, 1) := by decide +kernel
theorem dX5_book_10 : decode cX5_book 10 = .ok (.invokevirtual 59, 3) := by decide +kernel
theorem dX5_book_13 : decode cX5_book 13 = .ok (.ifCond .eq 11, 3) := by decide +kernel
theorem dX5_book_16 : decode cX5_book 16 = .ok (.aload_n 0, 1) := by decide +kernel
theorem dX5_book_17 : decode cX5_book 17 = .ok (.iload_n 3, 1) := by decide +kernel
theorem dX5_book_18 : decode cX5_book 18 = .ok (.invokevirtual 45, 3) := by decide +kernel
theorem dX5_book_21 : decode cX5_book 21 = .ok (.ifCond .ne 5, 3) := by decide +kernel
theorem dX5_book_24 : decode cX5_book 24 = .ok (.iconst (-1), 1) := by decide +kernel
theorem dX5_book_25 : decode cX5_book 25 = .ok (.ireturn, 1) := by decide +kernel
theorem dX5_book_26 : decode cX5_book 26 = .ok (.iload 4, 2) := by decide +kernel
theorem dX5_book_28 : decode cX5_book 28 = .ok (.iload 5, 2) := by decide +kernel
theorem dX5_book_30 : decode cX5_book 30 = .ok (.invokestatic 62, 3) := by decide +kernel
theorem dX5_book_33 : decode cX5_book 33 = .ok (.ifCond .ne 6, 3) := by decide +kernel
theorem dX5_book_36 : decode cX5_book 36 = .ok (.bipush (-2), 2) := by decide +kernel
theorem dX5_book_38 : decode cX5_book 38 = .ok (.ireturn, 1) := by decide +kernel
theorem dX5_book_39 : decode cX5_book 39 = .ok (.aload_n 0, 1) := by decide +kernel
theorem dX5_book_40 : decode cX5_book 40 = .ok (.iload_n 2, 1) := by decide +kernel
theorem dX5_book_41 : decode cX5_book 41 = .ok (.iload 4, 2) := by decide +kernel
theorem dX5_book_43 : decode cX5_book 43 = .ok (.iload 5, 2) := by decide +kernel
theorem dX5_book_45 : decode cX5_book 45 = .ok (.invokevirtual 66, 3) := by decide +kernel
theorem dX5_book_48 : decode cX5_book 48 = .ok (.ifCond .eq 14, 3) := by decide +kernel
theorem dX5_book_51 : decode cX5_book 51 = .ok (.aload_n 0, 1) := by decide +kernel
theorem dX5_book_52 : decode cX5_book 52 = .ok (.iload_n 2, 1) := by decide +kernel
theorem dX5_book_53 : decode cX5_book 53 = .ok (.iload_n 3, 1) := by decide +kernel
theorem dX5_book_54 : decode cX5_book 54 = .ok (.invokevirtual 69, 3) := by decide +kernel
theorem dX5_book_57 : decode cX5_book 57 = .ok (.bipush (-5), 2) := by decide +kernel
theorem dX5_book_59 : decode cX5_book 59 = .ok (.if_icmp .eq 6, 3) := by decide +kernel
theorem dX5_book_62 : decode cX5_book 62 = .ok (.bipush (-4), 2) := by decide +kernel
theorem dX5_book_64 : decode cX5_book 64 = .ok (.ireturn, 1) := by decide +kernel
theorem dX5_book_65 : decode cX5_book 65 = .ok (.aload_n 0, 1) := by decide +kernel
theorem dX5_book_66 : decode cX5_book 66 = .ok (.getfield 7, 3) := by decide +kernel
theorem dX5_book_69 : decode cX5_book 69 = .ok (.iconst 3, 1) := by decide +kernel
theorem dX5_book_70 : decode cX5_book 70 = .ok (.iaload, 1) := by decide +kernel
theorem dX5_book_71 : decode cX5_book 71 = .ok (.bipush 30, 2) := by decide +kernel
theorem dX5_book_73 : decode cX5_book 73 = .ok (.if_icmp .ne 6, 3) := by decide +kernel
theorem dX5_book_76 : decode cX5_book 76 = .ok (.bipush (-3), 2) := by decide +kernel
theorem dX5_book_78 : decode cX5_book 78 = .ok (.ireturn, 1) := by decide +kernel
theorem dX5_book_79 : decode cX5_book 79 = .ok (.aload_n 0, 1) := by decide +kernel
theorem dX5_book_80 : decode cX5_book 80 = .ok (.invokevirtual 35, 3) := by decide +kernel
theorem dX5_book_83 : decode cX5_book 83 = .ok (.aload_n 0, 1) := by decide +kernel
theorem dX5_book_84 : decode cX5_book 84 = .ok (.getfield 7, 3) := by decide +kernel
theorem dX5_book_87 : decode cX5_book 87 = .ok (.iconst 3, 1) := by decide +kernel
theorem dX5_book_88 : decode cX5_book 88 = .ok (.iaload, 1) := by decide +kernel
theorem dX5_book_89 : decode cX5_book 89 = .ok (.istore 6, 2) := by decide +kernel
theorem dX5_book_91 : decode cX5_book 91 = .ok (.aload_n 0, 1) := by decide +kernel
theorem dX5_book_92 : decode cX5_book 92 = .ok (.getfield 7, 3) := by decide +kernel
theorem dX5_book_95 : decode cX5_book 95 = .ok (.iload 6, 2) := by decide +kernel
theorem dX5_book_97 : decode cX5_book 97 = .ok (.iconst 0, 1) := by decide +kernel
theorem dX5_book_98 : decode cX5_book 98 = .ok (.invokestatic 53, 3) := by decide +kernel
theorem dX5_book_101 : decode cX5_book 101 = .ok (.iload_n 1, 1) := by decide +kernel
theorem dX5_book_102 : decode cX5_book 102 = .ok (.iastore, 1) := by decide +kernel
theorem dX5_book_103 : decode cX5_book 103 = .ok (.aload_n 0, 1) := by decide +kernel
theorem dX5_book_104 : decode cX5_book 104 = .ok (.getfield 7, 3) := by decide +kernel
theorem dX5_book_107 : decode cX5_book 107 = .ok (.iload 6, 2) := by decide +kernel
theorem dX5_book_109 : decode cX5_book 109 = .ok (.iconst 3, 1) := by decide +kernel
theorem dX5_book_110 : decode cX5_book 110 = .ok (.invokestatic 53, 3) := by decide +kernel
theorem dX5_book_113 : decode cX5_book 113 = .ok (.iload 4, 2) := by decide +kernel
theorem dX5_book_115 : decode cX5_book 115 = .ok (.iastore, 1) := by decide +kernel
theorem dX5_book_116 : decode cX5_book 116 = .ok (.aload_n 0, 1) := by decide +kernel
theorem dX5_book_117 : decode cX5_book 117 = .ok (.getfield 7, 3) := by decide +kernel
theorem dX5_book_120 : decode cX5_book 120 = .ok (.iload 6, 2) := by decide +kernel
theorem dX5_book_122 : decode cX5_book 122 = .ok (.iconst 4, 1) := by decide +kernel
theorem dX5_book_123 : decode cX5_book 123 = .ok (.invokestatic 53, 3) := by decide +kernel
theorem dX5_book_126 : decode cX5_book 126 = .ok (.iload 5, 2) := by decide +kernel
theorem dX5_book_128 : decode cX5_book 128 = .ok (.iastore, 1) := by decide +kernel
theorem dX5_book_129 : decode cX5_book 129 = .ok (.aload_n 0, 1) := by decide +kernel
theorem dX5_book_130 : decode cX5_book 130 = .ok (.getfield 7, 3) := by decide +kernel
theorem dX5_book_133 : decode cX5_book 133 = .ok (.iload 6, 2) := by decide +kernel
theorem dX5_book_135 : decode cX5_book 135 = .ok (.iconst 5, 1) := by decide +kernel
theorem dX5_book_136 : decode cX5_book 136 = .ok (.invokestatic 53, 3) := by decide +kernel
theorem dX5_book_139 : decode cX5_book 139 = .ok (.iconst 0, 1) := by decide +kernel
theorem dX5_book_140 : decode cX5_book 140 = .ok (.iastore, 1) := by decide +kernel
theorem dX5_book_141 : decode cX5_book 141 = .ok (.aload_n 0, 1) := by decide +kernel
theorem dX5_book_142 : decode cX5_book 142 = .ok (.getfield 7, 3) := by decide +kernel
theorem dX5_book_145 : decode cX5_book 145 = .ok (.iload 6, 2) := by decide +kernel
theorem dX5_book_147 : decode cX5_book 147 = .ok (.bipush 7, 2) := by decide +kernel
theorem dX5_book_149 : decode cX5_book 149 = .ok (.invokestatic 53, 3) := by decide +kernel
theorem dX5_book_152 : decode cX5_book 152 = .ok (.iconst 0, 1) := by decide +kernel
theorem dX5_book_153 : decode cX5_book 153 = .ok (.iastore, 1) := by decide +kernel
theorem dX5_book_154 : decode cX5_book 154 = .ok (.aload_n 0, 1) := by decide +kernel
theorem dX5_book_155 : decode cX5_book 155 = .ok (.iload 6, 2) := by decide +kernel
theorem dX5_book_157 : decode cX5_book 157 = .ok (.iload_n 2, 1) := by decide +kernel
theorem dX5_book_158 : decode cX5_book 158 = .ok (.iload_n 3, 1) := by decide +kernel
theorem dX5_book_159 : decode cX5_book 159 = .ok (.invokevirtual 72, 3) := by decide +kernel
theorem dX5_book_162 : decode cX5_book 162 = .ok (.aload_n 0, 1) := by decide +kernel
theorem dX5_book_163 : decode cX5_book 163 = .ok (.getfield 7, 3) := by decide +kernel
theorem dX5_book_166 : decode cX5_book 166 = .ok (.iconst 3, 1) := by decide +kernel
theorem dX5_book_167 : decode cX5_book 167 = .ok (.dup2, 1) := by decide +kernel
theorem dX5_book_168 : decode cX5_book 168 = .ok (.iaload, 1) := by decide +kernel
theorem dX5_book_169 : decode cX5_book 169 = .ok (.iconst 1, 1) := by decide +kernel
theorem dX5_book_170 : decode cX5_book 170 = .ok (.iadd, 1) := by decide +kernel
theorem dX5_book_171 : decode cX5_book 171 = .ok (.iastore, 1) := by decide +kernel
theorem dX5_book_172 : decode cX5_book 172 = .ok (.iload 6, 2) := by decide +kernel
theorem dX5_book_174 : decode cX5_book 174 = .ok (.ireturn, 1) := by decide +kernel
theorem dX5_pay_0 : decode cX5_pay 0 = .ok (.aload_n 0, 1) := by decide +kernel
theorem dX5_pay_1 : decode cX5_pay 1 = .ok (.getfield 7, 3) := by decide +kernel
theorem dX5_pay_4 : decode cX5_pay 4 = .ok (.iload_n 1, 1) := by decide +kernel
theorem dX5_pay_5 : decode cX5_pay 5 = .ok (.iconst 0, 1) := by decide +kernel
theorem dX5_pay_6 : decode cX5_pay 6 = .ok (.invokestatic 42, 3) := by decide +kernel
theorem dX5_pay_9 : decode cX5_pay 9 = .ok (.dup2, 1) := by decide +kernel
theorem dX5_pay_10 : decode cX5_pay 10 = .ok (.iaload, 1) := by decide +kernel
theorem dX5_pay_11 : decode cX5_pay 11 = .ok (.iload_n 2, 1) := by decide +kernel
theorem dX5_pay_12 : decode cX5_pay 12 = .ok (.iadd, 1) := by decide +kernel
theorem dX5_pay_13 : decode cX5_pay 13 = .ok (.iastore, 1) := by decide +kernel
theorem dX5_pay_14 : decode cX5_pay 14 = .ok (.return_, 1) := by decide +kernel
theorem dX5_isBooked_0 : decode cX5_isBooked 0 = .ok (.aload_n 0, 1) := by decide +kernel
theorem dX5_isBooked_1 : decode cX5_isBooked 1 = .ok (.getfield 7, 3) := by decide +kernel
theorem dX5_isBooked_4 : decode cX5_isBooked 4 = .ok (.iload_n 1, 1) := by decide +kernel
theorem dX5_isBooked_5 : decode cX5_isBooked 5 = .ok (.iconst 5, 1) := by decide +kernel
theorem dX5_isBooked_6 : decode cX5_isBooked 6 = .ok (.invokestatic 53, 3) := by decide +kernel
theorem dX5_isBooked_9 : decode cX5_isBooked 9 = .ok (.iaload, 1) := by decide +kernel
theorem dX5_isBooked_10 : decode cX5_isBooked 10 = .ok (.ifCond .ne 7, 3) := by decide +kernel
theorem dX5_isBooked_13 : decode cX5_isBooked 13 = .ok (.iconst 1, 1) := by decide +kernel
theorem dX5_isBooked_14 : decode cX5_isBooked 14 = .ok (.goto 4, 3) := by decide +kernel
theorem dX5_isBooked_17 : decode cX5_isBooked 17 = .ok (.iconst 0, 1) := by decide +kernel
theorem dX5_isBooked_18 : decode cX5_isBooked 18 = .ok (.ireturn, 1) := by decide +kernel
theorem dX5_cancel_0 : decode cX5_cancel 0 = .ok (.aload_n 0, 1) := by decide +kernel
theorem dX5_cancel_1 : decode cX5_cancel 1 = .ok (.iload_n 1, 1) := by decide +kernel
theorem dX5_cancel_2 : decode cX5_cancel 2 = .ok (.invokevirtual 76, 3) := by decide +kernel
theorem dX5_cancel_5 : decode cX5_cancel 5 = .ok (.ifCond .ne 5, 3) := by decide +kernel
theorem dX5_cancel_8 : decode cX5_cancel 8 = .ok (.iconst (-1), 1) := by decide +kernel
theorem dX5_cancel_9 : decode cX5_cancel 9 = .ok (.ireturn, 1) := by decide +kernel
theorem dX5_cancel_10 : decode cX5_cancel 10 = .ok (.aload_n 0, 1) := by decide +kernel
theorem dX5_cancel_11 : decode cX5_cancel 11 = .ok (.iload_n 1, 1) := by decide +kernel
theorem dX5_cancel_12 : decode cX5_cancel 12 = .ok (.invokevirtual 79, 3) := by decide +kernel
theorem dX5_cancel_15 : decode cX5_cancel 15 = .ok (.ifCond .ne 6, 3) := by decide +kernel
theorem dX5_cancel_18 : decode cX5_cancel 18 = .ok (.bipush (-4), 2) := by decide +kernel
theorem dX5_cancel_20 : decode cX5_cancel 20 = .ok (.ireturn, 1) := by decide +kernel
theorem dX5_cancel_21 : decode cX5_cancel 21 = .ok (.aload_n 0, 1) := by decide +kernel
theorem dX5_cancel_22 : decode cX5_cancel 22 = .ok (.invokevirtual 35, 3) := by decide +kernel
theorem dX5_cancel_25 : decode cX5_cancel 25 = .ok (.aload_n 0, 1) := by decide +kernel
theorem dX5_cancel_26 : decode cX5_cancel 26 = .ok (.getfield 7, 3) := by decide +kernel
theorem dX5_cancel_29 : decode cX5_cancel 29 = .ok (.iload_n 1, 1) := by decide +kernel
theorem dX5_cancel_30 : decode cX5_cancel 30 = .ok (.iconst 2, 1) := by decide +kernel
theorem dX5_cancel_31 : decode cX5_cancel 31 = .ok (.invokestatic 53, 3) := by decide +kernel
theorem dX5_cancel_34 : decode cX5_cancel 34 = .ok (.iaload, 1) := by decide +kernel
theorem dX5_cancel_35 : decode cX5_cancel 35 = .ok (.aload_n 0, 1) := by decide +kernel
theorem dX5_cancel_36 : decode cX5_cancel 36 = .ok (.getfield 7, 3) := by decide +kernel
theorem dX5_cancel_39 : decode cX5_cancel 39 = .ok (.iconst 0, 1) := by decide +kernel
theorem dX5_cancel_40 : decode cX5_cancel 40 = .ok (.iaload, 1) := by decide +kernel
theorem dX5_cancel_41 : decode cX5_cancel 41 = .ok (.if_icmp .ne 7, 3) := by decide +kernel
theorem dX5_cancel_44 : decode cX5_cancel 44 = .ok (.iconst 4, 1) := by decide +kernel
theorem dX5_cancel_45 : decode cX5_cancel 45 = .ok (.goto 4, 3) := by decide +kernel
theorem dX5_cancel_48 : decode cX5_cancel 48 = .ok (.iconst 0, 1) := by decide +kernel
theorem dX5_cancel_49 : decode cX5_cancel 49 = .ok (.istore_n 2, 1) := by decide +kernel
theorem dX5_cancel_50 : decode cX5_cancel 50 = .ok (.aload_n 0, 1) := by decide +kernel
theorem dX5_cancel_51 : decode cX5_cancel 51 = .ok (.getfield 7, 3) := by decide +kernel
theorem dX5_cancel_54 : decode cX5_cancel 54 = .ok (.iload_n 1, 1) := by decide +kernel
theorem dX5_cancel_55 : decode cX5_cancel 55 = .ok (.iconst 5, 1) := by decide +kernel
theorem dX5_cancel_56 : decode cX5_cancel 56 = .ok (.invokestatic 53, 3) := by decide +kernel
theorem dX5_cancel_59 : decode cX5_cancel 59 = .ok (.iconst 3, 1) := by decide +kernel
theorem dX5_cancel_60 : decode cX5_cancel 60 = .ok (.iastore, 1) := by decide +kernel
theorem dX5_cancel_61 : decode cX5_cancel 61 = .ok (.aload_n 0, 1) := by decide +kernel
theorem dX5_cancel_62 : decode cX5_cancel 62 = .ok (.aload_n 0, 1) := by decide +kernel
theorem dX5_cancel_63 : decode cX5_cancel 63 = .ok (.getfield 7, 3) := by decide +kernel
theorem dX5_cancel_66 : decode cX5_cancel 66 = .ok (.iload_n 1, 1) := by decide +kernel
theorem dX5_cancel_67 : decode cX5_cancel 67 = .ok (.iconst 0, 1) := by decide +kernel
theorem dX5_cancel_68 : decode cX5_cancel 68 = .ok (.invokestatic 53, 3) := by decide +kernel
theorem dX5_cancel_71 : decode cX5_cancel 71 = .ok (.iaload, 1) := by decide +kernel
theorem dX5_cancel_72 : decode cX5_cancel 72 = .ok (.iload_n 2, 1) := by decide +kernel
theorem dX5_cancel_73 : decode cX5_cancel 73 = .ok (.invokevirtual 82, 3) := by decide +kernel
theorem dX5_cancel_76 : decode cX5_cancel 76 = .ok (.iload_n 2, 1) := by decide +kernel
theorem dX5_cancel_77 : decode cX5_cancel 77 = .ok (.ireturn, 1) := by decide +kernel
theorem dX5_canGet_0 : decode cX5_canGet 0 = .ok (.aload_n 0, 1) := by decide +kernel
theorem dX5_canGet_1 : decode cX5_canGet 1 = .ok (.iload_n 1, 1) := by decide +kernel
theorem dX5_canGet_2 : decode cX5_canGet 2 = .ok (.invokevirtual 79, 3) := by decide +kernel
theorem dX5_canGet_5 : decode cX5_canGet 5 = .ok (.ifCond .eq 44, 3) := by decide +kernel
theorem dX5_canGet_8 : decode cX5_canGet 8 = .ok (.aload_n 0, 1) := by decide +kernel
theorem dX5_canGet_9 : decode cX5_canGet 9 = .ok (.aload_n 0, 1) := by decide +kernel
theorem dX5_canGet_10 : decode cX5_canGet 10 = .ok (.getfield 7, 3) := by decide +kernel
theorem dX5_canGet_13 : decode cX5_canGet 13 = .ok (.iload_n 2, 1) := by decide +kernel
theorem dX5_canGet_14 : decode cX5_canGet 14 = .ok (.iconst 1, 1) := by decide +kernel
theorem dX5_canGet_15 : decode cX5_canGet 15 = .ok (.invokestatic 53, 3) := by decide +kernel
theorem dX5_canGet_18 : decode cX5_canGet 18 = .ok (.iaload, 1) := by decide +kernel
theorem dX5_canGet_19 : decode cX5_canGet 19 = .ok (.aload_n 0, 1) := by decide +kernel
theorem dX5_canGet_20 : decode cX5_canGet 20 = .ok (.getfield 7, 3) := by decide +kernel
theorem dX5_canGet_23 : decode cX5_canGet 23 = .ok (.iload_n 1, 1) := by decide +kernel
theorem dX5_canGet_24 : decode cX5_canGet 24 = .ok (.iconst 3, 1) := by decide +kernel
theorem dX5_canGet_25 : decode cX5_canGet 25 = .ok (.invokestatic 53, 3) := by decide +kernel
theorem dX5_canGet_28 : decode cX5_canGet 28 = .ok (.iaload, 1) := by decide +kernel
theorem dX5_canGet_29 : decode cX5_canGet 29 = .ok (.aload_n 0, 1) := by decide +kernel
theorem dX5_canGet_30 : decode cX5_canGet 30 = .ok (.getfield 7, 3) := by decide +kernel
theorem dX5_canGet_33 : decode cX5_canGet 33 = .ok (.iload_n 1, 1) := by decide +kernel
theorem dX5_canGet_34 : decode cX5_canGet 34 = .ok (.iconst 4, 1) := by decide +kernel
theorem dX5_canGet_35 : decode cX5_canGet 35 = .ok (.invokestatic 53, 3) := by decide +kernel
theorem dX5_canGet_38 : decode cX5_canGet 38 = .ok (.iaload, 1) := by decide +kernel
theorem dX5_canGet_39 : decode cX5_canGet 39 = .ok (.invokevirtual 66, 3) := by decide +kernel
theorem dX5_canGet_42 : decode cX5_canGet 42 = .ok (.ifCond .eq 7, 3) := by decide +kernel
theorem dX5_canGet_45 : decode cX5_canGet 45 = .ok (.iconst 1, 1) := by decide +kernel
theorem dX5_canGet_46 : decode cX5_canGet 46 = .ok (.goto 4, 3) := by decide +kernel
theorem dX5_canGet_49 : decode cX5_canGet 49 = .ok (.iconst 0, 1) := by decide +kernel
theorem dX5_canGet_50 : decode cX5_canGet 50 = .ok (.ireturn, 1) := by decide +kernel
theorem dX5_swap_0 : decode cX5_swap 0 = .ok (.aload_n 0, 1) := by decide +kernel
theorem dX5_swap_1 : decode cX5_swap 1 = .ok (.iload_n 1, 1) := by decide +kernel
theorem dX5_swap_2 : decode cX5_swap 2 = .ok (.invokevirtual 76, 3) := by decide +kernel
theorem dX5_swap_5 : decode cX5_swap 5 = .ok (.ifCond .eq 11, 3) := by decide +kernel
theorem dX5_swap_8 : decode cX5_swap 8 = .ok (.aload_n 0, 1) := by decide +kernel
theorem dX5_swap_9 : decode cX5_swap 9 = .ok (.iload_n 2, 1) := by decide +kernel
theorem dX5_swap_10 : decode cX5_swap 10 = .ok (.invokevirtual 76, 3) := by decide +kernel
theorem dX5_swap_13 : decode cX5_swap 13 = .ok (.ifCond .ne 5, 3) := by decide +kernel
theorem dX5_swap_16 : decode cX5_swap 16 = .ok (.iconst (-1), 1) := by decide +kernel
theorem dX5_swap_17 : decode cX5_swap 17 = .ok (.ireturn, 1) := by decide +kernel
theorem dX5_swap_18 : decode cX5_swap 18 = .ok (.iload_n 1, 1) := by decide +kernel
theorem dX5_swap_19 : decode cX5_swap 19 = .ok (.iload_n 2, 1) := by decide +kernel
theorem dX5_swap_20 : decode cX5_swap 20 = .ok (.if_icmp .ne 6, 3) := by decide +kernel
theorem dX5_swap_23 : decode cX5_swap 23 = .ok (.bipush (-2), 2) := by decide +kernel
theorem dX5_swap_25 : decode cX5_swap 25 = .ok (.ireturn, 1) := by decide +kernel
theorem dX5_swap_26 : decode cX5_swap 26 = .ok (.aload_n 0, 1) := by decide +kernel
theorem dX5_swap_27 : decode cX5_swap 27 = .ok (.iload_n 1, 1) := by decide +kernel
theorem dX5_swap_28 : decode cX5_swap 28 = .ok (.iload_n 2, 1) := by decide +kernel
theorem dX5_swap_29 : decode cX5_swap 29 = .ok (.invokevirtual 85, 3) := by decide +kernel
theorem dX5_swap_32 : decode cX5_swap 32 = .ok (.ifCond .eq 12, 3) := by decide +kernel
theorem dX5_swap_35 : decode cX5_swap 35 = .ok (.aload_n 0, 1) := by decide +kernel
theorem dX5_swap_36 : decode cX5_swap 36 = .ok (.iload_n 2, 1) := by decide +kernel
theorem dX5_swap_37 : decode cX5_swap 37 = .ok (.iload_n 1, 1) := by decide +kernel
theorem dX5_swap_38 : decode cX5_swap 38 = .ok (.invokevirtual 85, 3) := by decide +kernel
theorem dX5_swap_41 : decode cX5_swap 41 = .ok (.ifCond .ne 6, 3) := by decide +kernel
theorem dX5_swap_44 : decode cX5_swap 44 = .ok (.bipush (-4), 2) := by decide +kernel
theorem dX5_swap_46 : decode cX5_swap 46 = .ok (.ireturn, 1) := by decide +kernel
theorem dX5_swap_47 : decode cX5_swap 47 = .ok (.aload_n 0, 1) := by decide +kernel
theorem dX5_swap_48 : decode cX5_swap 48 = .ok (.invokevirtual 35, 3) := by decide +kernel
theorem dX5_swap_51 : decode cX5_swap 51 = .ok (.aload_n 0, 1) := by decide +kernel
theorem dX5_swap_52 : decode cX5_swap 52 = .ok (.getfield 7, 3) := by decide +kernel
theorem dX5_swap_55 : decode cX5_swap 55 = .ok (.iload_n 1, 1) := by decide +kernel
theorem dX5_swap_56 : decode cX5_swap 56 = .ok (.iconst 1, 1) := by decide +kernel
theorem dX5_swap_57 : decode cX5_swap 57 = .ok (.invokestatic 53, 3) := by decide +kernel
theorem dX5_swap_60 : decode cX5_swap 60 = .ok (.iaload, 1) := by decide +kernel
theorem dX5_swap_61 : decode cX5_swap 61 = .ok (.istore_n 3, 1) := by decide +kernel
theorem dX5_swap_62 : decode cX5_swap 62 = .ok (.aload_n 0, 1) := by decide +kernel
theorem dX5_swap_63 : decode cX5_swap 63 = .ok (.getfield 7, 3) := by decide +kernel
theorem dX5_swap_66 : decode cX5_swap 66 = .ok (.iload_n 1, 1) := by decide +kernel
theorem dX5_swap_67 : decode cX5_swap 67 = .ok (.iconst 2, 1) := by decide +kernel
theorem dX5_swap_68 : decode cX5_swap 68 = .ok (.invokestatic 53, 3) := by decide +kernel
theorem dX5_swap_71 : decode cX5_swap 71 = .ok (.iaload, 1) := by decide +kernel
theorem dX5_swap_72 : decode cX5_swap 72 = .ok (.istore 4, 2) := by decide +kernel
theorem dX5_swap_74 : decode cX5_swap 74 = .ok (.aload_n 0, 1) := by decide +kernel
theorem dX5_swap_75 : decode cX5_swap 75 = .ok (.iload_n 1, 1) := by decide +kernel
theorem dX5_swap_76 : decode cX5_swap 76 = .ok (.aload_n 0, 1) := by decide +kernel
theorem dX5_swap_77 : decode cX5_swap 77 = .ok (.getfield 7, 3) := by decide +kernel
theorem dX5_swap_80 : decode cX5_swap 80 = .ok (.iload_n 2, 1) := by decide +kernel
theorem dX5_swap_81 : decode cX5_swap 81 = .ok (.iconst 1, 1) := by decide +kernel
theorem dX5_swap_82 : decode cX5_swap 82 = .ok (.invokestatic 53, 3) := by decide +kernel
theorem dX5_swap_85 : decode cX5_swap 85 = .ok (.iaload, 1) := by decide +kernel
theorem dX5_swap_86 : decode cX5_swap 86 = .ok (.aload_n 0, 1) := by decide +kernel
theorem dX5_swap_87 : decode cX5_swap 87 = .ok (.getfield 7, 3) := by decide +kernel
theorem dX5_swap_90 : decode cX5_swap 90 = .ok (.iload_n 2, 1) := by decide +kernel
theorem dX5_swap_91 : decode cX5_swap 91 = .ok (.iconst 2, 1) := by decide +kernel
theorem dX5_swap_92 : decode cX5_swap 92 = .ok (.invokestatic 53, 3) := by decide +kernel
theorem dX5_swap_95 : decode cX5_swap 95 = .ok (.iaload, 1) := by decide +kernel
theorem dX5_swap_96 : decode cX5_swap 96 = .ok (.invokevirtual 72, 3) := by decide +kernel
theorem dX5_swap_99 : decode cX5_swap 99 = .ok (.aload_n 0, 1) := by decide +kernel
theorem dX5_swap_100 : decode cX5_swap 100 = .ok (.iload_n 2, 1) := by decide +kernel
theorem dX5_swap_101 : decode cX5_swap 101 = .ok (.iload_n 3, 1) := by decide +kernel
theorem dX5_swap_102 : decode cX5_swap 102 = .ok (.iload 4, 2) := by decide +kernel
theorem dX5_swap_104 : decode cX5_swap 104 = .ok (.invokevirtual 72, 3) := by decide +kernel
theorem dX5_swap_107 : decode cX5_swap 107 = .ok (.aload_n 0, 1) := by decide +kernel
theorem dX5_swap_108 : decode cX5_swap 108 = .ok (.getfield 7, 3) := by decide +kernel
theorem dX5_swap_111 : decode cX5_swap 111 = .ok (.iload_n 1, 1) := by decide +kernel
theorem dX5_swap_112 : decode cX5_swap 112 = .ok (.iconst 2, 1) := by decide +kernel
theorem dX5_swap_113 : decode cX5_swap 113 = .ok (.invokestatic 53, 3) := by decide +kernel
theorem dX5_swap_116 : decode cX5_swap 116 = .ok (.iaload, 1) := by decide +kernel
theorem dX5_swap_117 : decode cX5_swap 117 = .ok (.ireturn, 1) := by decide +kernel
theorem dX5_order_0 : decode cX5_order 0 = .ok (.aload_n 0, 1) := by decide +kernel
theorem dX5_order_1 : decode cX5_order 1 = .ok (.iload_n 1, 1) := by decide +kernel
theorem dX5_order_2 : decode cX5_order 2 = .ok (.invokevirtual 56, 3) := by decide +kernel
theorem dX5_order_5 : decode cX5_order 5 = .ok (.ifCond .eq 28, 3) := by decide +kernel
theorem dX5_order_8 : decode cX5_order 8 = .ok (.aload_n 0, 1) := by decide +kernel
theorem dX5_order_9 : decode cX5_order 9 = .ok (.iload_n 2, 1) := by decide +kernel
theorem dX5_order_10 : decode cX5_order 10 = .ok (.invokevirtual 59, 3) := by decide +kernel
theorem dX5_order_13 : decode cX5_order 13 = .ok (.ifCond .eq 20, 3) := by decide +kernel
theorem dX5_order_16 : decode cX5_order 16 = .ok (.aload_n 0, 1) := by decide +kernel
theorem dX5_order_17 : decode cX5_order 17 = .ok (.iload_n 3, 1) := by decide +kernel
theorem dX5_order_18 : decode cX5_order 18 = .ok (.invokevirtual 59, 3) := by decide +kernel
theorem dX5_order_21 : decode cX5_order 21 = .ok (.ifCond .eq 12, 3) := by decide +kernel
theorem dX5_order_24 : decode cX5_order 24 = .ok (.aload_n 0, 1) := by decide +kernel
theorem dX5_order_25 : decode cX5_order 25 = .ok (.iload 5, 2) := by decide +kernel
theorem dX5_order_27 : decode cX5_order 27 = .ok (.invokevirtual 45, 3) := by decide +kernel
theorem dX5_order_30 : decode cX5_order 30 = .ok (.ifCond .ne 5, 3) := by decide +kernel
theorem dX5_order_33 : decode cX5_order 33 = .ok (.iconst (-1), 1) := by decide +kernel
theorem dX5_order_34 : decode cX5_order 34 = .ok (.ireturn, 1) := by decide +kernel
theorem dX5_order_35 : decode cX5_order 35 = .ok (.iload 4, 2) := by decide +kernel
theorem dX5_order_37 : decode cX5_order 37 = .ok (.iconst 1, 1) := by decide +kernel
theorem dX5_order_38 : decode cX5_order 38 = .ok (.bipush 12, 2) := by decide +kernel
theorem dX5_order_40 : decode cX5_order 40 = .ok (.invokestatic 20, 3) := by decide +kernel
theorem dX5_order_43 : decode cX5_order 43 = .ok (.ifCond .eq 8, 3) := by decide +kernel
theorem dX5_order_46 : decode cX5_order 46 = .ok (.iload_n 2, 1) := by decide +kernel
theorem dX5_order_47 : decode cX5_order 47 = .ok (.iload_n 3, 1) := by decide +kernel
theorem dX5_order_48 : decode cX5_order 48 = .ok (.if_icmp .ne 6, 3) := by decide +kernel
theorem dX5_order_51 : decode cX5_order 51 = .ok (.bipush (-2), 2) := by decide +kernel
theorem dX5_order_53 : decode cX5_order 53 = .ok (.ireturn, 1) := by decide +kernel
theorem dX5_order_54 : decode cX5_order 54 = .ok (.aload_n 0, 1) := by decide +kernel
theorem dX5_order_55 : decode cX5_order 55 = .ok (.getfield 7, 3) := by decide +kernel
theorem dX5_order_58 : decode cX5_order 58 = .ok (.iconst 4, 1) := by decide +kernel
theorem dX5_order_59 : decode cX5_order 59 = .ok (.iaload, 1) := by decide +kernel
theorem dX5_order_60 : decode cX5_order 60 = .ok (.bipush 10, 2) := by decide +kernel
theorem dX5_order_62 : decode cX5_order 62 = .ok (.if_icmp .ne 6, 3) := by decide +kernel
theorem dX5_order_65 : decode cX5_order 65 = .ok (.bipush (-3), 2) := by decide +kernel
theorem dX5_order_67 : decode cX5_order 67 = .ok (.ireturn, 1) := by decide +kernel
theorem dX5_order_68 : decode cX5_order 68 = .ok (.aload_n 0, 1) := by decide +kernel
theorem dX5_order_69 : decode cX5_order 69 = .ok (.invokevirtual 35, 3) := by decide +kernel
theorem dX5_order_72 : decode cX5_order 72 = .ok (.aload_n 0, 1) := by decide +kernel
theorem dX5_order_73 : decode cX5_order 73 = .ok (.getfield 7, 3) := by decide +kernel
theorem dX5_order_76 : decode cX5_order 76 = .ok (.iconst 4, 1) := by decide +kernel
theorem dX5_order_77 : decode cX5_order 77 = .ok (.iaload, 1) := by decide +kernel
theorem dX5_order_78 : decode cX5_order 78 = .ok (.istore 6, 2) := by decide +kernel
theorem dX5_order_80 : decode cX5_order 80 = .ok (.aload_n 0, 1) := by decide +kernel
theorem dX5_order_81 : decode cX5_order 81 = .ok (.getfield 7, 3) := by decide +kernel
theorem dX5_order_84 : decode cX5_order 84 = .ok (.iload 6, 2) := by decide +kernel
theorem dX5_order_86 : decode cX5_order 86 = .ok (.iconst 0, 1) := by decide +kernel
theorem dX5_order_87 : decode cX5_order 87 = .ok (.invokestatic 88, 3) := by decide +kernel
theorem dX5_order_90 : decode cX5_order 90 = .ok (.iload_n 1, 1) := by decide +kernel
theorem dX5_order_91 : decode cX5_order 91 = .ok (.iastore, 1) := by decide +kernel
theorem dX5_order_92 : decode cX5_order 92 = .ok (.aload_n 0, 1) := by decide +kernel
theorem dX5_order_93 : decode cX5_order 93 = .ok (.getfield 7, 3) := by decide +kernel
theorem dX5_order_96 : decode cX5_order 96 = .ok (.iload 6, 2) := by decide +kernel
theorem dX5_order_98 : decode cX5_order 98 = .ok (.iconst 1, 1) := by decide +kernel
theorem dX5_order_99 : decode cX5_order 99 = .ok (.invokestatic 88, 3) := by decide +kernel
theorem dX5_order_102 : decode cX5_order 102 = .ok (.iload_n 2, 1) := by decide +kernel
theorem dX5_order_103 : decode cX5_order 103 = .ok (.iastore, 1) := by decide +kernel
theorem dX5_order_104 : decode cX5_order 104 = .ok (.aload_n 0, 1) := by decide +kernel
theorem dX5_order_105 : decode cX5_order 105 = .ok (.getfield 7, 3) := by decide +kernel
theorem dX5_order_108 : decode cX5_order 108 = .ok (.iload 6, 2) := by decide +kernel
theorem dX5_order_110 : decode cX5_order 110 = .ok (.iconst 2, 1) := by decide +kernel
theorem dX5_order_111 : decode cX5_order 111 = .ok (.invokestatic 88, 3) := by decide +kernel
theorem dX5_order_114 : decode cX5_order 114 = .ok (.iload_n 3, 1) := by decide +kernel
theorem dX5_order_115 : decode cX5_order 115 = .ok (.iastore, 1) := by decide +kernel
theorem dX5_order_116 : decode cX5_order 116 = .ok (.aload_n 0, 1) := by decide +kernel
theorem dX5_order_117 : decode cX5_order 117 = .ok (.getfield 7, 3) := by decide +kernel
theorem dX5_order_120 : decode cX5_order 120 = .ok (.iload 6, 2) := by decide +kernel
theorem dX5_order_122 : decode cX5_order 122 = .ok (.iconst 3, 1) := by decide +kernel
theorem dX5_order_123 : decode cX5_order 123 = .ok (.invokestatic 88, 3) := by decide +kernel
theorem dX5_order_126 : decode cX5_order 126 = .ok (.iload 4, 2) := by decide +kernel
theorem dX5_order_128 : decode cX5_order 128 = .ok (.iastore, 1) := by decide +kernel
theorem dX5_order_129 : decode cX5_order 129 = .ok (.aload_n 0, 1) := by decide +kernel
theorem dX5_order_130 : decode cX5_order 130 = .ok (.getfield 7, 3) := by decide +kernel
theorem dX5_order_133 : decode cX5_order 133 = .ok (.iload 6, 2) := by decide +kernel
theorem dX5_order_135 : decode cX5_order 135 = .ok (.iconst 4, 1) := by decide +kernel
theorem dX5_order_136 : decode cX5_order 136 = .ok (.invokestatic 88, 3) := by decide +kernel
theorem dX5_order_139 : decode cX5_order 139 = .ok (.iload 5, 2) := by decide +kernel
theorem dX5_order_141 : decode cX5_order 141 = .ok (.iastore, 1) := by decide +kernel
theorem dX5_order_142 : decode cX5_order 142 = .ok (.aload_n 0, 1) := by decide +kernel
theorem dX5_order_143 : decode cX5_order 143 = .ok (.getfield 7, 3) := by decide +kernel
theorem dX5_order_146 : decode cX5_order 146 = .ok (.iconst 4, 1) := by decide +kernel
theorem dX5_order_147 : decode cX5_order 147 = .ok (.dup2, 1) := by decide +kernel
theorem dX5_order_148 : decode cX5_order 148 = .ok (.iaload, 1) := by decide +kernel
theorem dX5_order_149 : decode cX5_order 149 = .ok (.iconst 1, 1) := by decide +kernel
theorem dX5_order_150 : decode cX5_order 150 = .ok (.iadd, 1) := by decide +kernel
theorem dX5_order_151 : decode cX5_order 151 = .ok (.iastore, 1) := by decide +kernel
theorem dX5_order_152 : decode cX5_order 152 = .ok (.iload 6, 2) := by decide +kernel
theorem dX5_order_154 : decode cX5_order 154 = .ok (.ireturn, 1) := by decide +kernel
theorem dX5_close_0 : decode cX5_close 0 = .ok (.aload_n 0, 1) := by decide +kernel
theorem dX5_close_1 : decode cX5_close 1 = .ok (.getfield 7, 3) := by decide +kernel
theorem dX5_close_4 : decode cX5_close 4 = .ok (.iconst 4, 1) := by decide +kernel
theorem dX5_close_5 : decode cX5_close 5 = .ok (.dup2, 1) := by decide +kernel
theorem dX5_close_6 : decode cX5_close 6 = .ok (.iaload, 1) := by decide +kernel
theorem dX5_close_7 : decode cX5_close 7 = .ok (.iconst 1, 1) := by decide +kernel
theorem dX5_close_8 : decode cX5_close 8 = .ok (.isub, 1) := by decide +kernel
theorem dX5_close_9 : decode cX5_close 9 = .ok (.iastore, 1) := by decide +kernel
theorem dX5_close_10 : decode cX5_close 10 = .ok (.iload_n 1, 1) := by decide +kernel
theorem dX5_close_11 : decode cX5_close 11 = .ok (.iconst 0, 1) := by decide +kernel
theorem dX5_close_12 : decode cX5_close 12 = .ok (.invokestatic 88, 3) := by decide +kernel
theorem dX5_close_15 : decode cX5_close 15 = .ok (.istore_n 2, 1) := by decide +kernel
theorem dX5_close_16 : decode cX5_close 16 = .ok (.iload_n 2, 1) := by decide +kernel
theorem dX5_close_17 : decode cX5_close 17 = .ok (.aload_n 0, 1) := by decide +kernel
theorem dX5_close_18 : decode cX5_close 18 = .ok (.getfield 7, 3) := by decide +kernel
theorem dX5_close_21 : decode cX5_close 21 = .ok (.iconst 4, 1) := by decide +kernel
theorem dX5_close_22 : decode cX5_close 22 = .ok (.iaload, 1) := by decide +kernel
theorem dX5_close_23 : decode cX5_close 23 = .ok (.iconst 0, 1) := by decide +kernel
theorem dX5_close_24 : decode cX5_close 24 = .ok (.invokestatic 88, 3) := by decide +kernel
theorem dX5_close_27 : decode cX5_close 27 = .ok (.if_icmp .ge 23, 3) := by decide +kernel
theorem dX5_close_30 : decode cX5_close 30 = .ok (.aload_n 0, 1) := by decide +kernel
theorem dX5_close_31 : decode cX5_close 31 = .ok (.getfield 7, 3) := by decide +kernel
theorem dX5_close_34 : decode cX5_close 34 = .ok (.iload_n 2, 1) := by decide +kernel
theorem dX5_close_35 : decode cX5_close 35 = .ok (.aload_n 0, 1) := by decide +kernel
theorem dX5_close_36 : decode cX5_close 36 = .ok (.getfield 7, 3) := by decide +kernel
theorem dX5_close_39 : decode cX5_close 39 = .ok (.iload_n 2, 1) := by decide +kernel
theorem dX5_close_40 : decode cX5_close 40 = .ok (.iconst 5, 1) := by decide +kernel
theorem dX5_close_41 : decode cX5_close 41 = .ok (.iadd, 1) := by decide +kernel
theorem dX5_close_42 : decode cX5_close 42 = .ok (.iaload, 1) := by decide +kernel
theorem dX5_close_43 : decode cX5_close 43 = .ok (.iastore, 1) := by decide +kernel
theorem dX5_close_44 : decode cX5_close 44 = .ok (.iinc 2 1, 3) := by decide +kernel
theorem dX5_close_47 : decode cX5_close 47 = .ok (.goto (-31), 3) := by decide +kernel
theorem dX5_close_50 : decode cX5_close 50 = .ok (.return_, 1) := by decide +kernel
theorem dX5_takeBack_0 : decode cX5_takeBack 0 = .ok (.aload_n 0, 1) := by decide +kernel
theorem dX5_takeBack_1 : decode cX5_takeBack 1 = .ok (.iload_n 1, 1) := by decide +kernel
theorem dX5_takeBack_2 : decode cX5_takeBack 2 = .ok (.invokevirtual 91, 3) := by decide +kernel
theorem dX5_takeBack_5 : decode cX5_takeBack 5 = .ok (.ifCond .ne 5, 3) := by decide +kernel
theorem dX5_takeBack_8 : decode cX5_takeBack 8 = .ok (.iconst (-1), 1) := by decide +kernel
theorem dX5_takeBack_9 : decode cX5_takeBack 9 = .ok (.ireturn, 1) := by decide +kernel
theorem dX5_takeBack_10 : decode cX5_takeBack 10 = .ok (.aload_n 0, 1) := by decide +kernel
theorem dX5_takeBack_11 : decode cX5_takeBack 11 = .ok (.invokevirtual 35, 3) := by decide +kernel
theorem dX5_takeBack_14 : decode cX5_takeBack 14 = .ok (.aload_n 0, 1) := by decide +kernel
theorem dX5_takeBack_15 : decode cX5_takeBack 15 = .ok (.iload_n 1, 1) := by decide +kernel
theorem dX5_takeBack_16 : decode cX5_takeBack 16 = .ok (.invokevirtual 94, 3) := by decide +kernel
theorem dX5_takeBack_19 : decode cX5_takeBack 19 = .ok (.aload_n 0, 1) := by decide +kernel
theorem dX5_takeBack_20 : decode cX5_takeBack 20 = .ok (.getfield 7, 3) := by decide +kernel
theorem dX5_takeBack_23 : decode cX5_takeBack 23 = .ok (.iconst 4, 1) := by decide +kernel
theorem dX5_takeBack_24 : decode cX5_takeBack 24 = .ok (.iaload, 1) := by decide +kernel
theorem dX5_takeBack_25 : decode cX5_takeBack 25 = .ok (.ireturn, 1) := by decide +kernel
theorem dX5_carry_0 : decode cX5_carry 0 = .ok (.aload_n 0, 1) := by decide +kernel
theorem dX5_carry_1 : decode cX5_carry 1 = .ok (.getfield 7, 3) := by decide +kernel
theorem dX5_carry_4 : decode cX5_carry 4 = .ok (.iload_n 1, 1) := by decide +kernel
theorem dX5_carry_5 : decode cX5_carry 5 = .ok (.iconst 3, 1) := by decide +kernel
theorem dX5_carry_6 : decode cX5_carry 6 = .ok (.invokestatic 88, 3) := by decide +kernel
theorem dX5_carry_9 : decode cX5_carry 9 = .ok (.iaload, 1) := by decide +kernel
theorem dX5_carry_10 : decode cX5_carry 10 = .ok (.istore_n 2, 1) := by decide +kernel
theorem dX5_carry_11 : decode cX5_carry 11 = .ok (.aload_n 0, 1) := by decide +kernel
theorem dX5_carry_12 : decode cX5_carry 12 = .ok (.getfield 7, 3) := by decide +kernel
theorem dX5_carry_15 : decode cX5_carry 15 = .ok (.iload_n 1, 1) := by decide +kernel
theorem dX5_carry_16 : decode cX5_carry 16 = .ok (.iconst 1, 1) := by decide +kernel
theorem dX5_carry_17 : decode cX5_carry 17 = .ok (.invokestatic 88, 3) := by decide +kernel
theorem dX5_carry_20 : decode cX5_carry 20 = .ok (.iaload, 1) := by decide +kernel
theorem dX5_carry_21 : decode cX5_carry 21 = .ok (.iconst 1, 1) := by decide +kernel
theorem dX5_carry_22 : decode cX5_carry 22 = .ok (.invokestatic 38, 3) := by decide +kernel
theorem dX5_carry_25 : decode cX5_carry 25 = .ok (.istore_n 3, 1) := by decide +kernel
theorem dX5_carry_26 : decode cX5_carry 26 = .ok (.aload_n 0, 1) := by decide +kernel
theorem dX5_carry_27 : decode cX5_carry 27 = .ok (.getfield 7, 3) := by decide +kernel
theorem dX5_carry_30 : decode cX5_carry 30 = .ok (.iload_n 1, 1) := by decide +kernel
theorem dX5_carry_31 : decode cX5_carry 31 = .ok (.iconst 2, 1) := by decide +kernel
theorem dX5_carry_32 : decode cX5_carry 32 = .ok (.invokestatic 88, 3) := by decide +kernel
theorem dX5_carry_35 : decode cX5_carry 35 = .ok (.iaload, 1) := by decide +kernel
theorem dX5_carry_36 : decode cX5_carry 36 = .ok (.iconst 1, 1) := by decide +kernel
theorem dX5_carry_37 : decode cX5_carry 37 = .ok (.invokestatic 38, 3) := by decide +kernel
theorem dX5_carry_40 : decode cX5_carry 40 = .ok (.istore 4, 2) := by decide +kernel
theorem dX5_carry_42 : decode cX5_carry 42 = .ok (.aload_n 0, 1) := by decide +kernel
theorem dX5_carry_43 : decode cX5_carry 43 = .ok (.getfield 7, 3) := by decide +kernel
theorem dX5_carry_46 : decode cX5_carry 46 = .ok (.iload_n 3, 1) := by decide +kernel
theorem dX5_carry_47 : decode cX5_carry 47 = .ok (.iaload, 1) := by decide +kernel
theorem dX5_carry_48 : decode cX5_carry 48 = .ok (.iload_n 2, 1) := by decide +kernel
theorem dX5_carry_49 : decode cX5_carry 49 = .ok (.if_icmp .lt 21, 3) := by decide +kernel
theorem dX5_carry_52 : decode cX5_carry 52 = .ok (.aload_n 0, 1) := by decide +kernel
theorem dX5_carry_53 : decode cX5_carry 53 = .ok (.getfield 7, 3) := by decide +kernel
theorem dX5_carry_56 : decode cX5_carry 56 = .ok (.iload 4, 2) := by decide +kernel
theorem dX5_carry_58 : decode cX5_carry 58 = .ok (.iaload, 1) := by decide +kernel
theorem dX5_carry_59 : decode cX5_carry 59 = .ok (.iload_n 2, 1) := by decide +kernel
theorem dX5_carry_60 : decode cX5_carry 60 = .ok (.iadd, 1) := by decide +kernel
theorem dX5_carry_61 : decode cX5_carry 61 = .ok (.bipush 12, 2) := by decide +kernel
theorem dX5_carry_63 : decode cX5_carry 63 = .ok (.if_icmp .gt 7, 3) := by decide +kernel
theorem dX5_carry_66 : decode cX5_carry 66 = .ok (.iconst 1, 1) := by decide +kernel
theorem dX5_carry_67 : decode cX5_carry 67 = .ok (.goto 4, 3) := by decide +kernel
theorem dX5_carry_70 : decode cX5_carry 70 = .ok (.iconst 0, 1) := by decide +kernel
theorem dX5_carry_71 : decode cX5_carry 71 = .ok (.istore 5, 2) := by decide +kernel
theorem dX5_carry_73 : decode cX5_carry 73 = .ok (.aload_n 0, 1) := by decide +kernel
theorem dX5_carry_74 : decode cX5_carry 74 = .ok (.getfield 7, 3) := by decide +kernel
theorem dX5_carry_77 : decode cX5_carry 77 = .ok (.iload_n 3, 1) := by decide +kernel
theorem dX5_carry_78 : decode cX5_carry 78 = .ok (.dup2, 1) := by decide +kernel
theorem dX5_carry_79 : decode cX5_carry 79 = .ok (.iaload, 1) := by decide +kernel
theorem dX5_carry_80 : decode cX5_carry 80 = .ok (.iload 5, 2) := by decide +kernel
theorem dX5_carry_82 : decode cX5_carry 82 = .ok (.ifCond .eq 7, 3) := by decide +kernel
theorem dX5_carry_85 : decode cX5_carry 85 = .ok (.iload_n 2, 1) := by decide +kernel
theorem dX5_carry_86 : decode cX5_carry 86 = .ok (.goto 4, 3) := by decide +kernel
theorem dX5_carry_89 : decode cX5_carry 89 = .ok (.iconst 0, 1) := by decide +kernel
theorem dX5_carry_90 : decode cX5_carry 90 = .ok (.isub, 1) := by decide +kernel
theorem dX5_carry_91 : decode cX5_carry 91 = .ok (.iastore, 1) := by decide +kernel
theorem dX5_carry_92 : decode cX5_carry 92 = .ok (.aload_n 0, 1) := by decide +kernel
theorem dX5_carry_93 : decode cX5_carry 93 = .ok (.getfield 7, 3) := by decide +kernel
theorem dX5_carry_96 : decode cX5_carry 96 = .ok (.iload 4, 2) := by decide +kernel
theorem dX5_carry_98 : decode cX5_carry 98 = .ok (.dup2, 1) := by decide +kernel
theorem dX5_carry_99 : decode cX5_carry 99 = .ok (.iaload, 1) := by decide +kernel
theorem dX5_carry_100 : decode cX5_carry 100 = .ok (.iload 5, 2) := by decide +kernel
theorem dX5_carry_102 : decode cX5_carry 102 = .ok (.ifCond .eq 7, 3) := by decide +kernel
theorem dX5_carry_105 : decode cX5_carry 105 = .ok (.iload_n 2, 1) := by decide +kernel
theorem dX5_carry_106 : decode cX5_carry 106 = .ok (.goto 4, 3) := by decide +kernel
theorem dX5_carry_109 : decode cX5_carry 109 = .ok (.iconst 0, 1) := by decide +kernel
theorem dX5_carry_110 : decode cX5_carry 110 = .ok (.iadd, 1) := by decide +kernel
theorem dX5_carry_111 : decode cX5_carry 111 = .ok (.iastore, 1) := by decide +kernel
theorem dX5_carry_112 : decode cX5_carry 112 = .ok (.iload 5, 2) := by decide +kernel
theorem dX5_carry_114 : decode cX5_carry 114 = .ok (.ireturn, 1) := by decide +kernel
theorem dX5_moveAll_0 : decode cX5_moveAll 0 = .ok (.iconst 0, 1) := by decide +kernel
theorem dX5_moveAll_1 : decode cX5_moveAll 1 = .ok (.istore_n 1, 1) := by decide +kernel
theorem dX5_moveAll_2 : decode cX5_moveAll 2 = .ok (.iload_n 1, 1) := by decide +kernel
theorem dX5_moveAll_3 : decode cX5_moveAll 3 = .ok (.aload_n 0, 1) := by decide +kernel
theorem dX5_moveAll_4 : decode cX5_moveAll 4 = .ok (.getfield 7, 3) := by decide +kernel
theorem dX5_moveAll_7 : decode cX5_moveAll 7 = .ok (.iconst 4, 1) := by decide +kernel
theorem dX5_moveAll_8 : decode cX5_moveAll 8 = .ok (.iaload, 1) := by decide +kernel
theorem dX5_moveAll_9 : decode cX5_moveAll 9 = .ok (.if_icmp .ge 165, 3) := by decide +kernel
theorem dX5_moveAll_12 : decode cX5_moveAll 12 = .ok (.aload_n 0, 1) := by decide +kernel
theorem dX5_moveAll_13 : decode cX5_moveAll 13 = .ok (.getfield 7, 3) := by decide +kernel
theorem dX5_moveAll_16 : decode cX5_moveAll 16 = .ok (.iload_n 1, 1) := by decide +kernel
theorem dX5_moveAll_17 : decode cX5_moveAll 17 = .ok (.iconst 4, 1) := by decide +kernel
theorem dX5_moveAll_18 : decode cX5_moveAll 18 = .ok (.invokestatic 88, 3) := by decide +kernel
theorem dX5_moveAll_21 : decode cX5_moveAll 21 = .ok (.iaload, 1) := by decide +kernel
theorem dX5_moveAll_22 : decode cX5_moveAll 22 = .ok (.aload_n 0, 1) := by decide +kernel
theorem dX5_moveAll_23 : decode cX5_moveAll 23 = .ok (.getfield 7, 3) := by decide +kernel
theorem dX5_moveAll_26 : decode cX5_moveAll 26 = .ok (.iconst 0, 1) := by decide +kernel
theorem dX5_moveAll_27 : decode cX5_moveAll 27 = .ok (.iaload, 1) := by decide +kernel
theorem dX5_moveAll_28 : decode cX5_moveAll 28 = .ok (.if_icmp .ne 140, 3) := by decide +kernel
theorem dX5_moveAll_31 : decode cX5_moveAll 31 = .ok (.aload_n 0, 1) := by decide +kernel
theorem dX5_moveAll_32 : decode cX5_moveAll 32 = .ok (.iload_n 1, 1) := by decide +kernel
theorem dX5_moveAll_33 : decode cX5_moveAll 33 = .ok (.invokevirtual 98, 3) := by decide +kernel
theorem dX5_moveAll_36 : decode cX5_moveAll 36 = .ok (.istore_n 2, 1) := by decide +kernel
theorem dX5_moveAll_37 : decode cX5_moveAll 37 = .ok (.aload_n 0, 1) := by decide +kernel
theorem dX5_moveAll_38 : decode cX5_moveAll 38 = .ok (.getfield 7, 3) := by decide +kernel
theorem dX5_moveAll_41 : decode cX5_moveAll 41 = .ok (.iload_n 1, 1) := by decide +kernel
theorem dX5_moveAll_42 : decode cX5_moveAll 42 = .ok (.iconst 0, 1) := by decide +kernel
theorem dX5_moveAll_43 : decode cX5_moveAll 43 = .ok (.invokestatic 88, 3) := by decide +kernel
theorem dX5_moveAll_46 : decode cX5_moveAll 46 = .ok (.iaload, 1) := by decide +kernel
theorem dX5_moveAll_47 : decode cX5_moveAll 47 = .ok (.istore_n 3, 1) := by decide +kernel
theorem dX5_moveAll_48 : decode cX5_moveAll 48 = .ok (.aload_n 0, 1) := by decide +kernel
theorem dX5_moveAll_49 : decode cX5_moveAll 49 = .ok (.iload_n 3, 1) := by decide +kernel
theorem dX5_moveAll_50 : decode cX5_moveAll 50 = .ok (.iload_n 2, 1) := by decide +kernel
theorem dX5_moveAll_51 : decode cX5_moveAll 51 = .ok (.ifCond .eq 20, 3) := by decide +kernel
theorem dX5_moveAll_54 : decode cX5_moveAll 54 = .ok (.iconst 5, 1) := by decide +kernel
theorem dX5_moveAll_55 : decode cX5_moveAll 55 = .ok (.iconst 2, 1) := by decide +kernel
theorem dX5_moveAll_56 : decode cX5_moveAll 56 = .ok (.aload_n 0, 1) := by decide +kernel
theorem dX5_moveAll_57 : decode cX5_moveAll 57 = .ok (.getfield 7, 3) := by decide +kernel
theorem dX5_moveAll_60 : decode cX5_moveAll 60 = .ok (.iload_n 1, 1) := by decide +kernel
theorem dX5_moveAll_61 : decode cX5_moveAll 61 = .ok (.iconst 3, 1) := by decide +kernel
theorem dX5_moveAll_62 : decode cX5_moveAll 62 = .ok (.invokestatic 88, 3) := by decide +kernel
theorem dX5_moveAll_65 : decode cX5_moveAll 65 = .ok (.iaload, 1) := by decide +kernel
theorem dX5_moveAll_66 : decode cX5_moveAll 66 = .ok (.imul, 1) := by decide +kernel
theorem dX5_moveAll_67 : decode cX5_moveAll 67 = .ok (.iadd, 1) := by decide +kernel
theorem dX5_moveAll_68 : decode cX5_moveAll 68 = .ok (.goto 4, 3) := by decide +kernel
theorem dX5_moveAll_71 : decode cX5_moveAll 71 = .ok (.iconst 5, 1) := by decide +kernel
theorem dX5_moveAll_72 : decode cX5_moveAll 72 = .ok (.invokevirtual 82, 3) := by decide +kernel
theorem dX5_moveAll_75 : decode cX5_moveAll 75 = .ok (.aload_n 0, 1) := by decide +kernel
theorem dX5_moveAll_76 : decode cX5_moveAll 76 = .ok (.getfield 7, 3) := by decide +kernel
theorem dX5_moveAll_79 : decode cX5_moveAll 79 = .ok (.aload_n 0, 1) := by decide +kernel
theorem dX5_moveAll_80 : decode cX5_moveAll 80 = .ok (.getfield 7, 3) := by decide +kernel
theorem dX5_moveAll_83 : decode cX5_moveAll 83 = .ok (.iload_n 1, 1) := by decide +kernel
theorem dX5_moveAll_84 : decode cX5_moveAll 84 = .ok (.iconst 1, 1) := by decide +kernel
theorem dX5_moveAll_85 : decode cX5_moveAll 85 = .ok (.invokestatic 88, 3) := by decide +kernel
theorem dX5_moveAll_88 : decode cX5_moveAll 88 = .ok (.iaload, 1) := by decide +kernel
theorem dX5_moveAll_89 : decode cX5_moveAll 89 = .ok (.iconst 2, 1) := by decide +kernel
theorem dX5_moveAll_90 : decode cX5_moveAll 90 = .ok (.invokestatic 38, 3) := by decide +kernel
theorem dX5_moveAll_93 : decode cX5_moveAll 93 = .ok (.iload_n 2, 1) := by decide +kernel
theorem dX5_moveAll_94 : decode cX5_moveAll 94 = .ok (.ifCond .eq 9, 3) := by decide +kernel
theorem dX5_moveAll_97 : decode cX5_moveAll 97 = .ok (.iload_n 3, 1) := by decide +kernel
theorem dX5_moveAll_98 : decode cX5_moveAll 98 = .ok (.iconst 1, 1) := by decide +kernel
theorem dX5_moveAll_99 : decode cX5_moveAll 99 = .ok (.iadd, 1) := by decide +kernel
theorem dX5_moveAll_100 : decode cX5_moveAll 100 = .ok (.goto 22, 3) := by decide +kernel
theorem dX5_moveAll_103 : decode cX5_moveAll 103 = .ok (.aload_n 0, 1) := by decide +kernel
theorem dX5_moveAll_104 : decode cX5_moveAll 104 = .ok (.getfield 7, 3) := by decide +kernel
theorem dX5_moveAll_107 : decode cX5_moveAll 107 = .ok (.aload_n 0, 1) := by decide +kernel
theorem dX5_moveAll_108 : decode cX5_moveAll 108 = .ok (.getfield 7, 3) := by decide +kernel
theorem dX5_moveAll_111 : decode cX5_moveAll 111 = .ok (.iload_n 1, 1) := by decide +kernel
theorem dX5_moveAll_112 : decode cX5_moveAll 112 = .ok (.iconst 1, 1) := by decide +kernel
theorem dX5_moveAll_113 : decode cX5_moveAll 113 = .ok (.invokestatic 88, 3) := by decide +kernel
theorem dX5_moveAll_116 : decode cX5_moveAll 116 = .ok (.iaload, 1) := by decide +kernel
theorem dX5_moveAll_117 : decode cX5_moveAll 117 = .ok (.iconst 2, 1) := by decide +kernel
theorem dX5_moveAll_118 : decode cX5_moveAll 118 = .ok (.invokestatic 38, 3) := by decide +kernel
theorem dX5_moveAll_121 : decode cX5_moveAll 121 = .ok (.iaload, 1) := by decide +kernel
theorem dX5_moveAll_122 : decode cX5_moveAll 122 = .ok (.iastore, 1) := by decide +kernel
theorem dX5_moveAll_123 : decode cX5_moveAll 123 = .ok (.aload_n 0, 1) := by decide +kernel
theorem dX5_moveAll_124 : decode cX5_moveAll 124 = .ok (.getfield 7, 3) := by decide +kernel
theorem dX5_moveAll_127 : decode cX5_moveAll 127 = .ok (.iconst 5, 1) := by decide +kernel
theorem dX5_moveAll_128 : decode cX5_moveAll 128 = .ok (.dup2, 1) := by decide +kernel
theorem dX5_moveAll_129 : decode cX5_moveAll 129 = .ok (.iaload, 1) := by decide +kernel
theorem dX5_moveAll_130 : decode cX5_moveAll 130 = .ok (.iload_n 2, 1) := by decide +kernel
theorem dX5_moveAll_131 : decode cX5_moveAll 131 = .ok (.ifCond .eq 7, 3) := by decide +kernel
theorem dX5_moveAll_134 : decode cX5_moveAll 134 = .ok (.iconst 1, 1) := by decide +kernel
theorem dX5_moveAll_135 : decode cX5_moveAll 135 = .ok (.goto 4, 3) := by decide +kernel
theorem dX5_moveAll_138 : decode cX5_moveAll 138 = .ok (.iconst 0, 1) := by decide +kernel
theorem dX5_moveAll_139 : decode cX5_moveAll 139 = .ok (.iadd, 1) := by decide +kernel
theorem dX5_moveAll_140 : decode cX5_moveAll 140 = .ok (.iastore, 1) := by decide +kernel
theorem dX5_moveAll_141 : decode cX5_moveAll 141 = .ok (.aload_n 0, 1) := by decide +kernel
theorem dX5_moveAll_142 : decode cX5_moveAll 142 = .ok (.getfield 7, 3) := by decide +kernel
theorem dX5_moveAll_145 : decode cX5_moveAll 145 = .ok (.bipush 6, 2) := by decide +kernel
theorem dX5_moveAll_147 : decode cX5_moveAll 147 = .ok (.dup2, 1) := by decide +kernel
theorem dX5_moveAll_148 : decode cX5_moveAll 148 = .ok (.iaload, 1) := by decide +kernel
theorem dX5_moveAll_149 : decode cX5_moveAll 149 = .ok (.iload_n 2, 1) := by decide +kernel
theorem dX5_moveAll_150 : decode cX5_moveAll 150 = .ok (.ifCond .eq 7, 3) := by decide +kernel
theorem dX5_moveAll_153 : decode cX5_moveAll 153 = .ok (.iconst 0, 1) := by decide +kernel
theorem dX5_moveAll_154 : decode cX5_moveAll 154 = .ok (.goto 4, 3) := by decide +kernel
theorem dX5_moveAll_157 : decode cX5_moveAll 157 = .ok (.iconst 1, 1) := by decide +kernel
theorem dX5_moveAll_158 : decode cX5_moveAll 158 = .ok (.iadd, 1) := by decide +kernel
theorem dX5_moveAll_159 : decode cX5_moveAll 159 = .ok (.iastore, 1) := by decide +kernel
theorem dX5_moveAll_160 : decode cX5_moveAll 160 = .ok (.aload_n 0, 1) := by decide +kernel
theorem dX5_moveAll_161 : decode cX5_moveAll 161 = .ok (.iload_n 1, 1) := by decide +kernel
theorem dX5_moveAll_162 : decode cX5_moveAll 162 = .ok (.invokevirtual 94, 3) := by decide +kernel
theorem dX5_moveAll_165 : decode cX5_moveAll 165 = .ok (.goto (-163), 3) := by decide +kernel
theorem dX5_moveAll_168 : decode cX5_moveAll 168 = .ok (.iinc 1 1, 3) := by decide +kernel
theorem dX5_moveAll_171 : decode cX5_moveAll 171 = .ok (.goto (-169), 3) := by decide +kernel
theorem dX5_moveAll_174 : decode cX5_moveAll 174 = .ok (.return_, 1) := by decide +kernel
theorem dX5_standBy_0 : decode cX5_standBy 0 = .ok (.aload_n 0, 1) := by decide +kernel
theorem dX5_standBy_1 : decode cX5_standBy 1 = .ok (.getfield 7, 3) := by decide +kernel
theorem dX5_standBy_4 : decode cX5_standBy 4 = .ok (.iload_n 2, 1) := by decide +kernel
theorem dX5_standBy_5 : decode cX5_standBy 5 = .ok (.ifCond .ge 8, 3) := by decide +kernel
theorem dX5_standBy_8 : decode cX5_standBy 8 = .ok (.bipush 8, 2) := by decide +kernel
theorem dX5_standBy_10 : decode cX5_standBy 10 = .ok (.goto 5, 3) := by decide +kernel
theorem dX5_standBy_13 : decode cX5_standBy 13 = .ok (.bipush 7, 2) := by decide +kernel
theorem dX5_standBy_15 : decode cX5_standBy 15 = .ok (.dup2, 1) := by decide +kernel
theorem dX5_standBy_16 : decode cX5_standBy 16 = .ok (.iaload, 1) := by decide +kernel
theorem dX5_standBy_17 : decode cX5_standBy 17 = .ok (.iconst 1, 1) := by decide +kernel
theorem dX5_standBy_18 : decode cX5_standBy 18 = .ok (.iadd, 1) := by decide +kernel
theorem dX5_standBy_19 : decode cX5_standBy 19 = .ok (.iastore, 1) := by decide +kernel
theorem dX5_standBy_20 : decode cX5_standBy 20 = .ok (.iload_n 2, 1) := by decide +kernel
theorem dX5_standBy_21 : decode cX5_standBy 21 = .ok (.ifCond .lt 24, 3) := by decide +kernel
theorem dX5_standBy_24 : decode cX5_standBy 24 = .ok (.aload_n 0, 1) := by decide +kernel
theorem dX5_standBy_25 : decode cX5_standBy 25 = .ok (.getfield 7, 3) := by decide +kernel
theorem dX5_standBy_28 : decode cX5_standBy 28 = .ok (.iload_n 2, 1) := by decide +kernel
theorem dX5_standBy_29 : decode cX5_standBy 29 = .ok (.iconst 1, 1) := by decide +kernel
theorem dX5_standBy_30 : decode cX5_standBy 30 = .ok (.invokestatic 42, 3) := by decide +kernel
theorem dX5_standBy_33 : decode cX5_standBy 33 = .ok (.dup2, 1) := by decide +kernel
theorem dX5_standBy_34 : decode cX5_standBy 34 = .ok (.iaload, 1) := by decide +kernel
theorem dX5_standBy_35 : decode cX5_standBy 35 = .ok (.iconst 1, 1) := by decide +kernel
theorem dX5_standBy_36 : decode cX5_standBy 36 = .ok (.iadd, 1) := by decide +kernel
theorem dX5_standBy_37 : decode cX5_standBy 37 = .ok (.iastore, 1) := by decide +kernel
theorem dX5_standBy_38 : decode cX5_standBy 38 = .ok (.aload_n 0, 1) := by decide +kernel
theorem dX5_standBy_39 : decode cX5_standBy 39 = .ok (.iload_n 2, 1) := by decide +kernel
theorem dX5_standBy_40 : decode cX5_standBy 40 = .ok (.bipush 8, 2) := by decide +kernel
theorem dX5_standBy_42 : decode cX5_standBy 42 = .ok (.invokevirtual 82, 3) := by decide +kernel
theorem dX5_standBy_45 : decode cX5_standBy 45 = .ok (.aload_n 0, 1) := by decide +kernel
theorem dX5_standBy_46 : decode cX5_standBy 46 = .ok (.getfield 7, 3) := by decide +kernel
theorem dX5_standBy_49 : decode cX5_standBy 49 = .ok (.iload_n 1, 1) := by decide +kernel
theorem dX5_standBy_50 : decode cX5_standBy 50 = .ok (.bipush 7, 2) := by decide +kernel
theorem dX5_standBy_52 : decode cX5_standBy 52 = .ok (.invokestatic 53, 3) := by decide +kernel
theorem dX5_standBy_55 : decode cX5_standBy 55 = .ok (.dup2, 1) := by decide +kernel
theorem dX5_standBy_56 : decode cX5_standBy 56 = .ok (.iaload, 1) := by decide +kernel
theorem dX5_standBy_57 : decode cX5_standBy 57 = .ok (.iconst 1, 1) := by decide +kernel
theorem dX5_standBy_58 : decode cX5_standBy 58 = .ok (.iadd, 1) := by decide +kernel
theorem dX5_standBy_59 : decode cX5_standBy 59 = .ok (.iastore, 1) := by decide +kernel
theorem dX5_standBy_60 : decode cX5_standBy 60 = .ok (.aload_n 0, 1) := by decide +kernel
theorem dX5_standBy_61 : decode cX5_standBy 61 = .ok (.iload_n 1, 1) := by decide +kernel
theorem dX5_standBy_62 : decode cX5_standBy 62 = .ok (.aload_n 0, 1) := by decide +kernel
theorem dX5_standBy_63 : decode cX5_standBy 63 = .ok (.getfield 16, 3) := by decide +kernel
theorem dX5_standBy_66 : decode cX5_standBy 66 = .ok (.if_icmp .ne 15, 3) := by decide +kernel
theorem dX5_standBy_69 : decode cX5_standBy 69 = .ok (.iload_n 2, 1) := by decide +kernel
theorem dX5_standBy_70 : decode cX5_standBy 70 = .ok (.ifCond .ge 7, 3) := by decide +kernel
theorem dX5_standBy_73 : decode cX5_standBy 73 = .ok (.iconst 2, 1) := by decide +kernel
theorem dX5_standBy_74 : decode cX5_standBy 74 = .ok (.goto 11, 3) := by decide +kernel
theorem dX5_standBy_77 : decode cX5_standBy 77 = .ok (.iconst 1, 1) := by decide +kernel
theorem dX5_standBy_78 : decode cX5_standBy 78 = .ok (.goto 7, 3) := by decide +kernel
theorem dX5_standBy_81 : decode cX5_standBy 81 = .ok (.aload_n 0, 1) := by decide +kernel
theorem dX5_standBy_82 : decode cX5_standBy 82 = .ok (.getfield 101, 3) := by decide +kernel
theorem dX5_standBy_85 : decode cX5_standBy 85 = .ok (.putfield 101, 3) := by decide +kernel
theorem dX5_standBy_88 : decode cX5_standBy 88 = .ok (.aload_n 0, 1) := by decide +kernel
theorem dX5_standBy_89 : decode cX5_standBy 89 = .ok (.getfield 7, 3) := by decide +kernel
theorem dX5_standBy_92 : decode cX5_standBy 92 = .ok (.iload_n 1, 1) := by decide +kernel
theorem dX5_standBy_93 : decode cX5_standBy 93 = .ok (.iconst 1, 1) := by decide +kernel
theorem dX5_standBy_94 : decode cX5_standBy 94 = .ok (.invokestatic 53, 3) := by decide +kernel
theorem dX5_standBy_97 : decode cX5_standBy 97 = .ok (.iaload, 1) := by decide +kernel
theorem dX5_standBy_98 : decode cX5_standBy 98 = .ok (.istore_n 3, 1) := by decide +kernel
theorem dX5_standBy_99 : decode cX5_standBy 99 = .ok (.iconst 1, 1) := by decide +kernel
theorem dX5_standBy_100 : decode cX5_standBy 100 = .ok (.istore 4, 2) := by decide +kernel
theorem dX5_standBy_102 : decode cX5_standBy 102 = .ok (.iload 4, 2) := by decide +kernel
theorem dX5_standBy_104 : decode cX5_standBy 104 = .ok (.bipush 9, 2) := by decide +kernel
theorem dX5_standBy_106 : decode cX5_standBy 106 = .ok (.if_icmp .gt 49, 3) := by decide +kernel
theorem dX5_standBy_109 : decode cX5_standBy 109 = .ok (.aload_n 0, 1) := by decide +kernel
theorem dX5_standBy_110 : decode cX5_standBy 110 = .ok (.getfield 7, 3) := by decide +kernel
theorem dX5_standBy_113 : decode cX5_standBy 113 = .ok (.iconst 0, 1) := by decide +kernel
theorem dX5_standBy_114 : decode cX5_standBy 114 = .ok (.iaload, 1) := by decide +kernel
theorem dX5_standBy_115 : decode cX5_standBy 115 = .ok (.iload 4, 2) := by decide +kernel
theorem dX5_standBy_117 : decode cX5_standBy 117 = .ok (.iadd, 1) := by decide +kernel
theorem dX5_standBy_118 : decode cX5_standBy 118 = .ok (.istore 5, 2) := by decide +kernel
theorem dX5_standBy_120 : decode cX5_standBy 120 = .ok (.iload 5, 2) := by decide +kernel
theorem dX5_standBy_122 : decode cX5_standBy 122 = .ok (.sipush 199, 3) := by decide +kernel
theorem dX5_standBy_125 : decode cX5_standBy 125 = .ok (.if_icmp .gt 24, 3) := by decide +kernel
theorem dX5_standBy_128 : decode cX5_standBy 128 = .ok (.aload_n 0, 1) := by decide +kernel
theorem dX5_standBy_129 : decode cX5_standBy 129 = .ok (.iload_n 3, 1) := by decide +kernel
theorem dX5_standBy_130 : decode cX5_standBy 130 = .ok (.iload 5, 2) := by decide +kernel
theorem dX5_standBy_132 : decode cX5_standBy 132 = .ok (.invokevirtual 69, 3) := by decide +kernel
theorem dX5_standBy_135 : decode cX5_standBy 135 = .ok (.bipush (-5), 2) := by decide +kernel
theorem dX5_standBy_137 : decode cX5_standBy 137 = .ok (.if_icmp .ne 12, 3) := by decide +kernel
theorem dX5_standBy_140 : decode cX5_standBy 140 = .ok (.aload_n 0, 1) := by decide +kernel
theorem dX5_standBy_141 : decode cX5_standBy 141 = .ok (.iload_n 1, 1) := by decide +kernel
theorem dX5_standBy_142 : decode cX5_standBy 142 = .ok (.iload_n 3, 1) := by decide +kernel
theorem dX5_standBy_143 : decode cX5_standBy 143 = .ok (.iload 5, 2) := by decide +kernel
theorem dX5_standBy_145 : decode cX5_standBy 145 = .ok (.invokevirtual 72, 3) := by decide +kernel
theorem dX5_standBy_148 : decode cX5_standBy 148 = .ok (.return_, 1) := by decide +kernel
theorem dX5_standBy_149 : decode cX5_standBy 149 = .ok (.iinc 4 1, 3) := by decide +kernel
theorem dX5_standBy_152 : decode cX5_standBy 152 = .ok (.goto (-50), 3) := by decide +kernel
theorem dX5_standBy_155 : decode cX5_standBy 155 = .ok (.aload_n 0, 1) := by decide +kernel
theorem dX5_standBy_156 : decode cX5_standBy 156 = .ok (.getfield 7, 3) := by decide +kernel
theorem dX5_standBy_159 : decode cX5_standBy 159 = .ok (.iload_n 1, 1) := by decide +kernel
theorem dX5_standBy_160 : decode cX5_standBy 160 = .ok (.iconst 5, 1) := by decide +kernel
theorem dX5_standBy_161 : decode cX5_standBy 161 = .ok (.invokestatic 53, 3) := by decide +kernel
theorem dX5_standBy_164 : decode cX5_standBy 164 = .ok (.iconst 2, 1) := by decide +kernel
theorem dX5_standBy_165 : decode cX5_standBy 165 = .ok (.iastore, 1) := by decide +kernel
theorem dX5_standBy_166 : decode cX5_standBy 166 = .ok (.return_, 1) := by decide +kernel
theorem dX5_lift_0 : decode cX5_lift 0 = .ok (.aload_n 0, 1) := by decide +kernel
theorem dX5_lift_1 : decode cX5_lift 1 = .ok (.getfield 7, 3) := by decide +kernel
theorem dX5_lift_4 : decode cX5_lift 4 = .ok (.iload_n 1, 1) := by decide +kernel
theorem dX5_lift_5 : decode cX5_lift 5 = .ok (.iconst 1, 1) := by decide +kernel
theorem dX5_lift_6 : decode cX5_lift 6 = .ok (.invokestatic 53, 3) := by decide +kernel
theorem dX5_lift_9 : decode cX5_lift 9 = .ok (.iaload, 1) := by decide +kernel
theorem dX5_lift_10 : decode cX5_lift 10 = .ok (.istore_n 2, 1) := by decide +kernel
theorem dX5_lift_11 : decode cX5_lift 11 = .ok (.aload_n 0, 1) := by decide +kernel
theorem dX5_lift_12 : decode cX5_lift 12 = .ok (.getfield 7, 3) := by decide +kernel
theorem dX5_lift_15 : decode cX5_lift 15 = .ok (.iload_n 1, 1) := by decide +kernel
theorem dX5_lift_16 : decode cX5_lift 16 = .ok (.iconst 3, 1) := by decide +kernel
theorem dX5_lift_17 : decode cX5_lift 17 = .ok (.invokestatic 53, 3) := by decide +kernel
theorem dX5_lift_20 : decode cX5_lift 20 = .ok (.iaload, 1) := by decide +kernel
theorem dX5_lift_21 : decode cX5_lift 21 = .ok (.istore_n 3, 1) := by decide +kernel
theorem dX5_lift_22 : decode cX5_lift 22 = .ok (.aload_n 0, 1) := by decide +kernel
theorem dX5_lift_23 : decode cX5_lift 23 = .ok (.getfield 7, 3) := by decide +kernel
theorem dX5_lift_26 : decode cX5_lift 26 = .ok (.iload_n 1, 1) := by decide +kernel
theorem dX5_lift_27 : decode cX5_lift 27 = .ok (.iconst 4, 1) := by decide +kernel
theorem dX5_lift_28 : decode cX5_lift 28 = .ok (.invokestatic 53, 3) := by decide +kernel
theorem dX5_lift_31 : decode cX5_lift 31 = .ok (.iaload, 1) := by decide +kernel
theorem dX5_lift_32 : decode cX5_lift 32 = .ok (.istore 4, 2) := by decide +kernel
theorem dX5_lift_34 : decode cX5_lift 34 = .ok (.aload_n 0, 1) := by decide +kernel
theorem dX5_lift_35 : decode cX5_lift 35 = .ok (.getfield 7, 3) := by decide +kernel
theorem dX5_lift_38 : decode cX5_lift 38 = .ok (.iload_n 1, 1) := by decide +kernel
theorem dX5_lift_39 : decode cX5_lift 39 = .ok (.iconst 0, 1) := by decide +kernel
theorem dX5_lift_40 : decode cX5_lift 40 = .ok (.invokestatic 53, 3) := by decide +kernel
theorem dX5_lift_43 : decode cX5_lift 43 = .ok (.iaload, 1) := by decide +kernel
theorem dX5_lift_44 : decode cX5_lift 44 = .ok (.istore 5, 2) := by decide +kernel
theorem dX5_lift_46 : decode cX5_lift 46 = .ok (.iload_n 3, 1) := by decide +kernel
theorem dX5_lift_47 : decode cX5_lift 47 = .ok (.iload 4, 2) := by decide +kernel
theorem dX5_lift_49 : decode cX5_lift 49 = .ok (.invokestatic 104, 3) := by decide +kernel
theorem dX5_lift_52 : decode cX5_lift 52 = .ok (.istore 6, 2) := by decide +kernel
theorem dX5_lift_54 : decode cX5_lift 54 = .ok (.aload_n 0, 1) := by decide +kernel
theorem dX5_lift_55 : decode cX5_lift 55 = .ok (.iload_n 2, 1) := by decide +kernel
theorem dX5_lift_56 : decode cX5_lift 56 = .ok (.iload_n 3, 1) := by decide +kernel
theorem dX5_lift_57 : decode cX5_lift 57 = .ok (.iload 4, 2) := by decide +kernel
theorem dX5_lift_59 : decode cX5_lift 59 = .ok (.invokevirtual 66, 3) := by decide +kernel
theorem dX5_lift_62 : decode cX5_lift 62 = .ok (.ifCond .ne 23, 3) := by decide +kernel
theorem dX5_lift_65 : decode cX5_lift 65 = .ok (.aload_n 0, 1) := by decide +kernel
theorem dX5_lift_66 : decode cX5_lift 66 = .ok (.iload_n 1, 1) := by decide +kernel
theorem dX5_lift_67 : decode cX5_lift 67 = .ok (.aload_n 0, 1) := by decide +kernel
theorem dX5_lift_68 : decode cX5_lift 68 = .ok (.getfield 7, 3) := by decide +kernel
theorem dX5_lift_71 : decode cX5_lift 71 = .ok (.iload_n 2, 1) := by decide +kernel
theorem dX5_lift_72 : decode cX5_lift 72 = .ok (.iconst 2, 1) := by decide +kernel
theorem dX5_lift_73 : decode cX5_lift 73 = .ok (.invokestatic 38, 3) := by decide +kernel
theorem dX5_lift_76 : decode cX5_lift 76 = .ok (.iaload, 1) := by decide +kernel
theorem dX5_lift_77 : decode cX5_lift 77 = .ok (.iconst 1, 1) := by decide +kernel
theorem dX5_lift_78 : decode cX5_lift 78 = .ok (.isub, 1) := by decide +kernel
theorem dX5_lift_79 : decode cX5_lift 79 = .ok (.invokevirtual 107, 3) := by decide +kernel
theorem dX5_lift_82 : decode cX5_lift 82 = .ok (.goto 107, 3) := by decide +kernel
theorem dX5_lift_85 : decode cX5_lift 85 = .ok (.aload_n 0, 1) := by decide +kernel
theorem dX5_lift_86 : decode cX5_lift 86 = .ok (.getfield 7, 3) := by decide +kernel
theorem dX5_lift_89 : decode cX5_lift 89 = .ok (.sipush 335, 3) := by decide +kernel
theorem dX5_lift_92 : decode cX5_lift 92 = .ok (.aload_n 0, 1) := by decide +kernel
theorem dX5_lift_93 : decode cX5_lift 93 = .ok (.getfield 7, 3) := by decide +kernel
theorem dX5_lift_96 : decode cX5_lift 96 = .ok (.iconst 0, 1) := by decide +kernel
theorem dX5_lift_97 : decode cX5_lift 97 = .ok (.iaload, 1) := by decide +kernel
theorem dX5_lift_98 : decode cX5_lift 98 = .ok (.iadd, 1) := by decide +kernel
theorem dX5_lift_99 : decode cX5_lift 99 = .ok (.iaload, 1) := by decide +kernel
theorem dX5_lift_100 : decode cX5_lift 100 = .ok (.iload 6, 2) := by decide +kernel
theorem dX5_lift_102 : decode cX5_lift 102 = .ok (.if_icmp .le 34, 3) := by decide +kernel
theorem dX5_lift_105 : decode cX5_lift 105 = .ok (.aload_n 0, 1) := by decide +kernel
theorem dX5_lift_106 : decode cX5_lift 106 = .ok (.iload_n 1, 1) := by decide +kernel
theorem dX5_lift_107 : decode cX5_lift 107 = .ok (.aload_n 0, 1) := by decide +kernel
theorem dX5_lift_108 : decode cX5_lift 108 = .ok (.getfield 7, 3) := by decide +kernel
theorem dX5_lift_111 : decode cX5_lift 111 = .ok (.iload_n 1, 1) := by decide +kernel
theorem dX5_lift_112 : decode cX5_lift 112 = .ok (.bipush 6, 2) := by decide +kernel
theorem dX5_lift_114 : decode cX5_lift 114 = .ok (.invokestatic 53, 3) := by decide +kernel
theorem dX5_lift_117 : decode cX5_lift 117 = .ok (.iaload, 1) := by decide +kernel
theorem dX5_lift_118 : decode cX5_lift 118 = .ok (.iload 6, 2) := by decide +kernel
theorem dX5_lift_120 : decode cX5_lift 120 = .ok (.if_icmp .le 8, 3) := by decide +kernel
theorem dX5_lift_123 : decode cX5_lift 123 = .ok (.iload 5, 2) := by decide +kernel
theorem dX5_lift_125 : decode cX5_lift 125 = .ok (.goto 5, 3) := by decide +kernel
theorem dX5_lift_128 : decode cX5_lift 128 = .ok (.bipush (-5), 2) := by decide +kernel
theorem dX5_lift_130 : decode cX5_lift 130 = .ok (.invokevirtual 107, 3) := by decide +kernel
theorem dX5_lift_133 : decode cX5_lift 133 = .ok (.goto 56, 3) := by decide +kernel
theorem dX5_lift_136 : decode cX5_lift 136 = .ok (.aload_n 0, 1) := by decide +kernel
theorem dX5_lift_137 : decode cX5_lift 137 = .ok (.getfield 7, 3) := by decide +kernel
theorem dX5_lift_140 : decode cX5_lift 140 = .ok (.iload_n 1, 1) := by decide +kernel
theorem dX5_lift_141 : decode cX5_lift 141 = .ok (.iconst 5, 1) := by decide +kernel
theorem dX5_lift_142 : decode cX5_lift 142 = .ok (.invokestatic 53, 3) := by decide +kernel
theorem dX5_lift_145 : decode cX5_lift 145 = .ok (.iconst 1, 1) := by decide +kernel
theorem dX5_lift_146 : decode cX5_lift 146 = .ok (.iastore, 1) := by decide +kernel
theorem dX5_lift_147 : decode cX5_lift 147 = .ok (.aload_n 0, 1) := by decide +kernel
theorem dX5_lift_148 : decode cX5_lift 148 = .ok (.getfield 7, 3) := by decide +kernel
theorem dX5_lift_151 : decode cX5_lift 151 = .ok (.iload_n 2, 1) := by decide +kernel
theorem dX5_lift_152 : decode cX5_lift 152 = .ok (.iconst 3, 1) := by decide +kernel
theorem dX5_lift_153 : decode cX5_lift 153 = .ok (.invokestatic 38, 3) := by decide +kernel
theorem dX5_lift_156 : decode cX5_lift 156 = .ok (.dup2, 1) := by decide +kernel
theorem dX5_lift_157 : decode cX5_lift 157 = .ok (.iaload, 1) := by decide +kernel
theorem dX5_lift_158 : decode cX5_lift 158 = .ok (.iconst 1, 1) := by decide +kernel
theorem dX5_lift_159 : decode cX5_lift 159 = .ok (.iadd, 1) := by decide +kernel
theorem dX5_lift_160 : decode cX5_lift 160 = .ok (.iastore, 1) := by decide +kernel
theorem dX5_lift_161 : decode cX5_lift 161 = .ok (.aload_n 0, 1) := by decide +kernel
theorem dX5_lift_162 : decode cX5_lift 162 = .ok (.iload 5, 2) := by decide +kernel
theorem dX5_lift_164 : decode cX5_lift 164 = .ok (.bipush 30, 2) := by decide +kernel
theorem dX5_lift_166 : decode cX5_lift 166 = .ok (.invokevirtual 82, 3) := by decide +kernel
theorem dX5_lift_169 : decode cX5_lift 169 = .ok (.aload_n 0, 1) := by decide +kernel
theorem dX5_lift_170 : decode cX5_lift 170 = .ok (.iload_n 1, 1) := by decide +kernel
theorem dX5_lift_171 : decode cX5_lift 171 = .ok (.aload_n 0, 1) := by decide +kernel
theorem dX5_lift_172 : decode cX5_lift 172 = .ok (.getfield 16, 3) := by decide +kernel
theorem dX5_lift_175 : decode cX5_lift 175 = .ok (.if_icmp .ne 7, 3) := by decide +kernel
theorem dX5_lift_178 : decode cX5_lift 178 = .ok (.iconst 0, 1) := by decide +kernel
theorem dX5_lift_179 : decode cX5_lift 179 = .ok (.goto 7, 3) := by decide +kernel
theorem dX5_lift_182 : decode cX5_lift 182 = .ok (.aload_n 0, 1) := by decide +kernel
theorem dX5_lift_183 : decode cX5_lift 183 = .ok (.getfield 101, 3) := by decide +kernel
theorem dX5_lift_186 : decode cX5_lift 186 = .ok (.putfield 101, 3) := by decide +kernel
theorem dX5_lift_189 : decode cX5_lift 189 = .ok (.return_, 1) := by decide +kernel
theorem dX5_passOne_0 : decode cX5_passOne 0 = .ok (.aload_n 0, 1) := by decide +kernel
theorem dX5_passOne_1 : decode cX5_passOne 1 = .ok (.invokevirtual 110, 3) := by decide +kernel
theorem dX5_passOne_4 : decode cX5_passOne 4 = .ok (.iconst 0, 1) := by decide +kernel
theorem dX5_passOne_5 : decode cX5_passOne 5 = .ok (.istore_n 1, 1) := by decide +kernel
theorem dX5_passOne_6 : decode cX5_passOne 6 = .ok (.iload_n 1, 1) := by decide +kernel
theorem dX5_passOne_7 : decode cX5_passOne 7 = .ok (.aload_n 0, 1) := by decide +kernel
theorem dX5_passOne_8 : decode cX5_passOne 8 = .ok (.getfield 7, 3) := by decide +kernel
theorem dX5_passOne_11 : decode cX5_passOne 11 = .ok (.iconst 3, 1) := by decide +kernel
theorem dX5_passOne_12 : decode cX5_passOne 12 = .ok (.iaload, 1) := by decide +kernel
theorem dX5_passOne_13 : decode cX5_passOne 13 = .ok (.if_icmp .ge 41, 3) := by decide +kernel
theorem dX5_passOne_16 : decode cX5_passOne 16 = .ok (.aload_n 0, 1) := by decide +kernel
theorem dX5_passOne_17 : decode cX5_passOne 17 = .ok (.iload_n 1, 1) := by decide +kernel
theorem dX5_passOne_18 : decode cX5_passOne 18 = .ok (.invokevirtual 79, 3) := by decide +kernel
theorem dX5_passOne_21 : decode cX5_passOne 21 = .ok (.ifCond .eq 27, 3) := by decide +kernel
theorem dX5_passOne_24 : decode cX5_passOne 24 = .ok (.aload_n 0, 1) := by decide +kernel
theorem dX5_passOne_25 : decode cX5_passOne 25 = .ok (.getfield 7, 3) := by decide +kernel
theorem dX5_passOne_28 : decode cX5_passOne 28 = .ok (.iload_n 1, 1) := by decide +kernel
theorem dX5_passOne_29 : decode cX5_passOne 29 = .ok (.iconst 2, 1) := by decide +kernel
theorem dX5_passOne_30 : decode cX5_passOne 30 = .ok (.invokestatic 53, 3) := by decide +kernel
theorem dX5_passOne_33 : decode cX5_passOne 33 = .ok (.iaload, 1) := by decide +kernel
theorem dX5_passOne_34 : decode cX5_passOne 34 = .ok (.aload_n 0, 1) := by decide +kernel
theorem dX5_passOne_35 : decode cX5_passOne 35 = .ok (.getfield 7, 3) := by decide +kernel
theorem dX5_passOne_38 : decode cX5_passOne 38 = .ok (.iconst 0, 1) := by decide +kernel
theorem dX5_passOne_39 : decode cX5_passOne 39 = .ok (.iaload, 1) := by decide +kernel
theorem dX5_passOne_40 : decode cX5_passOne 40 = .ok (.if_icmp .ne 8, 3) := by decide +kernel
theorem dX5_passOne_43 : decode cX5_passOne 43 = .ok (.aload_n 0, 1) := by decide +kernel
theorem dX5_passOne_44 : decode cX5_passOne 44 = .ok (.iload_n 1, 1) := by decide +kernel
theorem dX5_passOne_45 : decode cX5_passOne 45 = .ok (.invokevirtual 113, 3) := by decide +kernel
theorem dX5_passOne_48 : decode cX5_passOne 48 = .ok (.iinc 1 1, 3) := by decide +kernel
theorem dX5_passOne_51 : decode cX5_passOne 51 = .ok (.goto (-45), 3) := by decide +kernel
theorem dX5_passOne_54 : decode cX5_passOne 54 = .ok (.aload_n 0, 1) := by decide +kernel
theorem dX5_passOne_55 : decode cX5_passOne 55 = .ok (.getfield 7, 3) := by decide +kernel
theorem dX5_passOne_58 : decode cX5_passOne 58 = .ok (.iconst 0, 1) := by decide +kernel
theorem dX5_passOne_59 : decode cX5_passOne 59 = .ok (.dup2, 1) := by decide +kernel
theorem dX5_passOne_60 : decode cX5_passOne 60 = .ok (.iaload, 1) := by decide +kernel
theorem dX5_passOne_61 : decode cX5_passOne 61 = .ok (.iconst 1, 1) := by decide +kernel
theorem dX5_passOne_62 : decode cX5_passOne 62 = .ok (.iadd, 1) := by decide +kernel
theorem dX5_passOne_63 : decode cX5_passOne 63 = .ok (.iastore, 1) := by decide +kernel
theorem dX5_passOne_64 : decode cX5_passOne 64 = .ok (.return_, 1) := by decide +kernel
theorem dX5_manyIn_0 : decode cX5_manyIn 0 = .ok (.iconst 0, 1) := by decide +kernel
theorem dX5_manyIn_1 : decode cX5_manyIn 1 = .ok (.istore_n 2, 1) := by decide +kernel
theorem dX5_manyIn_2 : decode cX5_manyIn 2 = .ok (.iconst 0, 1) := by decide +kernel
theorem dX5_manyIn_3 : decode cX5_manyIn 3 = .ok (.istore_n 3, 1) := by decide +kernel
theorem dX5_manyIn_4 : decode cX5_manyIn 4 = .ok (.iload_n 3, 1) := by decide +kernel
theorem dX5_manyIn_5 : decode cX5_manyIn 5 = .ok (.aload_n 0, 1) := by decide +kernel
theorem dX5_manyIn_6 : decode cX5_manyIn 6 = .ok (.getfield 7, 3) := by decide +kernel
theorem dX5_manyIn_9 : decode cX5_manyIn 9 = .ok (.iconst 3, 1) := by decide +kernel
theorem dX5_manyIn_10 : decode cX5_manyIn 10 = .ok (.iaload, 1) := by decide +kernel
theorem dX5_manyIn_11 : decode cX5_manyIn 11 = .ok (.if_icmp .ge 31, 3) := by decide +kernel
theorem dX5_manyIn_14 : decode cX5_manyIn 14 = .ok (.iload_n 2, 1) := by decide +kernel
theorem dX5_manyIn_15 : decode cX5_manyIn 15 = .ok (.aload_n 0, 1) := by decide +kernel
theorem dX5_manyIn_16 : decode cX5_manyIn 16 = .ok (.getfield 7, 3) := by decide +kernel
theorem dX5_manyIn_19 : decode cX5_manyIn 19 = .ok (.iload_n 3, 1) := by decide +kernel
theorem dX5_manyIn_20 : decode cX5_manyIn 20 = .ok (.iconst 5, 1) := by decide +kernel
theorem dX5_manyIn_21 : decode cX5_manyIn 21 = .ok (.invokestatic 53, 3) := by decide +kernel
theorem dX5_manyIn_24 : decode cX5_manyIn 24 = .ok (.iaload, 1) := by decide +kernel
theorem dX5_manyIn_25 : decode cX5_manyIn 25 = .ok (.iload_n 1, 1) := by decide +kernel
theorem dX5_manyIn_26 : decode cX5_manyIn 26 = .ok (.if_icmp .ne 7, 3) := by decide +kernel
theorem dX5_manyIn_29 : decode cX5_manyIn 29 = .ok (.iconst 1, 1) := by decide +kernel
theorem dX5_manyIn_30 : decode cX5_manyIn 30 = .ok (.goto 4, 3) := by decide +kernel
theorem dX5_manyIn_33 : decode cX5_manyIn 33 = .ok (.iconst 0, 1) := by decide +kernel
theorem dX5_manyIn_34 : decode cX5_manyIn 34 = .ok (.iadd, 1) := by decide +kernel
theorem dX5_manyIn_35 : decode cX5_manyIn 35 = .ok (.istore_n 2, 1) := by decide +kernel
theorem dX5_manyIn_36 : decode cX5_manyIn 36 = .ok (.iinc 3 1, 3) := by decide +kernel
theorem dX5_manyIn_39 : decode cX5_manyIn 39 = .ok (.goto (-35), 3) := by decide +kernel
theorem dX5_manyIn_42 : decode cX5_manyIn 42 = .ok (.iload_n 2, 1) := by decide +kernel
theorem dX5_manyIn_43 : decode cX5_manyIn 43 = .ok (.ireturn, 1) := by decide +kernel
theorem dX5_pass_0 : decode cX5_pass 0 = .ok (.iload_n 1, 1) := by decide +kernel
theorem dX5_pass_1 : decode cX5_pass 1 = .ok (.iconst 1, 1) := by decide +kernel
theorem dX5_pass_2 : decode cX5_pass 2 = .ok (.bipush 20, 2) := by decide +kernel
theorem dX5_pass_4 : decode cX5_pass 4 = .ok (.invokestatic 20, 3) := by decide +kernel
theorem dX5_pass_7 : decode cX5_pass 7 = .ok (.ifCond .ne 6, 3) := by decide +kernel
theorem dX5_pass_10 : decode cX5_pass 10 = .ok (.bipush (-2), 2) := by decide +kernel
theorem dX5_pass_12 : decode cX5_pass 12 = .ok (.ireturn, 1) := by decide +kernel
theorem dX5_pass_13 : decode cX5_pass 13 = .ok (.aload_n 0, 1) := by decide +kernel
theorem dX5_pass_14 : decode cX5_pass 14 = .ok (.getfield 7, 3) := by decide +kernel
theorem dX5_pass_17 : decode cX5_pass 17 = .ok (.iconst 0, 1) := by decide +kernel
theorem dX5_pass_18 : decode cX5_pass 18 = .ok (.iaload, 1) := by decide +kernel
theorem dX5_pass_19 : decode cX5_pass 19 = .ok (.iload_n 1, 1) := by decide +kernel
theorem dX5_pass_20 : decode cX5_pass 20 = .ok (.iadd, 1) := by decide +kernel
theorem dX5_pass_21 : decode cX5_pass 21 = .ok (.sipush 199, 3) := by decide +kernel
theorem dX5_pass_24 : decode cX5_pass 24 = .ok (.if_icmp .le 6, 3) := by decide +kernel
theorem dX5_pass_27 : decode cX5_pass 27 = .ok (.bipush (-4), 2) := by decide +kernel
theorem dX5_pass_29 : decode cX5_pass 29 = .ok (.ireturn, 1) := by decide +kernel
theorem dX5_pass_30 : decode cX5_pass 30 = .ok (.aload_n 0, 1) := by decide +kernel
theorem dX5_pass_31 : decode cX5_pass 31 = .ok (.invokevirtual 35, 3) := by decide +kernel
theorem dX5_pass_34 : decode cX5_pass 34 = .ok (.aload_n 0, 1) := by decide +kernel
theorem dX5_pass_35 : decode cX5_pass 35 = .ok (.iconst 1, 1) := by decide +kernel
theorem dX5_pass_36 : decode cX5_pass 36 = .ok (.invokevirtual 116, 3) := by decide +kernel
theorem dX5_pass_39 : decode cX5_pass 39 = .ok (.istore_n 2, 1) := by decide +kernel
theorem dX5_pass_40 : decode cX5_pass 40 = .ok (.iconst 0, 1) := by decide +kernel
theorem dX5_pass_41 : decode cX5_pass 41 = .ok (.istore_n 3, 1) := by decide +kernel
theorem dX5_pass_42 : decode cX5_pass 42 = .ok (.iload_n 3, 1) := by decide +kernel
theorem dX5_pass_43 : decode cX5_pass 43 = .ok (.iload_n 1, 1) := by decide +kernel
theorem dX5_pass_44 : decode cX5_pass 44 = .ok (.if_icmp .ge 13, 3) := by decide +kernel
theorem dX5_pass_47 : decode cX5_pass 47 = .ok (.aload_n 0, 1) := by decide +kernel
theorem dX5_pass_48 : decode cX5_pass 48 = .ok (.invokevirtual 120, 3) := by decide +kernel
theorem dX5_pass_51 : decode cX5_pass 51 = .ok (.iinc 3 1, 3) := by decide +kernel
theorem dX5_pass_54 : decode cX5_pass 54 = .ok (.goto (-12), 3) := by decide +kernel
theorem dX5_pass_57 : decode cX5_pass 57 = .ok (.aload_n 0, 1) := by decide +kernel
theorem dX5_pass_58 : decode cX5_pass 58 = .ok (.iconst 1, 1) := by decide +kernel
theorem dX5_pass_59 : decode cX5_pass 59 = .ok (.invokevirtual 116, 3) := by decide +kernel
theorem dX5_pass_62 : decode cX5_pass 62 = .ok (.iload_n 2, 1) := by decide +kernel
theorem dX5_pass_63 : decode cX5_pass 63 = .ok (.isub, 1) := by decide +kernel
theorem dX5_pass_64 : decode cX5_pass 64 = .ok (.ireturn, 1) := by decide +kernel
theorem dX5_type_0 : decode cX5_type 0 = .ok (.aload_n 0, 1) := by decide +kernel
theorem dX5_type_1 : decode cX5_type 1 = .ok (.getfield 123, 3) := by decide +kernel
theorem dX5_type_4 : decode cX5_type 4 = .ok (.bipush 60, 2) := by decide +kernel
theorem dX5_type_6 : decode cX5_type 6 = .ok (.if_icmp .ne 6, 3) := by decide +kernel
theorem dX5_type_9 : decode cX5_type 9 = .ok (.bipush (-3), 2) := by decide +kernel
theorem dX5_type_11 : decode cX5_type 11 = .ok (.ireturn, 1) := by decide +kernel
theorem dX5_type_12 : decode cX5_type 12 = .ok (.aload_n 0, 1) := by decide +kernel
theorem dX5_type_13 : decode cX5_type 13 = .ok (.getfield 13, 3) := by decide +kernel
theorem dX5_type_16 : decode cX5_type 16 = .ok (.aload_n 0, 1) := by decide +kernel
theorem dX5_type_17 : decode cX5_type 17 = .ok (.getfield 123, 3) := by decide +kernel
theorem dX5_type_20 : decode cX5_type 20 = .ok (.iload_n 1, 1) := by decide +kernel
theorem dX5_type_21 : decode cX5_type 21 = .ok (.iastore, 1) := by decide +kernel
theorem dX5_type_22 : decode cX5_type 22 = .ok (.aload_n 0, 1) := by decide +kernel
theorem dX5_type_23 : decode cX5_type 23 = .ok (.dup, 1) := by decide +kernel
theorem dX5_type_24 : decode cX5_type 24 = .ok (.getfield 123, 3) := by decide +kernel
theorem dX5_type_27 : decode cX5_type 27 = .ok (.iconst 1, 1) := by decide +kernel
theorem dX5_type_28 : decode cX5_type 28 = .ok (.iadd, 1) := by decide +kernel
theorem dX5_type_29 : decode cX5_type 29 = .ok (.putfield 123, 3) := by decide +kernel
theorem dX5_type_32 : decode cX5_type 32 = .ok (.aload_n 0, 1) := by decide +kernel
theorem dX5_type_33 : decode cX5_type 33 = .ok (.getfield 123, 3) := by decide +kernel
theorem dX5_type_36 : decode cX5_type 36 = .ok (.ireturn, 1) := by decide +kernel
theorem dX5_clearText_0 : decode cX5_clearText 0 = .ok (.aload_n 0, 1) := by decide +kernel
theorem dX5_clearText_1 : decode cX5_clearText 1 = .ok (.getfield 123, 3) := by decide +kernel
theorem dX5_clearText_4 : decode cX5_clearText 4 = .ok (.istore_n 1, 1) := by decide +kernel
theorem dX5_clearText_5 : decode cX5_clearText 5 = .ok (.aload_n 0, 1) := by decide +kernel
theorem dX5_clearText_6 : decode cX5_clearText 6 = .ok (.iconst 0, 1) := by decide +kernel
theorem dX5_clearText_7 : decode cX5_clearText 7 = .ok (.putfield 123, 3) := by decide +kernel
theorem dX5_clearText_10 : decode cX5_clearText 10 = .ok (.iload_n 1, 1) := by decide +kernel
theorem dX5_clearText_11 : decode cX5_clearText 11 = .ok (.ireturn, 1) := by decide +kernel
theorem dX5_code_0 : decode cX5_code 0 = .ok (.aload_n 0, 1) := by decide +kernel
theorem dX5_code_1 : decode cX5_code 1 = .ok (.getfield 126, 3) := by decide +kernel
theorem dX5_code_4 : decode cX5_code 4 = .ok (.aload_n 0, 1) := by decide +kernel
theorem dX5_code_5 : decode cX5_code 5 = .ok (.getfield 123, 3) := by decide +kernel
theorem dX5_code_8 : decode cX5_code 8 = .ok (.if_icmp .ge 15, 3) := by decide +kernel
theorem dX5_code_11 : decode cX5_code 11 = .ok (.aload_n 0, 1) := by decide +kernel
theorem dX5_code_12 : decode cX5_code 12 = .ok (.getfield 13, 3) := by decide +kernel
theorem dX5_code_15 : decode cX5_code 15 = .ok (.aload_n 0, 1) := by decide +kernel
theorem dX5_code_16 : decode cX5_code 16 = .ok (.getfield 126, 3) := by decide +kernel
theorem dX5_code_19 : decode cX5_code 19 = .ok (.iaload, 1) := by decide +kernel
theorem dX5_code_20 : decode cX5_code 20 = .ok (.goto 4, 3) := by decide +kernel
theorem dX5_code_23 : decode cX5_code 23 = .ok (.iconst 0, 1) := by decide +kernel
theorem dX5_code_24 : decode cX5_code 24 = .ok (.ireturn, 1) := by decide +kernel
theorem dX5_number_0 : decode cX5_number 0 = .ok (.iconst 0, 1) := by decide +kernel
theorem dX5_number_1 : decode cX5_number 1 = .ok (.istore_n 2, 1) := by decide +kernel
theorem dX5_number_2 : decode cX5_number 2 = .ok (.iconst 0, 1) := by decide +kernel
theorem dX5_number_3 : decode cX5_number 3 = .ok (.istore_n 3, 1) := by decide +kernel
theorem dX5_number_4 : decode cX5_number 4 = .ok (.aload_n 0, 1) := by decide +kernel
theorem dX5_number_5 : decode cX5_number 5 = .ok (.invokevirtual 129, 3) := by decide +kernel
theorem dX5_number_8 : decode cX5_number 8 = .ok (.bipush 48, 2) := by decide +kernel
theorem dX5_number_10 : decode cX5_number 10 = .ok (.bipush 57, 2) := by decide +kernel
theorem dX5_number_12 : decode cX5_number 12 = .ok (.invokestatic 20, 3) := by decide +kernel
theorem dX5_number_15 : decode cX5_number 15 = .ok (.ifCond .eq 45, 3) := by decide +kernel
theorem dX5_number_18 : decode cX5_number 18 = .ok (.iload_n 2, 1) := by decide +kernel
theorem dX5_number_19 : decode cX5_number 19 = .ok (.iload_n 1, 1) := by decide +kernel
theorem dX5_number_20 : decode cX5_number 20 = .ok (.if_icmp .ge 40, 3) := by decide +kernel
theorem dX5_number_23 : decode cX5_number 23 = .ok (.iload_n 2, 1) := by decide +kernel
theorem dX5_number_24 : decode cX5_number 24 = .ok (.ifCond .eq 7, 3) := by decide +kernel
theorem dX5_number_27 : decode cX5_number 27 = .ok (.iload_n 3, 1) := by decide +kernel
theorem dX5_number_28 : decode cX5_number 28 = .ok (.ifCond .le 32, 3) := by decide +kernel
theorem dX5_number_31 : decode cX5_number 31 = .ok (.bipush 10, 2) := by decide +kernel
theorem dX5_number_33 : decode cX5_number 33 = .ok (.iload_n 3, 1) := by decide +kernel
theorem dX5_number_34 : decode cX5_number 34 = .ok (.imul, 1) := by decide +kernel
theorem dX5_number_35 : decode cX5_number 35 = .ok (.aload_n 0, 1) := by decide +kernel
theorem dX5_number_36 : decode cX5_number 36 = .ok (.invokevirtual 129, 3) := by decide +kernel
theorem dX5_number_39 : decode cX5_number 39 = .ok (.iadd, 1) := by decide +kernel
theorem dX5_number_40 : decode cX5_number 40 = .ok (.bipush 48, 2) := by decide +kernel
theorem dX5_number_42 : decode cX5_number 42 = .ok (.isub, 1) := by decide +kernel
theorem dX5_number_43 : decode cX5_number 43 = .ok (.istore_n 3, 1) := by decide +kernel
theorem dX5_number_44 : decode cX5_number 44 = .ok (.aload_n 0, 1) := by decide +kernel
theorem dX5_number_45 : decode cX5_number 45 = .ok (.dup, 1) := by decide +kernel
theorem dX5_number_46 : decode cX5_number 46 = .ok (.getfield 126, 3) := by decide +kernel
theorem dX5_number_49 : decode cX5_number 49 = .ok (.iconst 1, 1) := by decide +kernel
theorem dX5_number_50 : decode cX5_number 50 = .ok (.iadd, 1) := by decide +kernel
theorem dX5_number_51 : decode cX5_number 51 = .ok (.putfield 126, 3) := by decide +kernel
theorem dX5_number_54 : decode cX5_number 54 = .ok (.iinc 2 1, 3) := by decide +kernel
theorem dX5_number_57 : decode cX5_number 57 = .ok (.goto (-53), 3) := by decide +kernel
theorem dX5_number_60 : decode cX5_number 60 = .ok (.iload_n 2, 1) := by decide +kernel
theorem dX5_number_61 : decode cX5_number 61 = .ok (.ifCond .ne 7, 3) := by decide +kernel
theorem dX5_number_64 : decode cX5_number 64 = .ok (.iconst (-1), 1) := by decide +kernel
theorem dX5_number_65 : decode cX5_number 65 = .ok (.goto 4, 3) := by decide +kernel
theorem dX5_number_68 : decode cX5_number 68 = .ok (.iload_n 3, 1) := by decide +kernel
theorem dX5_number_69 : decode cX5_number 69 = .ok (.ireturn, 1) := by decide +kernel
theorem dX5_readsWind_0 : decode cX5_readsWind 0 = .ok (.aload_n 0, 1) := by decide +kernel
theorem dX5_readsWind_1 : decode cX5_readsWind 1 = .ok (.aload_n 0, 1) := by decide +kernel
theorem dX5_readsWind_2 : decode cX5_readsWind 2 = .ok (.iconst 3, 1) := by decide +kernel
theorem dX5_readsWind_3 : decode cX5_readsWind 3 = .ok (.invokevirtual 133, 3) := by decide +kernel
theorem dX5_readsWind_6 : decode cX5_readsWind 6 = .ok (.putfield 136, 3) := by decide +kernel
theorem dX5_readsWind_9 : decode cX5_readsWind 9 = .ok (.aload_n 0, 1) := by decide +kernel
theorem dX5_readsWind_10 : decode cX5_readsWind 10 = .ok (.getfield 136, 3) := by decide +kernel
theorem dX5_readsWind_13 : decode cX5_readsWind 13 = .ok (.ifCond .lt 12, 3) := by decide +kernel
theorem dX5_readsWind_16 : decode cX5_readsWind 16 = .ok (.aload_n 0, 1) := by decide +kernel
theorem dX5_readsWind_17 : decode cX5_readsWind 17 = .ok (.invokevirtual 129, 3) := by decide +kernel
theorem dX5_readsWind_20 : decode cX5_readsWind 20 = .ok (.bipush 58, 2) := by decide +kernel
theorem dX5_readsWind_22 : decode cX5_readsWind 22 = .ok (.if_icmp .eq 5, 3) := by decide +kernel
theorem dX5_readsWind_25 : decode cX5_readsWind 25 = .ok (.iconst 0, 1) := by decide +kernel
theorem dX5_readsWind_26 : decode cX5_readsWind 26 = .ok (.ireturn, 1) := by decide +kernel
theorem dX5_readsWind_27 : decode cX5_readsWind 27 = .ok (.aload_n 0, 1) := by decide +kernel
theorem dX5_readsWind_28 : decode cX5_readsWind 28 = .ok (.dup, 1) := by decide +kernel
theorem dX5_readsWind_29 : decode cX5_readsWind 29 = .ok (.getfield 126, 3) := by decide +kernel
theorem dX5_readsWind_32 : decode cX5_readsWind 32 = .ok (.iconst 1, 1) := by decide +kernel
theorem dX5_readsWind_33 : decode cX5_readsWind 33 = .ok (.iadd, 1) := by decide +kernel
theorem dX5_readsWind_34 : decode cX5_readsWind 34 = .ok (.putfield 126, 3) := by decide +kernel
theorem dX5_readsWind_37 : decode cX5_readsWind 37 = .ok (.aload_n 0, 1) := by decide +kernel
theorem dX5_readsWind_38 : decode cX5_readsWind 38 = .ok (.aload_n 0, 1) := by decide +kernel
theorem dX5_readsWind_39 : decode cX5_readsWind 39 = .ok (.iconst 2, 1) := by decide +kernel
theorem dX5_readsWind_40 : decode cX5_readsWind 40 = .ok (.invokevirtual 133, 3) := by decide +kernel
theorem dX5_readsWind_43 : decode cX5_readsWind 43 = .ok (.putfield 139, 3) := by decide +kernel
theorem dX5_readsWind_46 : decode cX5_readsWind 46 = .ok (.aload_n 0, 1) := by decide +kernel
theorem dX5_readsWind_47 : decode cX5_readsWind 47 = .ok (.getfield 139, 3) := by decide +kernel
theorem dX5_readsWind_50 : decode cX5_readsWind 50 = .ok (.ifCond .lt 7, 3) := by decide +kernel
theorem dX5_readsWind_53 : decode cX5_readsWind 53 = .ok (.iconst 1, 1) := by decide +kernel
theorem dX5_readsWind_54 : decode cX5_readsWind 54 = .ok (.goto 4, 3) := by decide +kernel
theorem dX5_readsWind_57 : decode cX5_readsWind 57 = .ok (.iconst 0, 1) := by decide +kernel
theorem dX5_readsWind_58 : decode cX5_readsWind 58 = .ok (.ireturn, 1) := by decide +kernel
theorem dX5_faultOf_0 : decode cX5_faultOf 0 = .ok (.aload_n 0, 1) := by decide +kernel
theorem dX5_faultOf_1 : decode cX5_faultOf 1 = .ok (.iconst 0, 1) := by decide +kernel
theorem dX5_faultOf_2 : decode cX5_faultOf 2 = .ok (.putfield 126, 3) := by decide +kernel
theorem dX5_faultOf_5 : decode cX5_faultOf 5 = .ok (.aload_n 0, 1) := by decide +kernel
theorem dX5_faultOf_6 : decode cX5_faultOf 6 = .ok (.invokevirtual 142, 3) := by decide +kernel
theorem dX5_faultOf_9 : decode cX5_faultOf 9 = .ok (.istore_n 1, 1) := by decide +kernel
theorem dX5_faultOf_10 : decode cX5_faultOf 10 = .ok (.iload_n 1, 1) := by decide +kernel
theorem dX5_faultOf_11 : decode cX5_faultOf 11 = .ok (.ifCond .eq 67, 3) := by decide +kernel
theorem dX5_faultOf_14 : decode cX5_faultOf 14 = .ok (.aload_n 0, 1) := by decide +kernel
theorem dX5_faultOf_15 : decode cX5_faultOf 15 = .ok (.getfield 126, 3) := by decide +kernel
theorem dX5_faultOf_18 : decode cX5_faultOf 18 = .ok (.aload_n 0, 1) := by decide +kernel
theorem dX5_faultOf_19 : decode cX5_faultOf 19 = .ok (.getfield 123, 3) := by decide +kernel
theorem dX5_faultOf_22 : decode cX5_faultOf 22 = .ok (.if_icmp .ge 56, 3) := by decide +kernel
theorem dX5_faultOf_25 : decode cX5_faultOf 25 = .ok (.aload_n 0, 1) := by decide +kernel
theorem dX5_faultOf_26 : decode cX5_faultOf 26 = .ok (.invokevirtual 129, 3) := by decide +kernel
theorem dX5_faultOf_29 : decode cX5_faultOf 29 = .ok (.bipush 59, 2) := by decide +kernel
theorem dX5_faultOf_31 : decode cX5_faultOf 31 = .ok (.if_icmp .ne 7, 3) := by decide +kernel
theorem dX5_faultOf_34 : decode cX5_faultOf 34 = .ok (.iconst 1, 1) := by decide +kernel
theorem dX5_faultOf_35 : decode cX5_faultOf 35 = .ok (.goto 4, 3) := by decide +kernel
theorem dX5_faultOf_38 : decode cX5_faultOf 38 = .ok (.iconst 0, 1) := by decide +kernel
theorem dX5_faultOf_39 : decode cX5_faultOf 39 = .ok (.istore_n 1, 1) := by decide +kernel
theorem dX5_faultOf_40 : decode cX5_faultOf 40 = .ok (.aload_n 0, 1) := by decide +kernel
theorem dX5_faultOf_41 : decode cX5_faultOf 41 = .ok (.dup, 1) := by decide +kernel
theorem dX5_faultOf_42 : decode cX5_faultOf 42 = .ok (.getfield 126, 3) := by decide +kernel
theorem dX5_faultOf_45 : decode cX5_faultOf 45 = .ok (.iload_n 1, 1) := by decide +kernel
theorem dX5_faultOf_46 : decode cX5_faultOf 46 = .ok (.ifCond .eq 7, 3) := by decide +kernel
theorem dX5_faultOf_49 : decode cX5_faultOf 49 = .ok (.iconst 1, 1) := by decide +kernel
theorem dX5_faultOf_50 : decode cX5_faultOf 50 = .ok (.goto 4, 3) := by decide +kernel
theorem dX5_faultOf_53 : decode cX5_faultOf 53 = .ok (.iconst 0, 1) := by decide +kernel
theorem dX5_faultOf_54 : decode cX5_faultOf 54 = .ok (.iadd, 1) := by decide +kernel
theorem dX5_faultOf_55 : decode cX5_faultOf 55 = .ok (.putfield 126, 3) := by decide +kernel
theorem dX5_faultOf_58 : decode cX5_faultOf 58 = .ok (.iload_n 1, 1) := by decide +kernel
theorem dX5_faultOf_59 : decode cX5_faultOf 59 = .ok (.ifCond .eq 14, 3) := by decide +kernel
theorem dX5_faultOf_62 : decode cX5_faultOf 62 = .ok (.aload_n 0, 1) := by decide +kernel
theorem dX5_faultOf_63 : decode cX5_faultOf 63 = .ok (.invokevirtual 142, 3) := by decide +kernel
theorem dX5_faultOf_66 : decode cX5_faultOf 66 = .ok (.ifCond .eq 7, 3) := by decide +kernel
theorem dX5_faultOf_69 : decode cX5_faultOf 69 = .ok (.iconst 1, 1) := by decide +kernel
theorem dX5_faultOf_70 : decode cX5_faultOf 70 = .ok (.goto 4, 3) := by decide +kernel
theorem dX5_faultOf_73 : decode cX5_faultOf 73 = .ok (.iconst 0, 1) := by decide +kernel
theorem dX5_faultOf_74 : decode cX5_faultOf 74 = .ok (.istore_n 1, 1) := by decide +kernel
theorem dX5_faultOf_75 : decode cX5_faultOf 75 = .ok (.goto (-65), 3) := by decide +kernel
theorem dX5_faultOf_78 : decode cX5_faultOf 78 = .ok (.iload_n 1, 1) := by decide +kernel
theorem dX5_faultOf_79 : decode cX5_faultOf 79 = .ok (.ifCond .eq 7, 3) := by decide +kernel
theorem dX5_faultOf_82 : decode cX5_faultOf 82 = .ok (.iconst (-1), 1) := by decide +kernel
theorem dX5_faultOf_83 : decode cX5_faultOf 83 = .ok (.goto 7, 3) := by decide +kernel
theorem dX5_faultOf_86 : decode cX5_faultOf 86 = .ok (.aload_n 0, 1) := by decide +kernel
theorem dX5_faultOf_87 : decode cX5_faultOf 87 = .ok (.getfield 126, 3) := by decide +kernel
theorem dX5_faultOf_90 : decode cX5_faultOf 90 = .ok (.ireturn, 1) := by decide +kernel
theorem dX5_goOn_0 : decode cX5_goOn 0 = .ok (.iconst 0, 1) := by decide +kernel
theorem dX5_goOn_1 : decode cX5_goOn 1 = .ok (.istore_n 2, 1) := by decide +kernel
theorem dX5_goOn_2 : decode cX5_goOn 2 = .ok (.aload_n 0, 1) := by decide +kernel
theorem dX5_goOn_3 : decode cX5_goOn 3 = .ok (.iconst 0, 1) := by decide +kernel
theorem dX5_goOn_4 : decode cX5_goOn 4 = .ok (.putfield 126, 3) := by decide +kernel
theorem dX5_goOn_7 : decode cX5_goOn 7 = .ok (.aload_n 0, 1) := by decide +kernel
theorem dX5_goOn_8 : decode cX5_goOn 8 = .ok (.getfield 126, 3) := by decide +kernel
theorem dX5_goOn_11 : decode cX5_goOn 11 = .ok (.aload_n 0, 1) := by decide +kernel
theorem dX5_goOn_12 : decode cX5_goOn 12 = .ok (.getfield 123, 3) := by decide +kernel
theorem dX5_goOn_15 : decode cX5_goOn 15 = .ok (.if_icmp .ge 74, 3) := by decide +kernel
theorem dX5_goOn_18 : decode cX5_goOn 18 = .ok (.aload_n 0, 1) := by decide +kernel
theorem dX5_goOn_19 : decode cX5_goOn 19 = .ok (.invokevirtual 142, 3) := by decide +kernel
theorem dX5_goOn_22 : decode cX5_goOn 22 = .ok (.pop, 1) := by decide +kernel
theorem dX5_goOn_23 : decode cX5_goOn 23 = .ok (.aload_n 0, 1) := by decide +kernel
theorem dX5_goOn_24 : decode cX5_goOn 24 = .ok (.aload_n 0, 1) := by decide +kernel
theorem dX5_goOn_25 : decode cX5_goOn 25 = .ok (.getfield 136, 3) := by decide +kernel
theorem dX5_goOn_28 : decode cX5_goOn 28 = .ok (.invokevirtual 45, 3) := by decide +kernel
theorem dX5_goOn_31 : decode cX5_goOn 31 = .ok (.ifCond .ne 5, 3) := by decide +kernel
theorem dX5_goOn_34 : decode cX5_goOn 34 = .ok (.iconst (-1), 1) := by decide +kernel
theorem dX5_goOn_35 : decode cX5_goOn 35 = .ok (.ireturn, 1) := by decide +kernel
theorem dX5_goOn_36 : decode cX5_goOn 36 = .ok (.aload_n 0, 1) := by decide +kernel
theorem dX5_goOn_37 : decode cX5_goOn 37 = .ok (.getfield 7, 3) := by decide +kernel
theorem dX5_goOn_40 : decode cX5_goOn 40 = .ok (.sipush 335, 3) := by decide +kernel
theorem dX5_goOn_43 : decode cX5_goOn 43 = .ok (.aload_n 0, 1) := by decide +kernel
theorem dX5_goOn_44 : decode cX5_goOn 44 = .ok (.getfield 136, 3) := by decide +kernel
theorem dX5_goOn_47 : decode cX5_goOn 47 = .ok (.iadd, 1) := by decide +kernel
theorem dX5_goOn_48 : decode cX5_goOn 48 = .ok (.iload_n 1, 1) := by decide +kernel
theorem dX5_goOn_49 : decode cX5_goOn 49 = .ok (.ifCond .eq 10, 3) := by decide +kernel
theorem dX5_goOn_52 : decode cX5_goOn 52 = .ok (.aload_n 0, 1) := by decide +kernel
theorem dX5_goOn_53 : decode cX5_goOn 53 = .ok (.getfield 139, 3) := by decide +kernel
theorem dX5_goOn_56 : decode cX5_goOn 56 = .ok (.goto 16, 3) := by decide +kernel
theorem dX5_goOn_59 : decode cX5_goOn 59 = .ok (.aload_n 0, 1) := by decide +kernel
theorem dX5_goOn_60 : decode cX5_goOn 60 = .ok (.getfield 7, 3) := by decide +kernel
theorem dX5_goOn_63 : decode cX5_goOn 63 = .ok (.sipush 335, 3) := by decide +kernel
theorem dX5_goOn_66 : decode cX5_goOn 66 = .ok (.aload_n 0, 1) := by decide +kernel
theorem dX5_goOn_67 : decode cX5_goOn 67 = .ok (.getfield 136, 3) := by decide +kernel
theorem dX5_goOn_70 : decode cX5_goOn 70 = .ok (.iadd, 1) := by decide +kernel
theorem dX5_goOn_71 : decode cX5_goOn 71 = .ok (.iaload, 1) := by decide +kernel
theorem dX5_goOn_72 : decode cX5_goOn 72 = .ok (.iastore, 1) := by decide +kernel
theorem dX5_goOn_73 : decode cX5_goOn 73 = .ok (.iinc 2 1, 3) := by decide +kernel
theorem dX5_goOn_76 : decode cX5_goOn 76 = .ok (.aload_n 0, 1) := by decide +kernel
theorem dX5_goOn_77 : decode cX5_goOn 77 = .ok (.dup, 1) := by decide +kernel
theorem dX5_goOn_78 : decode cX5_goOn 78 = .ok (.getfield 126, 3) := by decide +kernel
theorem dX5_goOn_81 : decode cX5_goOn 81 = .ok (.iconst 1, 1) := by decide +kernel
theorem dX5_goOn_82 : decode cX5_goOn 82 = .ok (.iadd, 1) := by decide +kernel
theorem dX5_goOn_83 : decode cX5_goOn 83 = .ok (.putfield 126, 3) := by decide +kernel
theorem dX5_goOn_86 : decode cX5_goOn 86 = .ok (.goto (-79), 3) := by decide +kernel
theorem dX5_goOn_89 : decode cX5_goOn 89 = .ok (.iload_n 2, 1) := by decide +kernel
theorem dX5_goOn_90 : decode cX5_goOn 90 = .ok (.ireturn, 1) := by decide +kernel
theorem dX5_readWinds_0 : decode cX5_readWinds 0 = .ok (.aload_n 0, 1) := by decide +kernel
theorem dX5_readWinds_1 : decode cX5_readWinds 1 = .ok (.invokevirtual 146, 3) := by decide +kernel
theorem dX5_readWinds_4 : decode cX5_readWinds 4 = .ok (.istore_n 1, 1) := by decide +kernel
theorem dX5_readWinds_5 : decode cX5_readWinds 5 = .ok (.iload_n 1, 1) := by decide +kernel
theorem dX5_readWinds_6 : decode cX5_readWinds 6 = .ok (.ifCond .lt 8, 3) := by decide +kernel
theorem dX5_readWinds_9 : decode cX5_readWinds 9 = .ok (.bipush (-100), 2) := by decide +kernel
theorem dX5_readWinds_11 : decode cX5_readWinds 11 = .ok (.iload_n 1, 1) := by decide +kernel
theorem dX5_readWinds_12 : decode cX5_readWinds 12 = .ok (.isub, 1) := by decide +kernel
theorem dX5_readWinds_13 : decode cX5_readWinds 13 = .ok (.ireturn, 1) := by decide +kernel
theorem dX5_readWinds_14 : decode cX5_readWinds 14 = .ok (.aload_n 0, 1) := by decide +kernel
theorem dX5_readWinds_15 : decode cX5_readWinds 15 = .ok (.iconst 0, 1) := by decide +kernel
theorem dX5_readWinds_16 : decode cX5_readWinds 16 = .ok (.invokevirtual 149, 3) := by decide +kernel
theorem dX5_readWinds_19 : decode cX5_readWinds 19 = .ok (.ifCond .ge 5, 3) := by decide +kernel
theorem dX5_readWinds_22 : decode cX5_readWinds 22 = .ok (.iconst (-1), 1) := by decide +kernel
theorem dX5_readWinds_23 : decode cX5_readWinds 23 = .ok (.ireturn, 1) := by decide +kernel
theorem dX5_readWinds_24 : decode cX5_readWinds 24 = .ok (.aload_n 0, 1) := by decide +kernel
theorem dX5_readWinds_25 : decode cX5_readWinds 25 = .ok (.invokevirtual 35, 3) := by decide +kernel
theorem dX5_readWinds_28 : decode cX5_readWinds 28 = .ok (.aload_n 0, 1) := by decide +kernel
theorem dX5_readWinds_29 : decode cX5_readWinds 29 = .ok (.iconst 1, 1) := by decide +kernel
theorem dX5_readWinds_30 : decode cX5_readWinds 30 = .ok (.invokevirtual 149, 3) := by decide +kernel
theorem dX5_readWinds_33 : decode cX5_readWinds 33 = .ok (.ireturn, 1) := by decide +kernel
theorem dX5_bears_0 : decode cX5_bears 0 = .ok (.aload_n 0, 1) := by decide +kernel
theorem dX5_bears_1 : decode cX5_bears 1 = .ok (.iload_n 1, 1) := by decide +kernel
theorem dX5_bears_2 : decode cX5_bears 2 = .ok (.invokevirtual 59, 3) := by decide +kernel
theorem dX5_bears_5 : decode cX5_bears 5 = .ok (.ifCond .ne 5, 3) := by decide +kernel
theorem dX5_bears_8 : decode cX5_bears 8 = .ok (.iconst (-1), 1) := by decide +kernel
theorem dX5_bears_9 : decode cX5_bears 9 = .ok (.ireturn, 1) := by decide +kernel
theorem dX5_bears_10 : decode cX5_bears 10 = .ok (.iload_n 2, 1) := by decide +kernel
theorem dX5_bears_11 : decode cX5_bears 11 = .ok (.iconst 2, 1) := by decide +kernel
theorem dX5_bears_12 : decode cX5_bears 12 = .ok (.bipush 60, 2) := by decide +kernel
theorem dX5_bears_14 : decode cX5_bears 14 = .ok (.invokestatic 20, 3) := by decide +kernel
theorem dX5_bears_17 : decode cX5_bears 17 = .ok (.ifCond .eq 30, 3) := by decide +kernel
theorem dX5_bears_20 : decode cX5_bears 20 = .ok (.aload_n 0, 1) := by decide +kernel
theorem dX5_bears_21 : decode cX5_bears 21 = .ok (.getfield 7, 3) := by decide +kernel
theorem dX5_bears_24 : decode cX5_bears 24 = .ok (.iload_n 1, 1) := by decide +kernel
theorem dX5_bears_25 : decode cX5_bears 25 = .ok (.iconst 0, 1) := by decide +kernel
theorem dX5_bears_26 : decode cX5_bears 26 = .ok (.invokestatic 38, 3) := by decide +kernel
theorem dX5_bears_29 : decode cX5_bears 29 = .ok (.iaload, 1) := by decide +kernel
theorem dX5_bears_30 : decode cX5_bears 30 = .ok (.aload_n 0, 1) := by decide +kernel
theorem dX5_bears_31 : decode cX5_bears 31 = .ok (.getfield 7, 3) := by decide +kernel
theorem dX5_bears_34 : decode cX5_bears 34 = .ok (.iload_n 1, 1) := by decide +kernel
theorem dX5_bears_35 : decode cX5_bears 35 = .ok (.iconst 1, 1) := by decide +kernel
theorem dX5_bears_36 : decode cX5_bears 36 = .ok (.invokestatic 38, 3) := by decide +kernel
theorem dX5_bears_39 : decode cX5_bears 39 = .ok (.iaload, 1) := by decide +kernel
theorem dX5_bears_40 : decode cX5_bears 40 = .ok (.iload_n 2, 1) := by decide +kernel
theorem dX5_bears_41 : decode cX5_bears 41 = .ok (.invokestatic 49, 3) := by decide +kernel
theorem dX5_bears_44 : decode cX5_bears 44 = .ok (.goto 5, 3) := by decide +kernel
theorem dX5_bears_47 : decode cX5_bears 47 = .ok (.bipush (-2), 2) := by decide +kernel
theorem dX5_bears_49 : decode cX5_bears 49 = .ok (.ireturn, 1) := by decide +kernel
theorem dX5_willBear_0 : decode cX5_willBear 0 = .ok (.aload_n 0, 1) := by decide +kernel
theorem dX5_willBear_1 : decode cX5_willBear 1 = .ok (.iload_n 1, 1) := by decide +kernel
theorem dX5_willBear_2 : decode cX5_willBear 2 = .ok (.invokevirtual 59, 3) := by decide +kernel
theorem dX5_willBear_5 : decode cX5_willBear 5 = .ok (.ifCond .eq 11, 3) := by decide +kernel
theorem dX5_willBear_8 : decode cX5_willBear 8 = .ok (.aload_n 0, 1) := by decide +kernel
theorem dX5_willBear_9 : decode cX5_willBear 9 = .ok (.iload_n 3, 1) := by decide +kernel
theorem dX5_willBear_10 : decode cX5_willBear 10 = .ok (.invokevirtual 45, 3) := by decide +kernel
theorem dX5_willBear_13 : decode cX5_willBear 13 = .ok (.ifCond .ne 5, 3) := by decide +kernel
theorem dX5_willBear_16 : decode cX5_willBear 16 = .ok (.iconst (-1), 1) := by decide +kernel
theorem dX5_willBear_17 : decode cX5_willBear 17 = .ok (.ireturn, 1) := by decide +kernel
theorem dX5_willBear_18 : decode cX5_willBear 18 = .ok (.iload_n 2, 1) := by decide +kernel
theorem dX5_willBear_19 : decode cX5_willBear 19 = .ok (.iconst 2, 1) := by decide +kernel
theorem dX5_willBear_20 : decode cX5_willBear 20 = .ok (.bipush 60, 2) := by decide +kernel
theorem dX5_willBear_22 : decode cX5_willBear 22 = .ok (.invokestatic 20, 3) := by decide +kernel
theorem dX5_willBear_25 : decode cX5_willBear 25 = .ok (.ifCond .ne 6, 3) := by decide +kernel
theorem dX5_willBear_28 : decode cX5_willBear 28 = .ok (.bipush (-2), 2) := by decide +kernel
theorem dX5_willBear_30 : decode cX5_willBear 30 = .ok (.ireturn, 1) := by decide +kernel
theorem dX5_willBear_31 : decode cX5_willBear 31 = .ok (.aload_n 0, 1) := by decide +kernel
theorem dX5_willBear_32 : decode cX5_willBear 32 = .ok (.iconst 0, 1) := by decide +kernel
theorem dX5_willBear_33 : decode cX5_willBear 33 = .ok (.sipush 3210, 3) := by decide +kernel
theorem dX5_willBear_36 : decode cX5_willBear 36 = .ok (.invokevirtual 27, 3) := by decide +kernel
theorem dX5_willBear_39 : decode cX5_willBear 39 = .ok (.aload_n 0, 1) := by decide +kernel
theorem dX5_willBear_40 : decode cX5_willBear 40 = .ok (.getfield 7, 3) := by decide +kernel
theorem dX5_willBear_43 : decode cX5_willBear 43 = .ok (.iconst 0, 1) := by decide +kernel
theorem dX5_willBear_44 : decode cX5_willBear 44 = .ok (.iaload, 1) := by decide +kernel
theorem dX5_willBear_45 : decode cX5_willBear 45 = .ok (.istore 4, 2) := by decide +kernel
theorem dX5_willBear_47 : decode cX5_willBear 47 = .ok (.iload 4, 2) := by decide +kernel
theorem dX5_willBear_49 : decode cX5_willBear 49 = .ok (.iload_n 3, 1) := by decide +kernel
theorem dX5_willBear_50 : decode cX5_willBear 50 = .ok (.if_icmp .gt 52, 3) := by decide +kernel
theorem dX5_willBear_53 : decode cX5_willBear 53 = .ok (.iconst 0, 1) := by decide +kernel
theorem dX5_willBear_54 : decode cX5_willBear 54 = .ok (.istore 5, 2) := by decide +kernel
theorem dX5_willBear_56 : decode cX5_willBear 56 = .ok (.iload 5, 2) := by decide +kernel
theorem dX5_willBear_58 : decode cX5_willBear 58 = .ok (.aload_n 0, 1) := by decide +kernel
theorem dX5_willBear_59 : decode cX5_willBear 59 = .ok (.getfield 7, 3) := by decide +kernel
theorem dX5_willBear_62 : decode cX5_willBear 62 = .ok (.iconst 4, 1) := by decide +kernel
theorem dX5_willBear_63 : decode cX5_willBear 63 = .ok (.iaload, 1) := by decide +kernel
theorem dX5_willBear_64 : decode cX5_willBear 64 = .ok (.if_icmp .ge 32, 3) := by decide +kernel
theorem dX5_willBear_67 : decode cX5_willBear 67 = .ok (.aload_n 0, 1) := by decide +kernel
theorem dX5_willBear_68 : decode cX5_willBear 68 = .ok (.getfield 7, 3) := by decide +kernel
theorem dX5_willBear_71 : decode cX5_willBear 71 = .ok (.iload 5, 2) := by decide +kernel
theorem dX5_willBear_73 : decode cX5_willBear 73 = .ok (.iconst 4, 1) := by decide +kernel
theorem dX5_willBear_74 : decode cX5_willBear 74 = .ok (.invokestatic 88, 3) := by decide +kernel
theorem dX5_willBear_77 : decode cX5_willBear 77 = .ok (.iaload, 1) := by decide +kernel
theorem dX5_willBear_78 : decode cX5_willBear 78 = .ok (.iload 4, 2) := by decide +kernel
theorem dX5_willBear_80 : decode cX5_willBear 80 = .ok (.if_icmp .ne 10, 3) := by decide +kernel
theorem dX5_willBear_83 : decode cX5_willBear 83 = .ok (.aload_n 0, 1) := by decide +kernel
theorem dX5_willBear_84 : decode cX5_willBear 84 = .ok (.iload 5, 2) := by decide +kernel
theorem dX5_willBear_86 : decode cX5_willBear 86 = .ok (.invokevirtual 98, 3) := by decide +kernel
theorem dX5_willBear_89 : decode cX5_willBear 89 = .ok (.pop, 1) := by decide +kernel
theorem dX5_willBear_90 : decode cX5_willBear 90 = .ok (.iinc 5 1, 3) := by decide +kernel
theorem dX5_willBear_93 : decode cX5_willBear 93 = .ok (.goto (-37), 3) := by decide +kernel
theorem dX5_willBear_96 : decode cX5_willBear 96 = .ok (.iinc 4 1, 3) := by decide +kernel
theorem dX5_willBear_99 : decode cX5_willBear 99 = .ok (.goto (-52), 3) := by decide +kernel
theorem dX5_willBear_102 : decode cX5_willBear 102 = .ok (.aload_n 0, 1) := by decide +kernel
theorem dX5_willBear_103 : decode cX5_willBear 103 = .ok (.getfield 7, 3) := by decide +kernel
theorem dX5_willBear_106 : decode cX5_willBear 106 = .ok (.iload_n 1, 1) := by decide +kernel
theorem dX5_willBear_107 : decode cX5_willBear 107 = .ok (.iconst 0, 1) := by decide +kernel
theorem dX5_willBear_108 : decode cX5_willBear 108 = .ok (.invokestatic 38, 3) := by decide +kernel
theorem dX5_willBear_111 : decode cX5_willBear 111 = .ok (.iaload, 1) := by decide +kernel
theorem dX5_willBear_112 : decode cX5_willBear 112 = .ok (.aload_n 0, 1) := by decide +kernel
theorem dX5_willBear_113 : decode cX5_willBear 113 = .ok (.getfield 7, 3) := by decide +kernel
theorem dX5_willBear_116 : decode cX5_willBear 116 = .ok (.iload_n 1, 1) := by decide +kernel
theorem dX5_willBear_117 : decode cX5_willBear 117 = .ok (.iconst 1, 1) := by decide +kernel
theorem dX5_willBear_118 : decode cX5_willBear 118 = .ok (.invokestatic 38, 3) := by decide +kernel
theorem dX5_willBear_121 : decode cX5_willBear 121 = .ok (.iaload, 1) := by decide +kernel
theorem dX5_willBear_122 : decode cX5_willBear 122 = .ok (.iload_n 2, 1) := by decide +kernel
theorem dX5_willBear_123 : decode cX5_willBear 123 = .ok (.invokestatic 49, 3) := by decide +kernel
theorem dX5_willBear_126 : decode cX5_willBear 126 = .ok (.istore 4, 2) := by decide +kernel
theorem dX5_willBear_128 : decode cX5_willBear 128 = .ok (.aload_n 0, 1) := by decide +kernel
theorem dX5_willBear_129 : decode cX5_willBear 129 = .ok (.sipush 3210, 3) := by decide +kernel
theorem dX5_willBear_132 : decode cX5_willBear 132 = .ok (.iconst 0, 1) := by decide +kernel
theorem dX5_willBear_133 : decode cX5_willBear 133 = .ok (.invokevirtual 27, 3) := by decide +kernel
theorem dX5_willBear_136 : decode cX5_willBear 136 = .ok (.iload 4, 2) := by decide +kernel
theorem dX5_willBear_138 : decode cX5_willBear 138 = .ok (.ireturn, 1) := by decide +kernel
theorem dX5_windLimit_0 : decode cX5_windLimit 0 = .ok (.iload_n 1, 1) := by decide +kernel
theorem dX5_windLimit_1 : decode cX5_windLimit 1 = .ok (.iload_n 2, 1) := by decide +kernel
theorem dX5_windLimit_2 : decode cX5_windLimit 2 = .ok (.invokestatic 62, 3) := by decide +kernel
theorem dX5_windLimit_5 : decode cX5_windLimit 5 = .ok (.ifCond .eq 11, 3) := by decide +kernel
theorem dX5_windLimit_8 : decode cX5_windLimit 8 = .ok (.iload_n 1, 1) := by decide +kernel
theorem dX5_windLimit_9 : decode cX5_windLimit 9 = .ok (.iload_n 2, 1) := by decide +kernel
theorem dX5_windLimit_10 : decode cX5_windLimit 10 = .ok (.invokestatic 104, 3) := by decide +kernel
theorem dX5_windLimit_13 : decode cX5_windLimit 13 = .ok (.goto 5, 3) := by decide +kernel
theorem dX5_windLimit_16 : decode cX5_windLimit 16 = .ok (.bipush (-2), 2) := by decide +kernel
theorem dX5_windLimit_18 : decode cX5_windLimit 18 = .ok (.ireturn, 1) := by decide +kernel
theorem dX5_bookingsOf_0 : decode cX5_bookingsOf 0 = .ok (.iconst 0, 1) := by decide +kernel
theorem dX5_bookingsOf_1 : decode cX5_bookingsOf 1 = .ok (.istore 4, 2) := by decide +kernel
theorem dX5_bookingsOf_3 : decode cX5_bookingsOf 3 = .ok (.iconst 0, 1) := by decide +kernel
theorem dX5_bookingsOf_4 : decode cX5_bookingsOf 4 = .ok (.istore 5, 2) := by decide +kernel
theorem dX5_bookingsOf_6 : decode cX5_bookingsOf 6 = .ok (.iload 5, 2) := by decide +kernel
theorem dX5_bookingsOf_8 : decode cX5_bookingsOf 8 = .ok (.aload_n 0, 1) := by decide +kernel
theorem dX5_bookingsOf_9 : decode cX5_bookingsOf 9 = .ok (.getfield 7, 3) := by decide +kernel
theorem dX5_bookingsOf_12 : decode cX5_bookingsOf 12 = .ok (.iconst 3, 1) := by decide +kernel
theorem dX5_bookingsOf_13 : decode cX5_bookingsOf 13 = .ok (.iaload, 1) := by decide +kernel
theorem dX5_bookingsOf_14 : decode cX5_bookingsOf 14 = .ok (.if_icmp .ge 49, 3) := by decide +kernel
theorem dX5_bookingsOf_17 : decode cX5_bookingsOf 17 = .ok (.iload 4, 2) := by decide +kernel
theorem dX5_bookingsOf_19 : decode cX5_bookingsOf 19 = .ok (.aload_n 0, 1) := by decide +kernel
theorem dX5_bookingsOf_20 : decode cX5_bookingsOf 20 = .ok (.getfield 7, 3) := by decide +kernel
theorem dX5_bookingsOf_23 : decode cX5_bookingsOf 23 = .ok (.iload 5, 2) := by decide +kernel
theorem dX5_bookingsOf_25 : decode cX5_bookingsOf 25 = .ok (.iload_n 1, 1) := by decide +kernel
theorem dX5_bookingsOf_26 : decode cX5_bookingsOf 26 = .ok (.invokestatic 53, 3) := by decide +kernel
theorem dX5_bookingsOf_29 : decode cX5_bookingsOf 29 = .ok (.iaload, 1) := by decide +kernel
theorem dX5_bookingsOf_30 : decode cX5_bookingsOf 30 = .ok (.iload_n 2, 1) := by decide +kernel
theorem dX5_bookingsOf_31 : decode cX5_bookingsOf 31 = .ok (.if_icmp .ne 22, 3) := by decide +kernel
theorem dX5_bookingsOf_34 : decode cX5_bookingsOf 34 = .ok (.aload_n 0, 1) := by decide +kernel
theorem dX5_bookingsOf_35 : decode cX5_bookingsOf 35 = .ok (.getfield 7, 3) := by decide +kernel
theorem dX5_bookingsOf_38 : decode cX5_bookingsOf 38 = .ok (.iload 5, 2) := by decide +kernel
theorem dX5_bookingsOf_40 : decode cX5_bookingsOf 40 = .ok (.iconst 5, 1) := by decide +kernel
theorem dX5_bookingsOf_41 : decode cX5_bookingsOf 41 = .ok (.invokestatic 53, 3) := by decide +kernel
theorem dX5_bookingsOf_44 : decode cX5_bookingsOf 44 = .ok (.iaload, 1) := by decide +kernel
theorem dX5_bookingsOf_45 : decode cX5_bookingsOf 45 = .ok (.iload_n 3, 1) := by decide +kernel
theorem dX5_bookingsOf_46 : decode cX5_bookingsOf 46 = .ok (.if_icmp .ne 7, 3) := by decide +kernel
theorem dX5_bookingsOf_49 : decode cX5_bookingsOf 49 = .ok (.iconst 1, 1) := by decide +kernel
theorem dX5_bookingsOf_50 : decode cX5_bookingsOf 50 = .ok (.goto 4, 3) := by decide +kernel
theorem dX5_bookingsOf_53 : decode cX5_bookingsOf 53 = .ok (.iconst 0, 1) := by decide +kernel
theorem dX5_bookingsOf_54 : decode cX5_bookingsOf 54 = .ok (.iadd, 1) := by decide +kernel
theorem dX5_bookingsOf_55 : decode cX5_bookingsOf 55 = .ok (.istore 4, 2) := by decide +kernel
theorem dX5_bookingsOf_57 : decode cX5_bookingsOf 57 = .ok (.iinc 5 1, 3) := by decide +kernel
theorem dX5_bookingsOf_60 : decode cX5_bookingsOf 60 = .ok (.goto (-54), 3) := by decide +kernel
theorem dX5_bookingsOf_63 : decode cX5_bookingsOf 63 = .ok (.iload 4, 2) := by decide +kernel
theorem dX5_bookingsOf_65 : decode cX5_bookingsOf 65 = .ok (.ireturn, 1) := by decide +kernel
theorem dX5_movesOf_0 : decode cX5_movesOf 0 = .ok (.iconst 0, 1) := by decide +kernel
theorem dX5_movesOf_1 : decode cX5_movesOf 1 = .ok (.istore_n 3, 1) := by decide +kernel
theorem dX5_movesOf_2 : decode cX5_movesOf 2 = .ok (.iconst 0, 1) := by decide +kernel
theorem dX5_movesOf_3 : decode cX5_movesOf 3 = .ok (.istore 4, 2) := by decide +kernel
theorem dX5_movesOf_5 : decode cX5_movesOf 5 = .ok (.iload 4, 2) := by decide +kernel
theorem dX5_movesOf_7 : decode cX5_movesOf 7 = .ok (.aload_n 0, 1) := by decide +kernel
theorem dX5_movesOf_8 : decode cX5_movesOf 8 = .ok (.getfield 7, 3) := by decide +kernel
theorem dX5_movesOf_11 : decode cX5_movesOf 11 = .ok (.iconst 4, 1) := by decide +kernel
theorem dX5_movesOf_12 : decode cX5_movesOf 12 = .ok (.iaload, 1) := by decide +kernel
theorem dX5_movesOf_13 : decode cX5_movesOf 13 = .ok (.if_icmp .ge 32, 3) := by decide +kernel
theorem dX5_movesOf_16 : decode cX5_movesOf 16 = .ok (.iload_n 3, 1) := by decide +kernel
theorem dX5_movesOf_17 : decode cX5_movesOf 17 = .ok (.aload_n 0, 1) := by decide +kernel
theorem dX5_movesOf_18 : decode cX5_movesOf 18 = .ok (.getfield 7, 3) := by decide +kernel
theorem dX5_movesOf_21 : decode cX5_movesOf 21 = .ok (.iload 4, 2) := by decide +kernel
theorem dX5_movesOf_23 : decode cX5_movesOf 23 = .ok (.iload_n 1, 1) := by decide +kernel
theorem dX5_movesOf_24 : decode cX5_movesOf 24 = .ok (.invokestatic 88, 3) := by decide +kernel
theorem dX5_movesOf_27 : decode cX5_movesOf 27 = .ok (.iaload, 1) := by decide +kernel
theorem dX5_movesOf_28 : decode cX5_movesOf 28 = .ok (.iload_n 2, 1) := by decide +kernel
theorem dX5_movesOf_29 : decode cX5_movesOf 29 = .ok (.if_icmp .ne 7, 3) := by decide +kernel
theorem dX5_movesOf_32 : decode cX5_movesOf 32 = .ok (.iconst 1, 1) := by decide +kernel
theorem dX5_movesOf_33 : decode cX5_movesOf 33 = .ok (.goto 4, 3) := by decide +kernel
theorem dX5_movesOf_36 : decode cX5_movesOf 36 = .ok (.iconst 0, 1) := by decide +kernel
theorem dX5_movesOf_37 : decode cX5_movesOf 37 = .ok (.iadd, 1) := by decide +kernel
theorem dX5_movesOf_38 : decode cX5_movesOf 38 = .ok (.istore_n 3, 1) := by decide +kernel
theorem dX5_movesOf_39 : decode cX5_movesOf 39 = .ok (.iinc 4 1, 3) := by decide +kernel
theorem dX5_movesOf_42 : decode cX5_movesOf 42 = .ok (.goto (-37), 3) := by decide +kernel
theorem dX5_movesOf_45 : decode cX5_movesOf 45 = .ok (.iload_n 3, 1) := by decide +kernel
theorem dX5_movesOf_46 : decode cX5_movesOf 46 = .ok (.ireturn, 1) := by decide +kernel
theorem dX5_machine_0 : decode cX5_machine 0 = .ok (.aload_n 0, 1) := by decide +kernel
theorem dX5_machine_1 : decode cX5_machine 1 = .ok (.iload_n 1, 1) := by decide +kernel
theorem dX5_machine_2 : decode cX5_machine 2 = .ok (.invokevirtual 59, 3) := by decide +kernel
theorem dX5_machine_5 : decode cX5_machine 5 = .ok (.ifCond .ne 5, 3) := by decide +kernel
theorem dX5_machine_8 : decode cX5_machine 8 = .ok (.iconst (-1), 1) := by decide +kernel
theorem dX5_machine_9 : decode cX5_machine 9 = .ok (.ireturn, 1) := by decide +kernel
theorem dX5_machine_10 : decode cX5_machine 10 = .ok (.iload_n 2, 1) := by decide +kernel
theorem dX5_machine_11 : decode cX5_machine 11 = .ok (.tableswitch 116 0 6 #[41, 41, 52, 60, 67, 74, 105], 41) := by decide +kernel
theorem dX5_machine_52 : decode cX5_machine 52 = .ok (.aload_n 0, 1) := by decide +kernel
theorem dX5_machine_53 : decode cX5_machine 53 = .ok (.getfield 7, 3) := by decide +kernel
theorem dX5_machine_56 : decode cX5_machine 56 = .ok (.iload_n 1, 1) := by decide +kernel
theorem dX5_machine_57 : decode cX5_machine 57 = .ok (.iload_n 2, 1) := by decide +kernel
theorem dX5_machine_58 : decode cX5_machine 58 = .ok (.invokestatic 38, 3) := by decide +kernel
theorem dX5_machine_61 : decode cX5_machine 61 = .ok (.iaload, 1) := by decide +kernel
theorem dX5_machine_62 : decode cX5_machine 62 = .ok (.ireturn, 1) := by decide +kernel
theorem dX5_machine_63 : decode cX5_machine 63 = .ok (.aload_n 0, 1) := by decide +kernel
theorem dX5_machine_64 : decode cX5_machine 64 = .ok (.iconst 1, 1) := by decide +kernel
theorem dX5_machine_65 : decode cX5_machine 65 = .ok (.iload_n 1, 1) := by decide +kernel
theorem dX5_machine_66 : decode cX5_machine 66 = .ok (.iconst 0, 1) := by decide +kernel
theorem dX5_machine_67 : decode cX5_machine 67 = .ok (.invokevirtual 153, 3) := by decide +kernel
theorem dX5_machine_70 : decode cX5_machine 70 = .ok (.ireturn, 1) := by decide +kernel
theorem dX5_machine_71 : decode cX5_machine 71 = .ok (.aload_n 0, 1) := by decide +kernel
theorem dX5_machine_72 : decode cX5_machine 72 = .ok (.iconst 1, 1) := by decide +kernel
theorem dX5_machine_73 : decode cX5_machine 73 = .ok (.iload_n 1, 1) := by decide +kernel
theorem dX5_machine_74 : decode cX5_machine 74 = .ok (.invokevirtual 156, 3) := by decide +kernel
theorem dX5_machine_77 : decode cX5_machine 77 = .ok (.ireturn, 1) := by decide +kernel
theorem dX5_machine_78 : decode cX5_machine 78 = .ok (.aload_n 0, 1) := by decide +kernel
theorem dX5_machine_79 : decode cX5_machine 79 = .ok (.iconst 2, 1) := by decide +kernel
theorem dX5_machine_80 : decode cX5_machine 80 = .ok (.iload_n 1, 1) := by decide +kernel
theorem dX5_machine_81 : decode cX5_machine 81 = .ok (.invokevirtual 156, 3) := by decide +kernel
theorem dX5_machine_84 : decode cX5_machine 84 = .ok (.ireturn, 1) := by decide +kernel
theorem dX5_machine_85 : decode cX5_machine 85 = .ok (.aload_n 0, 1) := by decide +kernel
theorem dX5_machine_86 : decode cX5_machine 86 = .ok (.getfield 7, 3) := by decide +kernel
theorem dX5_machine_89 : decode cX5_machine 89 = .ok (.iload_n 1, 1) := by decide +kernel
theorem dX5_machine_90 : decode cX5_machine 90 = .ok (.iconst 2, 1) := by decide +kernel
theorem dX5_machine_91 : decode cX5_machine 91 = .ok (.invokestatic 38, 3) := by decide +kernel
theorem dX5_machine_94 : decode cX5_machine 94 = .ok (.iaload, 1) := by decide +kernel
theorem dX5_machine_95 : decode cX5_machine 95 = .ok (.ifCond .ne 8, 3) := by decide +kernel
theorem dX5_machine_98 : decode cX5_machine 98 = .ok (.bipush (-5), 2) := by decide +kernel
theorem dX5_machine_100 : decode cX5_machine 100 = .ok (.goto 15, 3) := by decide +kernel
theorem dX5_machine_103 : decode cX5_machine 103 = .ok (.aload_n 0, 1) := by decide +kernel
theorem dX5_machine_104 : decode cX5_machine 104 = .ok (.getfield 7, 3) := by decide +kernel
theorem dX5_machine_107 : decode cX5_machine 107 = .ok (.iload_n 1, 1) := by decide +kernel
theorem dX5_machine_108 : decode cX5_machine 108 = .ok (.iconst 2, 1) := by decide +kernel
theorem dX5_machine_109 : decode cX5_machine 109 = .ok (.invokestatic 38, 3) := by decide +kernel
theorem dX5_machine_112 : decode cX5_machine 112 = .ok (.iaload, 1) := by decide +kernel
theorem dX5_machine_113 : decode cX5_machine 113 = .ok (.iconst 1, 1) := by decide +kernel
theorem dX5_machine_114 : decode cX5_machine 114 = .ok (.isub, 1) := by decide +kernel
theorem dX5_machine_115 : decode cX5_machine 115 = .ok (.ireturn, 1) := by decide +kernel
theorem dX5_machine_116 : decode cX5_machine 116 = .ok (.aload_n 0, 1) := by decide +kernel
theorem dX5_machine_117 : decode cX5_machine 117 = .ok (.getfield 7, 3) := by decide +kernel
theorem dX5_machine_120 : decode cX5_machine 120 = .ok (.iload_n 1, 1) := by decide +kernel
theorem dX5_machine_121 : decode cX5_machine 121 = .ok (.iconst 3, 1) := by decide +kernel
theorem dX5_machine_122 : decode cX5_machine 122 = .ok (.invokestatic 38, 3) := by decide +kernel
theorem dX5_machine_125 : decode cX5_machine 125 = .ok (.iaload, 1) := by decide +kernel
theorem dX5_machine_126 : decode cX5_machine 126 = .ok (.ireturn, 1) := by decide +kernel
theorem dX5_machine_127 : decode cX5_machine 127 = .ok (.bipush (-2), 2) := by decide +kernel
theorem dX5_machine_129 : decode cX5_machine 129 = .ok (.ireturn, 1) := by decide +kernel
theorem dX5_member_0 : decode cX5_member 0 = .ok (.aload_n 0, 1) := by decide +kernel
theorem dX5_member_1 : decode cX5_member 1 = .ok (.iload_n 1, 1) := by decide +kernel
theorem dX5_member_2 : decode cX5_member 2 = .ok (.invokevirtual 56, 3) := by decide +kernel
theorem dX5_member_5 : decode cX5_member 5 = .ok (.ifCond .ne 5, 3) := by decide +kernel
theorem dX5_member_8 : decode cX5_member 8 = .ok (.iconst (-1), 1) := by decide +kernel
theorem dX5_member_9 : decode cX5_member 9 = .ok (.ireturn, 1) := by decide +kernel
theorem dX5_member_10 : decode cX5_member 10 = .ok (.iload_n 2, 1) := by decide +kernel
theorem dX5_member_11 : decode cX5_member 11 = .ok (.tableswitch 80 0 6 #[41, 52, 52, 52, 52, 62, 73], 41) := by decide +kernel
theorem dX5_member_52 : decode cX5_member 52 = .ok (.aload_n 0, 1) := by decide +kernel
theorem dX5_member_53 : decode cX5_member 53 = .ok (.getfield 7, 3) := by decide +kernel
theorem dX5_member_56 : decode cX5_member 56 = .ok (.iload_n 1, 1) := by decide +kernel
theorem dX5_member_57 : decode cX5_member 57 = .ok (.iconst 0, 1) := by decide +kernel
theorem dX5_member_58 : decode cX5_member 58 = .ok (.invokestatic 42, 3) := by decide +kernel
theorem dX5_member_61 : decode cX5_member 61 = .ok (.iaload, 1) := by decide +kernel
theorem dX5_member_62 : decode cX5_member 62 = .ok (.ireturn, 1) := by decide +kernel
theorem dX5_member_63 : decode cX5_member 63 = .ok (.aload_n 0, 1) := by decide +kernel
theorem dX5_member_64 : decode cX5_member 64 = .ok (.iconst 0, 1) := by decide +kernel
theorem dX5_member_65 : decode cX5_member 65 = .ok (.iload_n 1, 1) := by decide +kernel
theorem dX5_member_66 : decode cX5_member 66 = .ok (.iload_n 2, 1) := by decide +kernel
theorem dX5_member_67 : decode cX5_member 67 = .ok (.iconst 1, 1) := by decide +kernel
theorem dX5_member_68 : decode cX5_member 68 = .ok (.isub, 1) := by decide +kernel
theorem dX5_member_69 : decode cX5_member 69 = .ok (.invokevirtual 153, 3) := by decide +kernel
theorem dX5_member_72 : decode cX5_member 72 = .ok (.ireturn, 1) := by decide +kernel
theorem dX5_member_73 : decode cX5_member 73 = .ok (.aload_n 0, 1) := by decide +kernel
theorem dX5_member_74 : decode cX5_member 74 = .ok (.getfield 7, 3) := by decide +kernel
theorem dX5_member_77 : decode cX5_member 77 = .ok (.iload_n 1, 1) := by decide +kernel
theorem dX5_member_78 : decode cX5_member 78 = .ok (.iconst 1, 1) := by decide +kernel
theorem dX5_member_79 : decode cX5_member 79 = .ok (.invokestatic 42, 3) := by decide +kernel
theorem dX5_member_82 : decode cX5_member 82 = .ok (.iaload, 1) := by decide +kernel
theorem dX5_member_83 : decode cX5_member 83 = .ok (.ireturn, 1) := by decide +kernel
theorem dX5_member_84 : decode cX5_member 84 = .ok (.aload_n 0, 1) := by decide +kernel
theorem dX5_member_85 : decode cX5_member 85 = .ok (.iconst 0, 1) := by decide +kernel
theorem dX5_member_86 : decode cX5_member 86 = .ok (.iload_n 1, 1) := by decide +kernel
theorem dX5_member_87 : decode cX5_member 87 = .ok (.invokevirtual 156, 3) := by decide +kernel
theorem dX5_member_90 : decode cX5_member 90 = .ok (.ireturn, 1) := by decide +kernel
theorem dX5_member_91 : decode cX5_member 91 = .ok (.bipush (-2), 2) := by decide +kernel
theorem dX5_member_93 : decode cX5_member 93 = .ok (.ireturn, 1) := by decide +kernel
theorem dX5_booking_0 : decode cX5_booking 0 = .ok (.aload_n 0, 1) := by decide +kernel
theorem dX5_booking_1 : decode cX5_booking 1 = .ok (.iload_n 1, 1) := by decide +kernel
theorem dX5_booking_2 : decode cX5_booking 2 = .ok (.invokevirtual 76, 3) := by decide +kernel
theorem dX5_booking_5 : decode cX5_booking 5 = .ok (.ifCond .ne 5, 3) := by decide +kernel
theorem dX5_booking_8 : decode cX5_booking 8 = .ok (.iconst (-1), 1) := by decide +kernel
theorem dX5_booking_9 : decode cX5_booking 9 = .ok (.ireturn, 1) := by decide +kernel
theorem dX5_booking_10 : decode cX5_booking 10 = .ok (.iload_n 2, 1) := by decide +kernel
theorem dX5_booking_11 : decode cX5_booking 11 = .ok (.iconst 0, 1) := by decide +kernel
theorem dX5_booking_12 : decode cX5_booking 12 = .ok (.bipush 7, 2) := by decide +kernel
theorem dX5_booking_14 : decode cX5_booking 14 = .ok (.invokestatic 20, 3) := by decide +kernel
theorem dX5_booking_17 : decode cX5_booking 17 = .ok (.ifCond .eq 16, 3) := by decide +kernel
theorem dX5_booking_20 : decode cX5_booking 20 = .ok (.aload_n 0, 1) := by decide +kernel
theorem dX5_booking_21 : decode cX5_booking 21 = .ok (.getfield 7, 3) := by decide +kernel
theorem dX5_booking_24 : decode cX5_booking 24 = .ok (.iload_n 1, 1) := by decide +kernel
theorem dX5_booking_25 : decode cX5_booking 25 = .ok (.iload_n 2, 1) := by decide +kernel
theorem dX5_booking_26 : decode cX5_booking 26 = .ok (.invokestatic 53, 3) := by decide +kernel
theorem dX5_booking_29 : decode cX5_booking 29 = .ok (.iaload, 1) := by decide +kernel
theorem dX5_booking_30 : decode cX5_booking 30 = .ok (.goto 37, 3) := by decide +kernel
theorem dX5_booking_33 : decode cX5_booking 33 = .ok (.iload_n 2, 1) := by decide +kernel
theorem dX5_booking_34 : decode cX5_booking 34 = .ok (.bipush 8, 2) := by decide +kernel
theorem dX5_booking_36 : decode cX5_booking 36 = .ok (.if_icmp .ne 29, 3) := by decide +kernel
theorem dX5_booking_39 : decode cX5_booking 39 = .ok (.aload_n 0, 1) := by decide +kernel
theorem dX5_booking_40 : decode cX5_booking 40 = .ok (.getfield 7, 3) := by decide +kernel
theorem dX5_booking_43 : decode cX5_booking 43 = .ok (.iload_n 1, 1) := by decide +kernel
theorem dX5_booking_44 : decode cX5_booking 44 = .ok (.iconst 3, 1) := by decide +kernel
theorem dX5_booking_45 : decode cX5_booking 45 = .ok (.invokestatic 53, 3) := by decide +kernel
theorem dX5_booking_48 : decode cX5_booking 48 = .ok (.iaload, 1) := by decide +kernel
theorem dX5_booking_49 : decode cX5_booking 49 = .ok (.aload_n 0, 1) := by decide +kernel
theorem dX5_booking_50 : decode cX5_booking 50 = .ok (.getfield 7, 3) := by decide +kernel
theorem dX5_booking_53 : decode cX5_booking 53 = .ok (.iload_n 1, 1) := by decide +kernel
theorem dX5_booking_54 : decode cX5_booking 54 = .ok (.iconst 4, 1) := by decide +kernel
theorem dX5_booking_55 : decode cX5_booking 55 = .ok (.invokestatic 53, 3) := by decide +kernel
theorem dX5_booking_58 : decode cX5_booking 58 = .ok (.iaload, 1) := by decide +kernel
theorem dX5_booking_59 : decode cX5_booking 59 = .ok (.invokestatic 104, 3) := by decide +kernel
theorem dX5_booking_62 : decode cX5_booking 62 = .ok (.goto 5, 3) := by decide +kernel
theorem dX5_booking_65 : decode cX5_booking 65 = .ok (.bipush (-2), 2) := by decide +kernel
theorem dX5_booking_67 : decode cX5_booking 67 = .ok (.ireturn, 1) := by decide +kernel
theorem dX5_move_0 : decode cX5_move 0 = .ok (.aload_n 0, 1) := by decide +kernel
theorem dX5_move_1 : decode cX5_move 1 = .ok (.iload_n 1, 1) := by decide +kernel
theorem dX5_move_2 : decode cX5_move 2 = .ok (.invokevirtual 91, 3) := by decide +kernel
theorem dX5_move_5 : decode cX5_move 5 = .ok (.ifCond .ne 5, 3) := by decide +kernel
theorem dX5_move_8 : decode cX5_move 8 = .ok (.iconst (-1), 1) := by decide +kernel
theorem dX5_move_9 : decode cX5_move 9 = .ok (.ireturn, 1) := by decide +kernel
theorem dX5_move_10 : decode cX5_move 10 = .ok (.iload_n 2, 1) := by decide +kernel
theorem dX5_move_11 : decode cX5_move 11 = .ok (.iconst 0, 1) := by decide +kernel
theorem dX5_move_12 : decode cX5_move 12 = .ok (.iconst 4, 1) := by decide +kernel
theorem dX5_move_13 : decode cX5_move 13 = .ok (.invokestatic 20, 3) := by decide +kernel
theorem dX5_move_16 : decode cX5_move 16 = .ok (.ifCond .eq 16, 3) := by decide +kernel
theorem dX5_move_19 : decode cX5_move 19 = .ok (.aload_n 0, 1) := by decide +kernel
theorem dX5_move_20 : decode cX5_move 20 = .ok (.getfield 7, 3) := by decide +kernel
theorem dX5_move_23 : decode cX5_move 23 = .ok (.iload_n 1, 1) := by decide +kernel
theorem dX5_move_24 : decode cX5_move 24 = .ok (.iload_n 2, 1) := by decide +kernel
theorem dX5_move_25 : decode cX5_move 25 = .ok (.invokestatic 88, 3) := by decide +kernel
theorem dX5_move_28 : decode cX5_move 28 = .ok (.iaload, 1) := by decide +kernel
theorem dX5_move_29 : decode cX5_move 29 = .ok (.goto 5, 3) := by decide +kernel
theorem dX5_move_32 : decode cX5_move 32 = .ok (.bipush (-2), 2) := by decide +kernel
theorem dX5_move_34 : decode cX5_move 34 = .ok (.ireturn, 1) := by decide +kernel
theorem dX5_bookedAt_0 : decode cX5_bookedAt 0 = .ok (.aload_n 0, 1) := by decide +kernel
theorem dX5_bookedAt_1 : decode cX5_bookedAt 1 = .ok (.iload_n 1, 1) := by decide +kernel
theorem dX5_bookedAt_2 : decode cX5_bookedAt 2 = .ok (.invokevirtual 59, 3) := by decide +kernel
theorem dX5_bookedAt_5 : decode cX5_bookedAt 5 = .ok (.ifCond .eq 23, 3) := by decide +kernel
theorem dX5_bookedAt_8 : decode cX5_bookedAt 8 = .ok (.iload_n 2, 1) := by decide +kernel
theorem dX5_bookedAt_9 : decode cX5_bookedAt 9 = .ok (.iconst 0, 1) := by decide +kernel
theorem dX5_bookedAt_10 : decode cX5_bookedAt 10 = .ok (.sipush 199, 3) := by decide +kernel
theorem dX5_bookedAt_13 : decode cX5_bookedAt 13 = .ok (.invokestatic 20, 3) := by decide +kernel
theorem dX5_bookedAt_16 : decode cX5_bookedAt 16 = .ok (.ifCond .eq 12, 3) := by decide +kernel
theorem dX5_bookedAt_19 : decode cX5_bookedAt 19 = .ok (.aload_n 0, 1) := by decide +kernel
theorem dX5_bookedAt_20 : decode cX5_bookedAt 20 = .ok (.iload_n 1, 1) := by decide +kernel
theorem dX5_bookedAt_21 : decode cX5_bookedAt 21 = .ok (.iload_n 2, 1) := by decide +kernel
theorem dX5_bookedAt_22 : decode cX5_bookedAt 22 = .ok (.invokevirtual 69, 3) := by decide +kernel
theorem dX5_bookedAt_25 : decode cX5_bookedAt 25 = .ok (.goto 4, 3) := by decide +kernel
theorem dX5_bookedAt_28 : decode cX5_bookedAt 28 = .ok (.iconst (-1), 1) := by decide +kernel
theorem dX5_bookedAt_29 : decode cX5_bookedAt 29 = .ok (.ireturn, 1) := by decide +kernel
theorem dX5_machineFor_0 : decode cX5_machineFor 0 = .ok (.aload_n 0, 1) := by decide +kernel
theorem dX5_machineFor_1 : decode cX5_machineFor 1 = .ok (.iload_n 1, 1) := by decide +kernel
theorem dX5_machineFor_2 : decode cX5_machineFor 2 = .ok (.invokevirtual 45, 3) := by decide +kernel
theorem dX5_machineFor_5 : decode cX5_machineFor 5 = .ok (.ifCond .ne 5, 3) := by decide +kernel
theorem dX5_machineFor_8 : decode cX5_machineFor 8 = .ok (.iconst (-1), 1) := by decide +kernel
theorem dX5_machineFor_9 : decode cX5_machineFor 9 = .ok (.ireturn, 1) := by decide +kernel
theorem dX5_machineFor_10 : decode cX5_machineFor 10 = .ok (.iload_n 2, 1) := by decide +kernel
theorem dX5_machineFor_11 : decode cX5_machineFor 11 = .ok (.iload_n 3, 1) := by decide +kernel
theorem dX5_machineFor_12 : decode cX5_machineFor 12 = .ok (.invokestatic 62, 3) := by decide +kernel
theorem dX5_machineFor_15 : decode cX5_machineFor 15 = .ok (.ifCond .ne 6, 3) := by decide +kernel
theorem dX5_machineFor_18 : decode cX5_machineFor 18 = .ok (.bipush (-2), 2) := by decide +kernel
theorem dX5_machineFor_20 : decode cX5_machineFor 20 = .ok (.ireturn, 1) := by decide +kernel
theorem dX5_machineFor_21 : decode cX5_machineFor 21 = .ok (.iconst 0, 1) := by decide +kernel
theorem dX5_machineFor_22 : decode cX5_machineFor 22 = .ok (.istore 4, 2) := by decide +kernel
theorem dX5_machineFor_24 : decode cX5_machineFor 24 = .ok (.iload 4, 2) := by decide +kernel
theorem dX5_machineFor_26 : decode cX5_machineFor 26 = .ok (.aload_n 0, 1) := by decide +kernel
theorem dX5_machineFor_27 : decode cX5_machineFor 27 = .ok (.getfield 7, 3) := by decide +kernel
theorem dX5_machineFor_30 : decode cX5_machineFor 30 = .ok (.iconst 1, 1) := by decide +kernel
theorem dX5_machineFor_31 : decode cX5_machineFor 31 = .ok (.iaload, 1) := by decide +kernel
theorem dX5_machineFor_32 : decode cX5_machineFor 32 = .ok (.if_icmp .ge 35, 3) := by decide +kernel
theorem dX5_machineFor_35 : decode cX5_machineFor 35 = .ok (.aload_n 0, 1) := by decide +kernel
theorem dX5_machineFor_36 : decode cX5_machineFor 36 = .ok (.iload 4, 2) := by decide +kernel
theorem dX5_machineFor_38 : decode cX5_machineFor 38 = .ok (.iload_n 2, 1) := by decide +kernel
theorem dX5_machineFor_39 : decode cX5_machineFor 39 = .ok (.iload_n 3, 1) := by decide +kernel
theorem dX5_machineFor_40 : decode cX5_machineFor 40 = .ok (.invokevirtual 66, 3) := by decide +kernel
theorem dX5_machineFor_43 : decode cX5_machineFor 43 = .ok (.ifCond .eq 18, 3) := by decide +kernel
theorem dX5_machineFor_46 : decode cX5_machineFor 46 = .ok (.aload_n 0, 1) := by decide +kernel
theorem dX5_machineFor_47 : decode cX5_machineFor 47 = .ok (.iload 4, 2) := by decide +kernel
theorem dX5_machineFor_49 : decode cX5_machineFor 49 = .ok (.iload_n 1, 1) := by decide +kernel
theorem dX5_machineFor_50 : decode cX5_machineFor 50 = .ok (.invokevirtual 69, 3) := by decide +kernel
theorem dX5_machineFor_53 : decode cX5_machineFor 53 = .ok (.bipush (-5), 2) := by decide +kernel
theorem dX5_machineFor_55 : decode cX5_machineFor 55 = .ok (.if_icmp .ne 6, 3) := by decide +kernel
theorem dX5_machineFor_58 : decode cX5_machineFor 58 = .ok (.iload 4, 2) := by decide +kernel
theorem dX5_machineFor_60 : decode cX5_machineFor 60 = .ok (.ireturn, 1) := by decide +kernel
theorem dX5_machineFor_61 : decode cX5_machineFor 61 = .ok (.iinc 4 1, 3) := by decide +kernel
theorem dX5_machineFor_64 : decode cX5_machineFor 64 = .ok (.goto (-40), 3) := by decide +kernel
theorem dX5_machineFor_67 : decode cX5_machineFor 67 = .ok (.bipush (-5), 2) := by decide +kernel
theorem dX5_machineFor_69 : decode cX5_machineFor 69 = .ok (.ireturn, 1) := by decide +kernel
theorem dX5_fate_0 : decode cX5_fate 0 = .ok (.aload_n 0, 1) := by decide +kernel
theorem dX5_fate_1 : decode cX5_fate 1 = .ok (.iload_n 1, 1) := by decide +kernel
theorem dX5_fate_2 : decode cX5_fate 2 = .ok (.invokevirtual 76, 3) := by decide +kernel
theorem dX5_fate_5 : decode cX5_fate 5 = .ok (.ifCond .ne 5, 3) := by decide +kernel
theorem dX5_fate_8 : decode cX5_fate 8 = .ok (.iconst (-1), 1) := by decide +kernel
theorem dX5_fate_9 : decode cX5_fate 9 = .ok (.ireturn, 1) := by decide +kernel
theorem dX5_fate_10 : decode cX5_fate 10 = .ok (.aload_n 0, 1) := by decide +kernel
theorem dX5_fate_11 : decode cX5_fate 11 = .ok (.iload_n 1, 1) := by decide +kernel
theorem dX5_fate_12 : decode cX5_fate 12 = .ok (.invokevirtual 79, 3) := by decide +kernel
theorem dX5_fate_15 : decode cX5_fate 15 = .ok (.ifCond .ne 6, 3) := by decide +kernel
theorem dX5_fate_18 : decode cX5_fate 18 = .ok (.bipush (-4), 2) := by decide +kernel
theorem dX5_fate_20 : decode cX5_fate 20 = .ok (.ireturn, 1) := by decide +kernel
theorem dX5_fate_21 : decode cX5_fate 21 = .ok (.aload_n 0, 1) := by decide +kernel
theorem dX5_fate_22 : decode cX5_fate 22 = .ok (.getfield 7, 3) := by decide +kernel
theorem dX5_fate_25 : decode cX5_fate 25 = .ok (.iload_n 1, 1) := by decide +kernel
theorem dX5_fate_26 : decode cX5_fate 26 = .ok (.iconst 2, 1) := by decide +kernel
theorem dX5_fate_27 : decode cX5_fate 27 = .ok (.invokestatic 53, 3) := by decide +kernel
theorem dX5_fate_30 : decode cX5_fate 30 = .ok (.iaload, 1) := by decide +kernel
theorem dX5_fate_31 : decode cX5_fate 31 = .ok (.istore_n 2, 1) := by decide +kernel
theorem dX5_fate_32 : decode cX5_fate 32 = .ok (.aload_n 0, 1) := by decide +kernel
theorem dX5_fate_33 : decode cX5_fate 33 = .ok (.iconst 0, 1) := by decide +kernel
theorem dX5_fate_34 : decode cX5_fate 34 = .ok (.sipush 3210, 3) := by decide +kernel
theorem dX5_fate_37 : decode cX5_fate 37 = .ok (.invokevirtual 27, 3) := by decide +kernel
theorem dX5_fate_40 : decode cX5_fate 40 = .ok (.aload_n 0, 1) := by decide +kernel
theorem dX5_fate_41 : decode cX5_fate 41 = .ok (.iload_n 1, 1) := by decide +kernel
theorem dX5_fate_42 : decode cX5_fate 42 = .ok (.putfield 16, 3) := by decide +kernel
theorem dX5_fate_45 : decode cX5_fate 45 = .ok (.aload_n 0, 1) := by decide +kernel
theorem dX5_fate_46 : decode cX5_fate 46 = .ok (.getfield 7, 3) := by decide +kernel
theorem dX5_fate_49 : decode cX5_fate 49 = .ok (.iconst 0, 1) := by decide +kernel
theorem dX5_fate_50 : decode cX5_fate 50 = .ok (.iaload, 1) := by decide +kernel
theorem dX5_fate_51 : decode cX5_fate 51 = .ok (.iload_n 2, 1) := by decide +kernel
theorem dX5_fate_52 : decode cX5_fate 52 = .ok (.if_icmp .gt 10, 3) := by decide +kernel
theorem dX5_fate_55 : decode cX5_fate 55 = .ok (.aload_n 0, 1) := by decide +kernel
theorem dX5_fate_56 : decode cX5_fate 56 = .ok (.invokevirtual 120, 3) := by decide +kernel
theorem dX5_fate_59 : decode cX5_fate 59 = .ok (.goto (-14), 3) := by decide +kernel
theorem dX5_fate_62 : decode cX5_fate 62 = .ok (.aload_n 0, 1) := by decide +kernel
theorem dX5_fate_63 : decode cX5_fate 63 = .ok (.bipush (-5), 2) := by decide +kernel
theorem dX5_fate_65 : decode cX5_fate 65 = .ok (.putfield 16, 3) := by decide +kernel
theorem dX5_fate_68 : decode cX5_fate 68 = .ok (.aload_n 0, 1) := by decide +kernel
theorem dX5_fate_69 : decode cX5_fate 69 = .ok (.sipush 3210, 3) := by decide +kernel
theorem dX5_fate_72 : decode cX5_fate 72 = .ok (.iconst 0, 1) := by decide +kernel
theorem dX5_fate_73 : decode cX5_fate 73 = .ok (.invokevirtual 27, 3) := by decide +kernel
theorem dX5_fate_76 : decode cX5_fate 76 = .ok (.aload_n 0, 1) := by decide +kernel
theorem dX5_fate_77 : decode cX5_fate 77 = .ok (.getfield 101, 3) := by decide +kernel
theorem dX5_fate_80 : decode cX5_fate 80 = .ok (.ireturn, 1) := by decide +kernel
theorem dX5_wind_0 : decode cX5_wind 0 = .ok (.iload_n 1, 1) := by decide +kernel
theorem dX5_wind_1 : decode cX5_wind 1 = .ok (.iconst 0, 1) := by decide +kernel
theorem dX5_wind_2 : decode cX5_wind 2 = .ok (.sipush 199, 3) := by decide +kernel
theorem dX5_wind_5 : decode cX5_wind 5 = .ok (.invokestatic 20, 3) := by decide +kernel
theorem dX5_wind_8 : decode cX5_wind 8 = .ok (.ifCond .eq 16, 3) := by decide +kernel
theorem dX5_wind_11 : decode cX5_wind 11 = .ok (.aload_n 0, 1) := by decide +kernel
theorem dX5_wind_12 : decode cX5_wind 12 = .ok (.getfield 7, 3) := by decide +kernel
theorem dX5_wind_15 : decode cX5_wind 15 = .ok (.sipush 335, 3) := by decide +kernel
theorem dX5_wind_18 : decode cX5_wind 18 = .ok (.iload_n 1, 1) := by decide +kernel
theorem dX5_wind_19 : decode cX5_wind 19 = .ok (.iadd, 1) := by decide +kernel
theorem dX5_wind_20 : decode cX5_wind 20 = .ok (.iaload, 1) := by decide +kernel
theorem dX5_wind_21 : decode cX5_wind 21 = .ok (.goto 4, 3) := by decide +kernel
theorem dX5_wind_24 : decode cX5_wind 24 = .ok (.iconst (-1), 1) := by decide +kernel
theorem dX5_wind_25 : decode cX5_wind 25 = .ok (.ireturn, 1) := by decide +kernel
theorem dX5_allPaid_0 : decode cX5_allPaid 0 = .ok (.iconst 0, 1) := by decide +kernel
theorem dX5_allPaid_1 : decode cX5_allPaid 1 = .ok (.istore_n 1, 1) := by decide +kernel
theorem dX5_allPaid_2 : decode cX5_allPaid 2 = .ok (.iconst 0, 1) := by decide +kernel
theorem dX5_allPaid_3 : decode cX5_allPaid 3 = .ok (.istore_n 2, 1) := by decide +kernel
theorem dX5_allPaid_4 : decode cX5_allPaid 4 = .ok (.iload_n 2, 1) := by decide +kernel
theorem dX5_allPaid_5 : decode cX5_allPaid 5 = .ok (.aload_n 0, 1) := by decide +kernel
theorem dX5_allPaid_6 : decode cX5_allPaid 6 = .ok (.getfield 7, 3) := by decide +kernel
theorem dX5_allPaid_9 : decode cX5_allPaid 9 = .ok (.iconst 2, 1) := by decide +kernel
theorem dX5_allPaid_10 : decode cX5_allPaid 10 = .ok (.iaload, 1) := by decide +kernel
theorem dX5_allPaid_11 : decode cX5_allPaid 11 = .ok (.if_icmp .ge 22, 3) := by decide +kernel
theorem dX5_allPaid_14 : decode cX5_allPaid 14 = .ok (.iload_n 1, 1) := by decide +kernel
theorem dX5_allPaid_15 : decode cX5_allPaid 15 = .ok (.aload_n 0, 1) := by decide +kernel
theorem dX5_allPaid_16 : decode cX5_allPaid 16 = .ok (.getfield 7, 3) := by decide +kernel
theorem dX5_allPaid_19 : decode cX5_allPaid 19 = .ok (.iload_n 2, 1) := by decide +kernel
theorem dX5_allPaid_20 : decode cX5_allPaid 20 = .ok (.iconst 0, 1) := by decide +kernel
theorem dX5_allPaid_21 : decode cX5_allPaid 21 = .ok (.invokestatic 42, 3) := by decide +kernel
theorem dX5_allPaid_24 : decode cX5_allPaid 24 = .ok (.iaload, 1) := by decide +kernel
theorem dX5_allPaid_25 : decode cX5_allPaid 25 = .ok (.iadd, 1) := by decide +kernel
theorem dX5_allPaid_26 : decode cX5_allPaid 26 = .ok (.istore_n 1, 1) := by decide +kernel
theorem dX5_allPaid_27 : decode cX5_allPaid 27 = .ok (.iinc 2 1, 3) := by decide +kernel
theorem dX5_allPaid_30 : decode cX5_allPaid 30 = .ok (.goto (-26), 3) := by decide +kernel
theorem dX5_allPaid_33 : decode cX5_allPaid 33 = .ok (.iload_n 1, 1) := by decide +kernel
theorem dX5_allPaid_34 : decode cX5_allPaid 34 = .ok (.ireturn, 1) := by decide +kernel
theorem dX5_allBlocks_0 : decode cX5_allBlocks 0 = .ok (.iconst 0, 1) := by decide +kernel
theorem dX5_allBlocks_1 : decode cX5_allBlocks 1 = .ok (.istore_n 1, 1) := by decide +kernel
theorem dX5_allBlocks_2 : decode cX5_allBlocks 2 = .ok (.iconst 0, 1) := by decide +kernel
theorem dX5_allBlocks_3 : decode cX5_allBlocks 3 = .ok (.istore_n 2, 1) := by decide +kernel
theorem dX5_allBlocks_4 : decode cX5_allBlocks 4 = .ok (.iload_n 2, 1) := by decide +kernel
theorem dX5_allBlocks_5 : decode cX5_allBlocks 5 = .ok (.aload_n 0, 1) := by decide +kernel
theorem dX5_allBlocks_6 : decode cX5_allBlocks 6 = .ok (.getfield 7, 3) := by decide +kernel
theorem dX5_allBlocks_9 : decode cX5_allBlocks 9 = .ok (.iconst 1, 1) := by decide +kernel
theorem dX5_allBlocks_10 : decode cX5_allBlocks 10 = .ok (.iaload, 1) := by decide +kernel
theorem dX5_allBlocks_11 : decode cX5_allBlocks 11 = .ok (.if_icmp .ge 22, 3) := by decide +kernel
theorem dX5_allBlocks_14 : decode cX5_allBlocks 14 = .ok (.iload_n 1, 1) := by decide +kernel
theorem dX5_allBlocks_15 : decode cX5_allBlocks 15 = .ok (.aload_n 0, 1) := by decide +kernel
theorem dX5_allBlocks_16 : decode cX5_allBlocks 16 = .ok (.getfield 7, 3) := by decide +kernel
theorem dX5_allBlocks_19 : decode cX5_allBlocks 19 = .ok (.iload_n 2, 1) := by decide +kernel
theorem dX5_allBlocks_20 : decode cX5_allBlocks 20 = .ok (.iconst 1, 1) := by decide +kernel
theorem dX5_allBlocks_21 : decode cX5_allBlocks 21 = .ok (.invokestatic 38, 3) := by decide +kernel
theorem dX5_allBlocks_24 : decode cX5_allBlocks 24 = .ok (.iaload, 1) := by decide +kernel
theorem dX5_allBlocks_25 : decode cX5_allBlocks 25 = .ok (.iadd, 1) := by decide +kernel
theorem dX5_allBlocks_26 : decode cX5_allBlocks 26 = .ok (.istore_n 1, 1) := by decide +kernel
theorem dX5_allBlocks_27 : decode cX5_allBlocks 27 = .ok (.iinc 2 1, 3) := by decide +kernel
theorem dX5_allBlocks_30 : decode cX5_allBlocks 30 = .ok (.goto (-26), 3) := by decide +kernel
theorem dX5_allBlocks_33 : decode cX5_allBlocks 33 = .ok (.iload_n 1, 1) := by decide +kernel
theorem dX5_allBlocks_34 : decode cX5_allBlocks 34 = .ok (.ireturn, 1) := by decide +kernel
theorem dX5_count_0 : decode cX5_count 0 = .ok (.iload_n 1, 1) := by decide +kernel
theorem dX5_count_1 : decode cX5_count 1 = .ok (.tableswitch 143 0 16 #[83, 83, 83, 83, 90, 90, 90, 90, 98, 98, 98, 110, 115, 115, 128, 133, 138], 83) := by decide +kernel
theorem dX5_count_84 : decode cX5_count 84 = .ok (.aload_n 0, 1) := by decide +kernel
theorem dX5_count_85 : decode cX5_count 85 = .ok (.getfield 7, 3) := by decide +kernel
theorem dX5_count_88 : decode cX5_count 88 = .ok (.iload_n 1, 1) := by decide +kernel
theorem dX5_count_89 : decode cX5_count 89 = .ok (.iaload, 1) := by decide +kernel
theorem dX5_count_90 : decode cX5_count 90 = .ok (.ireturn, 1) := by decide +kernel
theorem dX5_count_91 : decode cX5_count 91 = .ok (.aload_n 0, 1) := by decide +kernel
theorem dX5_count_92 : decode cX5_count 92 = .ok (.iload_n 1, 1) := by decide +kernel
theorem dX5_count_93 : decode cX5_count 93 = .ok (.iconst 4, 1) := by decide +kernel
theorem dX5_count_94 : decode cX5_count 94 = .ok (.isub, 1) := by decide +kernel
theorem dX5_count_95 : decode cX5_count 95 = .ok (.invokevirtual 116, 3) := by decide +kernel
theorem dX5_count_98 : decode cX5_count 98 = .ok (.ireturn, 1) := by decide +kernel
theorem dX5_count_99 : decode cX5_count 99 = .ok (.aload_n 0, 1) := by decide +kernel
theorem dX5_count_100 : decode cX5_count 100 = .ok (.getfield 7, 3) := by decide +kernel
theorem dX5_count_103 : decode cX5_count 103 = .ok (.iconst 4, 1) := by decide +kernel
theorem dX5_count_104 : decode cX5_count 104 = .ok (.iload_n 1, 1) := by decide +kernel
theorem dX5_count_105 : decode cX5_count 105 = .ok (.iadd, 1) := by decide +kernel
theorem dX5_count_106 : decode cX5_count 106 = .ok (.bipush 8, 2) := by decide +kernel
theorem dX5_count_108 : decode cX5_count 108 = .ok (.isub, 1) := by decide +kernel
theorem dX5_count_109 : decode cX5_count 109 = .ok (.iaload, 1) := by decide +kernel
theorem dX5_count_110 : decode cX5_count 110 = .ok (.ireturn, 1) := by decide +kernel
theorem dX5_count_111 : decode cX5_count 111 = .ok (.aload_n 0, 1) := by decide +kernel
theorem dX5_count_112 : decode cX5_count 112 = .ok (.invokevirtual 159, 3) := by decide +kernel
theorem dX5_count_115 : decode cX5_count 115 = .ok (.ireturn, 1) := by decide +kernel
theorem dX5_count_116 : decode cX5_count 116 = .ok (.aload_n 0, 1) := by decide +kernel
theorem dX5_count_117 : decode cX5_count 117 = .ok (.getfield 7, 3) := by decide +kernel
theorem dX5_count_120 : decode cX5_count 120 = .ok (.bipush 7, 2) := by decide +kernel
theorem dX5_count_122 : decode cX5_count 122 = .ok (.iload_n 1, 1) := by decide +kernel
theorem dX5_count_123 : decode cX5_count 123 = .ok (.iadd, 1) := by decide +kernel
theorem dX5_count_124 : decode cX5_count 124 = .ok (.bipush 12, 2) := by decide +kernel
theorem dX5_count_126 : decode cX5_count 126 = .ok (.isub, 1) := by decide +kernel
theorem dX5_count_127 : decode cX5_count 127 = .ok (.iaload, 1) := by decide +kernel
theorem dX5_count_128 : decode cX5_count 128 = .ok (.ireturn, 1) := by decide +kernel
theorem dX5_count_129 : decode cX5_count 129 = .ok (.aload_n 0, 1) := by decide +kernel
theorem dX5_count_130 : decode cX5_count 130 = .ok (.invokevirtual 162, 3) := by decide +kernel
theorem dX5_count_133 : decode cX5_count 133 = .ok (.ireturn, 1) := by decide +kernel
theorem dX5_count_134 : decode cX5_count 134 = .ok (.aload_n 0, 1) := by decide +kernel
theorem dX5_count_135 : decode cX5_count 135 = .ok (.getfield 24, 3) := by decide +kernel
theorem dX5_count_138 : decode cX5_count 138 = .ok (.ireturn, 1) := by decide +kernel
theorem dX5_count_139 : decode cX5_count 139 = .ok (.aload_n 0, 1) := by decide +kernel
theorem dX5_count_140 : decode cX5_count 140 = .ok (.getfield 123, 3) := by decide +kernel
theorem dX5_count_143 : decode cX5_count 143 = .ok (.ireturn, 1) := by decide +kernel
theorem dX5_count_144 : decode cX5_count 144 = .ok (.bipush (-2), 2) := by decide +kernel
theorem dX5_count_146 : decode cX5_count 146 = .ok (.ireturn, 1) := by decide +kernel
end
section
theorem dL_law_0 : decode cL_law 0 = .ok (.new 7, 3) := by decide +kernel
theorem dL_law_3 : decode cL_law 3 = .ok (.dup, 1) := by decide +kernel
theorem dL_law_4 : decode cL_law 4 = .ok (.invokespecial 9, 3) := by decide +kernel
theorem dL_law_7 : decode cL_law 7 = .ok (.astore_n 1, 1) := by decide +kernel
theorem dL_law_8 : decode cL_law 8 = .ok (.new 10, 3) := by decide +kernel
theorem dL_law_11 : decode cL_law 11 = .ok (.dup, 1) := by decide +kernel
theorem dL_law_12 : decode cL_law 12 = .ok (.invokespecial 12, 3) := by decide +kernel
theorem dL_law_15 : decode cL_law 15 = .ok (.astore_n 2, 1) := by decide +kernel
theorem dL_law_16 : decode cL_law 16 = .ok (.iconst 0, 1) := by decide +kernel
theorem dL_law_17 : decode cL_law 17 = .ok (.istore_n 3, 1) := by decide +kernel
theorem dL_law_18 : decode cL_law 18 = .ok (.iload_n 3, 1) := by decide +kernel
theorem dL_law_19 : decode cL_law 19 = .ok (.aload_n 0, 1) := by decide +kernel
theorem dL_law_20 : decode cL_law 20 = .ok (.arraylength, 1) := by decide +kernel
theorem dL_law_21 : decode cL_law 21 = .ok (.bipush 6, 2) := by decide +kernel
theorem dL_law_23 : decode cL_law 23 = .ok (.isub, 1) := by decide +kernel
theorem dL_law_24 : decode cL_law 24 = .ok (.if_icmp .gt 921, 3) := by decide +kernel
theorem dL_law_27 : decode cL_law 27 = .ok (.aload_n 0, 1) := by decide +kernel
theorem dL_law_28 : decode cL_law 28 = .ok (.iload_n 3, 1) := by decide +kernel
theorem dL_law_29 : decode cL_law 29 = .ok (.iaload, 1) := by decide +kernel
theorem dL_law_30 : decode cL_law 30 = .ok (.bipush 31, 2) := by decide +kernel
theorem dL_law_32 : decode cL_law 32 = .ok (.iand, 1) := by decide +kernel
theorem dL_law_33 : decode cL_law 33 = .ok (.tableswitch 906 0 26 #[123, 156, 169, 202, 265, 288, 321, 384, 407, 430, 455, 468, 481, 494, 507, 520, 553, 596, 629, 662, 695, 728, 761, 794, 837, 860, 883], 123) := by decide +kernel
theorem dL_law_156 : decode cL_law 156 = .ok (.aload_n 1, 1) := by decide +kernel
theorem dL_law_157 : decode cL_law 157 = .ok (.aload_n 0, 1) := by decide +kernel
theorem dL_law_158 : decode cL_law 158 = .ok (.iload_n 3, 1) := by decide +kernel
theorem dL_law_159 : decode cL_law 159 = .ok (.iconst 1, 1) := by decide +kernel
theorem dL_law_160 : decode cL_law 160 = .ok (.iadd, 1) := by decide +kernel
theorem dL_law_161 : decode cL_law 161 = .ok (.iaload, 1) := by decide +kernel
theorem dL_law_162 : decode cL_law 162 = .ok (.aload_n 0, 1) := by decide +kernel
theorem dL_law_163 : decode cL_law 163 = .ok (.iload_n 3, 1) := by decide +kernel
theorem dL_law_164 : decode cL_law 164 = .ok (.iconst 2, 1) := by decide +kernel
theorem dL_law_165 : decode cL_law 165 = .ok (.iadd, 1) := by decide +kernel
theorem dL_law_166 : decode cL_law 166 = .ok (.iaload, 1) := by decide +kernel
theorem dL_law_167 : decode cL_law 167 = .ok (.invokevirtual 13, 3) := by decide +kernel
theorem dL_law_170 : decode cL_law 170 = .ok (.aload_n 2, 1) := by decide +kernel
theorem dL_law_171 : decode cL_law 171 = .ok (.aload_n 0, 1) := by decide +kernel
theorem dL_law_172 : decode cL_law 172 = .ok (.iload_n 3, 1) := by decide +kernel
theorem dL_law_173 : decode cL_law 173 = .ok (.iconst 1, 1) := by decide +kernel
theorem dL_law_174 : decode cL_law 174 = .ok (.iadd, 1) := by decide +kernel
theorem dL_law_175 : decode cL_law 175 = .ok (.iaload, 1) := by decide +kernel
theorem dL_law_176 : decode cL_law 176 = .ok (.aload_n 0, 1) := by decide +kernel
theorem dL_law_177 : decode cL_law 177 = .ok (.iload_n 3, 1) := by decide +kernel
theorem dL_law_178 : decode cL_law 178 = .ok (.iconst 2, 1) := by decide +kernel
theorem dL_law_179 : decode cL_law 179 = .ok (.iadd, 1) := by decide +kernel
theorem dL_law_180 : decode cL_law 180 = .ok (.iaload, 1) := by decide +kernel
theorem dL_law_181 : decode cL_law 181 = .ok (.invokevirtual 17, 3) := by decide +kernel
theorem dL_law_184 : decode cL_law 184 = .ok (.if_icmp .eq 755, 3) := by decide +kernel
theorem dL_law_187 : decode cL_law 187 = .ok (.iconst 0, 1) := by decide +kernel
theorem dL_law_188 : decode cL_law 188 = .ok (.ireturn, 1) := by decide +kernel
theorem dL_law_189 : decode cL_law 189 = .ok (.aload_n 1, 1) := by decide +kernel
theorem dL_law_190 : decode cL_law 190 = .ok (.invokevirtual 18, 3) := by decide +kernel
theorem dL_law_193 : decode cL_law 193 = .ok (.aload_n 2, 1) := by decide +kernel
theorem dL_law_194 : decode cL_law 194 = .ok (.invokevirtual 22, 3) := by decide +kernel
theorem dL_law_197 : decode cL_law 197 = .ok (.if_icmp .eq 742, 3) := by decide +kernel
theorem dL_law_200 : decode cL_law 200 = .ok (.iconst 0, 1) := by decide +kernel
theorem dL_law_201 : decode cL_law 201 = .ok (.ireturn, 1) := by decide +kernel
theorem dL_law_202 : decode cL_law 202 = .ok (.aload_n 1, 1) := by decide +kernel
theorem dL_law_203 : decode cL_law 203 = .ok (.aload_n 0, 1) := by decide +kernel
theorem dL_law_204 : decode cL_law 204 = .ok (.iload_n 3, 1) := by decide +kernel
theorem dL_law_205 : decode cL_law 205 = .ok (.iconst 1, 1) := by decide +kernel
theorem dL_law_206 : decode cL_law 206 = .ok (.iadd, 1) := by decide +kernel
theorem dL_law_207 : decode cL_law 207 = .ok (.iaload, 1) := by decide +kernel
theorem dL_law_208 : decode cL_law 208 = .ok (.aload_n 0, 1) := by decide +kernel
theorem dL_law_209 : decode cL_law 209 = .ok (.iload_n 3, 1) := by decide +kernel
theorem dL_law_210 : decode cL_law 210 = .ok (.iconst 2, 1) := by decide +kernel
theorem dL_law_211 : decode cL_law 211 = .ok (.iadd, 1) := by decide +kernel
theorem dL_law_212 : decode cL_law 212 = .ok (.iaload, 1) := by decide +kernel
theorem dL_law_213 : decode cL_law 213 = .ok (.invokevirtual 23, 3) := by decide +kernel
theorem dL_law_216 : decode cL_law 216 = .ok (.aload_n 2, 1) := by decide +kernel
theorem dL_law_217 : decode cL_law 217 = .ok (.aload_n 0, 1) := by decide +kernel
theorem dL_law_218 : decode cL_law 218 = .ok (.iload_n 3, 1) := by decide +kernel
theorem dL_law_219 : decode cL_law 219 = .ok (.iconst 1, 1) := by decide +kernel
theorem dL_law_220 : decode cL_law 220 = .ok (.iadd, 1) := by decide +kernel
theorem dL_law_221 : decode cL_law 221 = .ok (.iaload, 1) := by decide +kernel
theorem dL_law_222 : decode cL_law 222 = .ok (.aload_n 0, 1) := by decide +kernel
theorem dL_law_223 : decode cL_law 223 = .ok (.iload_n 3, 1) := by decide +kernel
theorem dL_law_224 : decode cL_law 224 = .ok (.iconst 2, 1) := by decide +kernel
theorem dL_law_225 : decode cL_law 225 = .ok (.iadd, 1) := by decide +kernel
theorem dL_law_226 : decode cL_law 226 = .ok (.iaload, 1) := by decide +kernel
theorem dL_law_227 : decode cL_law 227 = .ok (.invokevirtual 26, 3) := by decide +kernel
theorem dL_law_230 : decode cL_law 230 = .ok (.if_icmp .eq 709, 3) := by decide +kernel
theorem dL_law_233 : decode cL_law 233 = .ok (.iconst 0, 1) := by decide +kernel
theorem dL_law_234 : decode cL_law 234 = .ok (.ireturn, 1) := by decide +kernel
theorem dL_law_235 : decode cL_law 235 = .ok (.aload_n 1, 1) := by decide +kernel
theorem dL_law_236 : decode cL_law 236 = .ok (.aload_n 0, 1) := by decide +kernel
theorem dL_law_237 : decode cL_law 237 = .ok (.iload_n 3, 1) := by decide +kernel
theorem dL_law_238 : decode cL_law 238 = .ok (.iconst 1, 1) := by decide +kernel
theorem dL_law_239 : decode cL_law 239 = .ok (.iadd, 1) := by decide +kernel
theorem dL_law_240 : decode cL_law 240 = .ok (.iaload, 1) := by decide +kernel
theorem dL_law_241 : decode cL_law 241 = .ok (.aload_n 0, 1) := by decide +kernel
theorem dL_law_242 : decode cL_law 242 = .ok (.iload_n 3, 1) := by decide +kernel
theorem dL_law_243 : decode cL_law 243 = .ok (.iconst 2, 1) := by decide +kernel
theorem dL_law_244 : decode cL_law 244 = .ok (.iadd, 1) := by decide +kernel
theorem dL_law_245 : decode cL_law 245 = .ok (.iaload, 1) := by decide +kernel
theorem dL_law_246 : decode cL_law 246 = .ok (.aload_n 0, 1) := by decide +kernel
theorem dL_law_247 : decode cL_law 247 = .ok (.iload_n 3, 1) := by decide +kernel
theorem dL_law_248 : decode cL_law 248 = .ok (.iconst 3, 1) := by decide +kernel
theorem dL_law_249 : decode cL_law 249 = .ok (.iadd, 1) := by decide +kernel
theorem dL_law_250 : decode cL_law 250 = .ok (.iaload, 1) := by decide +kernel
theorem dL_law_251 : decode cL_law 251 = .ok (.aload_n 0, 1) := by decide +kernel
theorem dL_law_252 : decode cL_law 252 = .ok (.iload_n 3, 1) := by decide +kernel
theorem dL_law_253 : decode cL_law 253 = .ok (.iconst 4, 1) := by decide +kernel
theorem dL_law_254 : decode cL_law 254 = .ok (.iadd, 1) := by decide +kernel
theorem dL_law_255 : decode cL_law 255 = .ok (.iaload, 1) := by decide +kernel
theorem dL_law_256 : decode cL_law 256 = .ok (.aload_n 0, 1) := by decide +kernel
theorem dL_law_257 : decode cL_law 257 = .ok (.iload_n 3, 1) := by decide +kernel
theorem dL_law_258 : decode cL_law 258 = .ok (.iconst 5, 1) := by decide +kernel
theorem dL_law_259 : decode cL_law 259 = .ok (.iadd, 1) := by decide +kernel
theorem dL_law_260 : decode cL_law 260 = .ok (.iaload, 1) := by decide +kernel
theorem dL_law_261 : decode cL_law 261 = .ok (.invokevirtual 27, 3) := by decide +kernel
theorem dL_law_264 : decode cL_law 264 = .ok (.aload_n 2, 1) := by decide +kernel
theorem dL_law_265 : decode cL_law 265 = .ok (.aload_n 0, 1) := by decide +kernel
theorem dL_law_266 : decode cL_law 266 = .ok (.iload_n 3, 1) := by decide +kernel
theorem dL_law_267 : decode cL_law 267 = .ok (.iconst 1, 1) := by decide +kernel
theorem dL_law_268 : decode cL_law 268 = .ok (.iadd, 1) := by decide +kernel
theorem dL_law_269 : decode cL_law 269 = .ok (.iaload, 1) := by decide +kernel
theorem dL_law_270 : decode cL_law 270 = .ok (.aload_n 0, 1) := by decide +kernel
theorem dL_law_271 : decode cL_law 271 = .ok (.iload_n 3, 1) := by decide +kernel
theorem dL_law_272 : decode cL_law 272 = .ok (.iconst 2, 1) := by decide +kernel
theorem dL_law_273 : decode cL_law 273 = .ok (.iadd, 1) := by decide +kernel
theorem dL_law_274 : decode cL_law 274 = .ok (.iaload, 1) := by decide +kernel
theorem dL_law_275 : decode cL_law 275 = .ok (.aload_n 0, 1) := by decide +kernel
theorem dL_law_276 : decode cL_law 276 = .ok (.iload_n 3, 1) := by decide +kernel
theorem dL_law_277 : decode cL_law 277 = .ok (.iconst 3, 1) := by decide +kernel
theorem dL_law_278 : decode cL_law 278 = .ok (.iadd, 1) := by decide +kernel
theorem dL_law_279 : decode cL_law 279 = .ok (.iaload, 1) := by decide +kernel
theorem dL_law_280 : decode cL_law 280 = .ok (.aload_n 0, 1) := by decide +kernel
theorem dL_law_281 : decode cL_law 281 = .ok (.iload_n 3, 1) := by decide +kernel
theorem dL_law_282 : decode cL_law 282 = .ok (.iconst 4, 1) := by decide +kernel
theorem dL_law_283 : decode cL_law 283 = .ok (.iadd, 1) := by decide +kernel
theorem dL_law_284 : decode cL_law 284 = .ok (.iaload, 1) := by decide +kernel
theorem dL_law_285 : decode cL_law 285 = .ok (.aload_n 0, 1) := by decide +kernel
theorem dL_law_286 : decode cL_law 286 = .ok (.iload_n 3, 1) := by decide +kernel
theorem dL_law_287 : decode cL_law 287 = .ok (.iconst 5, 1) := by decide +kernel
theorem dL_law_288 : decode cL_law 288 = .ok (.iadd, 1) := by decide +kernel
theorem dL_law_289 : decode cL_law 289 = .ok (.iaload, 1) := by decide +kernel
theorem dL_law_290 : decode cL_law 290 = .ok (.invokevirtual 31, 3) := by decide +kernel
theorem dL_law_293 : decode cL_law 293 = .ok (.if_icmp .eq 646, 3) := by decide +kernel
theorem dL_law_296 : decode cL_law 296 = .ok (.iconst 0, 1) := by decide +kernel
theorem dL_law_297 : decode cL_law 297 = .ok (.ireturn, 1) := by decide +kernel
theorem dL_law_298 : decode cL_law 298 = .ok (.aload_n 1, 1) := by decide +kernel
theorem dL_law_299 : decode cL_law 299 = .ok (.aload_n 0, 1) := by decide +kernel
theorem dL_law_300 : decode cL_law 300 = .ok (.iload_n 3, 1) := by decide +kernel
theorem dL_law_301 : decode cL_law 301 = .ok (.iconst 1, 1) := by decide +kernel
theorem dL_law_302 : decode cL_law 302 = .ok (.iadd, 1) := by decide +kernel
theorem dL_law_303 : decode cL_law 303 = .ok (.iaload, 1) := by decide +kernel
theorem dL_law_304 : decode cL_law 304 = .ok (.invokevirtual 32, 3) := by decide +kernel
theorem dL_law_307 : decode cL_law 307 = .ok (.aload_n 2, 1) := by decide +kernel
theorem dL_law_308 : decode cL_law 308 = .ok (.aload_n 0, 1) := by decide +kernel
theorem dL_law_309 : decode cL_law 309 = .ok (.iload_n 3, 1) := by decide +kernel
theorem dL_law_310 : decode cL_law 310 = .ok (.iconst 1, 1) := by decide +kernel
theorem dL_law_311 : decode cL_law 311 = .ok (.iadd, 1) := by decide +kernel
theorem dL_law_312 : decode cL_law 312 = .ok (.iaload, 1) := by decide +kernel
theorem dL_law_313 : decode cL_law 313 = .ok (.invokevirtual 36, 3) := by decide +kernel
theorem dL_law_316 : decode cL_law 316 = .ok (.if_icmp .eq 623, 3) := by decide +kernel
theorem dL_law_319 : decode cL_law 319 = .ok (.iconst 0, 1) := by decide +kernel
theorem dL_law_320 : decode cL_law 320 = .ok (.ireturn, 1) := by decide +kernel
theorem dL_law_321 : decode cL_law 321 = .ok (.aload_n 1, 1) := by decide +kernel
theorem dL_law_322 : decode cL_law 322 = .ok (.aload_n 0, 1) := by decide +kernel
theorem dL_law_323 : decode cL_law 323 = .ok (.iload_n 3, 1) := by decide +kernel
theorem dL_law_324 : decode cL_law 324 = .ok (.iconst 1, 1) := by decide +kernel
theorem dL_law_325 : decode cL_law 325 = .ok (.iadd, 1) := by decide +kernel
theorem dL_law_326 : decode cL_law 326 = .ok (.iaload, 1) := by decide +kernel
theorem dL_law_327 : decode cL_law 327 = .ok (.aload_n 0, 1) := by decide +kernel
theorem dL_law_328 : decode cL_law 328 = .ok (.iload_n 3, 1) := by decide +kernel
theorem dL_law_329 : decode cL_law 329 = .ok (.iconst 2, 1) := by decide +kernel
theorem dL_law_330 : decode cL_law 330 = .ok (.iadd, 1) := by decide +kernel
theorem dL_law_331 : decode cL_law 331 = .ok (.iaload, 1) := by decide +kernel
theorem dL_law_332 : decode cL_law 332 = .ok (.invokevirtual 37, 3) := by decide +kernel
theorem dL_law_335 : decode cL_law 335 = .ok (.aload_n 2, 1) := by decide +kernel
theorem dL_law_336 : decode cL_law 336 = .ok (.aload_n 0, 1) := by decide +kernel
theorem dL_law_337 : decode cL_law 337 = .ok (.iload_n 3, 1) := by decide +kernel
theorem dL_law_338 : decode cL_law 338 = .ok (.iconst 1, 1) := by decide +kernel
theorem dL_law_339 : decode cL_law 339 = .ok (.iadd, 1) := by decide +kernel
theorem dL_law_340 : decode cL_law 340 = .ok (.iaload, 1) := by decide +kernel
theorem dL_law_341 : decode cL_law 341 = .ok (.aload_n 0, 1) := by decide +kernel
theorem dL_law_342 : decode cL_law 342 = .ok (.iload_n 3, 1) := by decide +kernel
theorem dL_law_343 : decode cL_law 343 = .ok (.iconst 2, 1) := by decide +kernel
theorem dL_law_344 : decode cL_law 344 = .ok (.iadd, 1) := by decide +kernel
theorem dL_law_345 : decode cL_law 345 = .ok (.iaload, 1) := by decide +kernel
theorem dL_law_346 : decode cL_law 346 = .ok (.invokevirtual 40, 3) := by decide +kernel
theorem dL_law_349 : decode cL_law 349 = .ok (.if_icmp .eq 590, 3) := by decide +kernel
theorem dL_law_352 : decode cL_law 352 = .ok (.iconst 0, 1) := by decide +kernel
theorem dL_law_353 : decode cL_law 353 = .ok (.ireturn, 1) := by decide +kernel
theorem dL_law_354 : decode cL_law 354 = .ok (.aload_n 1, 1) := by decide +kernel
theorem dL_law_355 : decode cL_law 355 = .ok (.aload_n 0, 1) := by decide +kernel
theorem dL_law_356 : decode cL_law 356 = .ok (.iload_n 3, 1) := by decide +kernel
theorem dL_law_357 : decode cL_law 357 = .ok (.iconst 1, 1) := by decide +kernel
theorem dL_law_358 : decode cL_law 358 = .ok (.iadd, 1) := by decide +kernel
theorem dL_law_359 : decode cL_law 359 = .ok (.iaload, 1) := by decide +kernel
theorem dL_law_360 : decode cL_law 360 = .ok (.aload_n 0, 1) := by decide +kernel
theorem dL_law_361 : decode cL_law 361 = .ok (.iload_n 3, 1) := by decide +kernel
theorem dL_law_362 : decode cL_law 362 = .ok (.iconst 2, 1) := by decide +kernel
theorem dL_law_363 : decode cL_law 363 = .ok (.iadd, 1) := by decide +kernel
theorem dL_law_364 : decode cL_law 364 = .ok (.iaload, 1) := by decide +kernel
theorem dL_law_365 : decode cL_law 365 = .ok (.aload_n 0, 1) := by decide +kernel
theorem dL_law_366 : decode cL_law 366 = .ok (.iload_n 3, 1) := by decide +kernel
theorem dL_law_367 : decode cL_law 367 = .ok (.iconst 3, 1) := by decide +kernel
theorem dL_law_368 : decode cL_law 368 = .ok (.iadd, 1) := by decide +kernel
theorem dL_law_369 : decode cL_law 369 = .ok (.iaload, 1) := by decide +kernel
theorem dL_law_370 : decode cL_law 370 = .ok (.aload_n 0, 1) := by decide +kernel
theorem dL_law_371 : decode cL_law 371 = .ok (.iload_n 3, 1) := by decide +kernel
theorem dL_law_372 : decode cL_law 372 = .ok (.iconst 4, 1) := by decide +kernel
theorem dL_law_373 : decode cL_law 373 = .ok (.iadd, 1) := by decide +kernel
theorem dL_law_374 : decode cL_law 374 = .ok (.iaload, 1) := by decide +kernel
theorem dL_law_375 : decode cL_law 375 = .ok (.aload_n 0, 1) := by decide +kernel
theorem dL_law_376 : decode cL_law 376 = .ok (.iload_n 3, 1) := by decide +kernel
theorem dL_law_377 : decode cL_law 377 = .ok (.iconst 5, 1) := by decide +kernel
theorem dL_law_378 : decode cL_law 378 = .ok (.iadd, 1) := by decide +kernel
theorem dL_law_379 : decode cL_law 379 = .ok (.iaload, 1) := by decide +kernel
theorem dL_law_380 : decode cL_law 380 = .ok (.invokevirtual 41, 3) := by decide +kernel
theorem dL_law_383 : decode cL_law 383 = .ok (.aload_n 2, 1) := by decide +kernel
theorem dL_law_384 : decode cL_law 384 = .ok (.aload_n 0, 1) := by decide +kernel
theorem dL_law_385 : decode cL_law 385 = .ok (.iload_n 3, 1) := by decide +kernel
theorem dL_law_386 : decode cL_law 386 = .ok (.iconst 1, 1) := by decide +kernel
theorem dL_law_387 : decode cL_law 387 = .ok (.iadd, 1) := by decide +kernel
theorem dL_law_388 : decode cL_law 388 = .ok (.iaload, 1) := by decide +kernel
theorem dL_law_389 : decode cL_law 389 = .ok (.aload_n 0, 1) := by decide +kernel
theorem dL_law_390 : decode cL_law 390 = .ok (.iload_n 3, 1) := by decide +kernel
theorem dL_law_391 : decode cL_law 391 = .ok (.iconst 2, 1) := by decide +kernel
theorem dL_law_392 : decode cL_law 392 = .ok (.iadd, 1) := by decide +kernel
theorem dL_law_393 : decode cL_law 393 = .ok (.iaload, 1) := by decide +kernel
theorem dL_law_394 : decode cL_law 394 = .ok (.aload_n 0, 1) := by decide +kernel
theorem dL_law_395 : decode cL_law 395 = .ok (.iload_n 3, 1) := by decide +kernel
theorem dL_law_396 : decode cL_law 396 = .ok (.iconst 3, 1) := by decide +kernel
theorem dL_law_397 : decode cL_law 397 = .ok (.iadd, 1) := by decide +kernel
theorem dL_law_398 : decode cL_law 398 = .ok (.iaload, 1) := by decide +kernel
theorem dL_law_399 : decode cL_law 399 = .ok (.aload_n 0, 1) := by decide +kernel
theorem dL_law_400 : decode cL_law 400 = .ok (.iload_n 3, 1) := by decide +kernel
theorem dL_law_401 : decode cL_law 401 = .ok (.iconst 4, 1) := by decide +kernel
theorem dL_law_402 : decode cL_law 402 = .ok (.iadd, 1) := by decide +kernel
theorem dL_law_403 : decode cL_law 403 = .ok (.iaload, 1) := by decide +kernel
theorem dL_law_404 : decode cL_law 404 = .ok (.aload_n 0, 1) := by decide +kernel
theorem dL_law_405 : decode cL_law 405 = .ok (.iload_n 3, 1) := by decide +kernel
theorem dL_law_406 : decode cL_law 406 = .ok (.iconst 5, 1) := by decide +kernel
theorem dL_law_407 : decode cL_law 407 = .ok (.iadd, 1) := by decide +kernel
theorem dL_law_408 : decode cL_law 408 = .ok (.iaload, 1) := by decide +kernel
theorem dL_law_409 : decode cL_law 409 = .ok (.invokevirtual 44, 3) := by decide +kernel
theorem dL_law_412 : decode cL_law 412 = .ok (.if_icmp .eq 527, 3) := by decide +kernel
theorem dL_law_415 : decode cL_law 415 = .ok (.iconst 0, 1) := by decide +kernel
theorem dL_law_416 : decode cL_law 416 = .ok (.ireturn, 1) := by decide +kernel
theorem dL_law_417 : decode cL_law 417 = .ok (.aload_n 1, 1) := by decide +kernel
theorem dL_law_418 : decode cL_law 418 = .ok (.aload_n 0, 1) := by decide +kernel
theorem dL_law_419 : decode cL_law 419 = .ok (.iload_n 3, 1) := by decide +kernel
theorem dL_law_420 : decode cL_law 420 = .ok (.iconst 1, 1) := by decide +kernel
theorem dL_law_421 : decode cL_law 421 = .ok (.iadd, 1) := by decide +kernel
theorem dL_law_422 : decode cL_law 422 = .ok (.iaload, 1) := by decide +kernel
theorem dL_law_423 : decode cL_law 423 = .ok (.invokevirtual 45, 3) := by decide +kernel
theorem dL_law_426 : decode cL_law 426 = .ok (.aload_n 2, 1) := by decide +kernel
theorem dL_law_427 : decode cL_law 427 = .ok (.aload_n 0, 1) := by decide +kernel
theorem dL_law_428 : decode cL_law 428 = .ok (.iload_n 3, 1) := by decide +kernel
theorem dL_law_429 : decode cL_law 429 = .ok (.iconst 1, 1) := by decide +kernel
theorem dL_law_430 : decode cL_law 430 = .ok (.iadd, 1) := by decide +kernel
theorem dL_law_431 : decode cL_law 431 = .ok (.iaload, 1) := by decide +kernel
theorem dL_law_432 : decode cL_law 432 = .ok (.invokevirtual 48, 3) := by decide +kernel
theorem dL_law_435 : decode cL_law 435 = .ok (.if_icmp .eq 504, 3) := by decide +kernel
theorem dL_law_438 : decode cL_law 438 = .ok (.iconst 0, 1) := by decide +kernel
theorem dL_law_439 : decode cL_law 439 = .ok (.ireturn, 1) := by decide +kernel
theorem dL_law_440 : decode cL_law 440 = .ok (.aload_n 1, 1) := by decide +kernel
theorem dL_law_441 : decode cL_law 441 = .ok (.aload_n 0, 1) := by decide +kernel
theorem dL_law_442 : decode cL_law 442 = .ok (.iload_n 3, 1) := by decide +kernel
theorem dL_law_443 : decode cL_law 443 = .ok (.iconst 1, 1) := by decide +kernel
theorem dL_law_444 : decode cL_law 444 = .ok (.iadd, 1) := by decide +kernel
theorem dL_law_445 : decode cL_law 445 = .ok (.iaload, 1) := by decide +kernel
theorem dL_law_446 : decode cL_law 446 = .ok (.invokevirtual 49, 3) := by decide +kernel
theorem dL_law_449 : decode cL_law 449 = .ok (.aload_n 2, 1) := by decide +kernel
theorem dL_law_450 : decode cL_law 450 = .ok (.aload_n 0, 1) := by decide +kernel
theorem dL_law_451 : decode cL_law 451 = .ok (.iload_n 3, 1) := by decide +kernel
theorem dL_law_452 : decode cL_law 452 = .ok (.iconst 1, 1) := by decide +kernel
theorem dL_law_453 : decode cL_law 453 = .ok (.iadd, 1) := by decide +kernel
theorem dL_law_454 : decode cL_law 454 = .ok (.iaload, 1) := by decide +kernel
theorem dL_law_455 : decode cL_law 455 = .ok (.invokevirtual 52, 3) := by decide +kernel
theorem dL_law_458 : decode cL_law 458 = .ok (.if_icmp .eq 481, 3) := by decide +kernel
theorem dL_law_461 : decode cL_law 461 = .ok (.iconst 0, 1) := by decide +kernel
theorem dL_law_462 : decode cL_law 462 = .ok (.ireturn, 1) := by decide +kernel
theorem dL_law_463 : decode cL_law 463 = .ok (.aload_n 1, 1) := by decide +kernel
theorem dL_law_464 : decode cL_law 464 = .ok (.aload_n 0, 1) := by decide +kernel
theorem dL_law_465 : decode cL_law 465 = .ok (.iload_n 3, 1) := by decide +kernel
theorem dL_law_466 : decode cL_law 466 = .ok (.iconst 1, 1) := by decide +kernel
theorem dL_law_467 : decode cL_law 467 = .ok (.iadd, 1) := by decide +kernel
theorem dL_law_468 : decode cL_law 468 = .ok (.iaload, 1) := by decide +kernel
theorem dL_law_469 : decode cL_law 469 = .ok (.i2c, 1) := by decide +kernel
theorem dL_law_470 : decode cL_law 470 = .ok (.invokevirtual 53, 3) := by decide +kernel
theorem dL_law_473 : decode cL_law 473 = .ok (.aload_n 2, 1) := by decide +kernel
theorem dL_law_474 : decode cL_law 474 = .ok (.aload_n 0, 1) := by decide +kernel
theorem dL_law_475 : decode cL_law 475 = .ok (.iload_n 3, 1) := by decide +kernel
theorem dL_law_476 : decode cL_law 476 = .ok (.iconst 1, 1) := by decide +kernel
theorem dL_law_477 : decode cL_law 477 = .ok (.iadd, 1) := by decide +kernel
theorem dL_law_478 : decode cL_law 478 = .ok (.iaload, 1) := by decide +kernel
theorem dL_law_479 : decode cL_law 479 = .ok (.i2c, 1) := by decide +kernel
theorem dL_law_480 : decode cL_law 480 = .ok (.invokevirtual 57, 3) := by decide +kernel
theorem dL_law_483 : decode cL_law 483 = .ok (.if_icmp .eq 456, 3) := by decide +kernel
theorem dL_law_486 : decode cL_law 486 = .ok (.iconst 0, 1) := by decide +kernel
theorem dL_law_487 : decode cL_law 487 = .ok (.ireturn, 1) := by decide +kernel
theorem dL_law_488 : decode cL_law 488 = .ok (.aload_n 1, 1) := by decide +kernel
theorem dL_law_489 : decode cL_law 489 = .ok (.invokevirtual 58, 3) := by decide +kernel
theorem dL_law_492 : decode cL_law 492 = .ok (.aload_n 2, 1) := by decide +kernel
theorem dL_law_493 : decode cL_law 493 = .ok (.invokevirtual 61, 3) := by decide +kernel
theorem dL_law_496 : decode cL_law 496 = .ok (.if_icmp .eq 443, 3) := by decide +kernel
theorem dL_law_499 : decode cL_law 499 = .ok (.iconst 0, 1) := by decide +kernel
theorem dL_law_500 : decode cL_law 500 = .ok (.ireturn, 1) := by decide +kernel
theorem dL_law_501 : decode cL_law 501 = .ok (.aload_n 1, 1) := by decide +kernel
theorem dL_law_502 : decode cL_law 502 = .ok (.invokevirtual 62, 3) := by decide +kernel
theorem dL_law_505 : decode cL_law 505 = .ok (.aload_n 2, 1) := by decide +kernel
theorem dL_law_506 : decode cL_law 506 = .ok (.invokevirtual 65, 3) := by decide +kernel
theorem dL_law_509 : decode cL_law 509 = .ok (.if_icmp .eq 430, 3) := by decide +kernel
theorem dL_law_512 : decode cL_law 512 = .ok (.iconst 0, 1) := by decide +kernel
theorem dL_law_513 : decode cL_law 513 = .ok (.ireturn, 1) := by decide +kernel
theorem dL_law_514 : decode cL_law 514 = .ok (.aload_n 1, 1) := by decide +kernel
theorem dL_law_515 : decode cL_law 515 = .ok (.invokevirtual 66, 3) := by decide +kernel
theorem dL_law_518 : decode cL_law 518 = .ok (.aload_n 2, 1) := by decide +kernel
theorem dL_law_519 : decode cL_law 519 = .ok (.invokevirtual 69, 3) := by decide +kernel
theorem dL_law_522 : decode cL_law 522 = .ok (.if_icmp .eq 417, 3) := by decide +kernel
theorem dL_law_525 : decode cL_law 525 = .ok (.iconst 0, 1) := by decide +kernel
theorem dL_law_526 : decode cL_law 526 = .ok (.ireturn, 1) := by decide +kernel
theorem dL_law_527 : decode cL_law 527 = .ok (.aload_n 1, 1) := by decide +kernel
theorem dL_law_528 : decode cL_law 528 = .ok (.invokevirtual 70, 3) := by decide +kernel
theorem dL_law_531 : decode cL_law 531 = .ok (.aload_n 2, 1) := by decide +kernel
theorem dL_law_532 : decode cL_law 532 = .ok (.invokevirtual 73, 3) := by decide +kernel
theorem dL_law_535 : decode cL_law 535 = .ok (.if_icmp .eq 404, 3) := by decide +kernel
theorem dL_law_538 : decode cL_law 538 = .ok (.iconst 0, 1) := by decide +kernel
theorem dL_law_539 : decode cL_law 539 = .ok (.ireturn, 1) := by decide +kernel
theorem dL_law_540 : decode cL_law 540 = .ok (.aload_n 1, 1) := by decide +kernel
theorem dL_law_541 : decode cL_law 541 = .ok (.invokevirtual 74, 3) := by decide +kernel
theorem dL_law_544 : decode cL_law 544 = .ok (.aload_n 2, 1) := by decide +kernel
theorem dL_law_545 : decode cL_law 545 = .ok (.invokevirtual 77, 3) := by decide +kernel
theorem dL_law_548 : decode cL_law 548 = .ok (.if_icmp .eq 391, 3) := by decide +kernel
theorem dL_law_551 : decode cL_law 551 = .ok (.iconst 0, 1) := by decide +kernel
theorem dL_law_552 : decode cL_law 552 = .ok (.ireturn, 1) := by decide +kernel
theorem dL_law_553 : decode cL_law 553 = .ok (.aload_n 1, 1) := by decide +kernel
theorem dL_law_554 : decode cL_law 554 = .ok (.aload_n 0, 1) := by decide +kernel
theorem dL_law_555 : decode cL_law 555 = .ok (.iload_n 3, 1) := by decide +kernel
theorem dL_law_556 : decode cL_law 556 = .ok (.iconst 1, 1) := by decide +kernel
theorem dL_law_557 : decode cL_law 557 = .ok (.iadd, 1) := by decide +kernel
theorem dL_law_558 : decode cL_law 558 = .ok (.iaload, 1) := by decide +kernel
theorem dL_law_559 : decode cL_law 559 = .ok (.aload_n 0, 1) := by decide +kernel
theorem dL_law_560 : decode cL_law 560 = .ok (.iload_n 3, 1) := by decide +kernel
theorem dL_law_561 : decode cL_law 561 = .ok (.iconst 2, 1) := by decide +kernel
theorem dL_law_562 : decode cL_law 562 = .ok (.iadd, 1) := by decide +kernel
theorem dL_law_563 : decode cL_law 563 = .ok (.iaload, 1) := by decide +kernel
theorem dL_law_564 : decode cL_law 564 = .ok (.invokevirtual 78, 3) := by decide +kernel
theorem dL_law_567 : decode cL_law 567 = .ok (.aload_n 2, 1) := by decide +kernel
theorem dL_law_568 : decode cL_law 568 = .ok (.aload_n 0, 1) := by decide +kernel
theorem dL_law_569 : decode cL_law 569 = .ok (.iload_n 3, 1) := by decide +kernel
theorem dL_law_570 : decode cL_law 570 = .ok (.iconst 1, 1) := by decide +kernel
theorem dL_law_571 : decode cL_law 571 = .ok (.iadd, 1) := by decide +kernel
theorem dL_law_572 : decode cL_law 572 = .ok (.iaload, 1) := by decide +kernel
theorem dL_law_573 : decode cL_law 573 = .ok (.aload_n 0, 1) := by decide +kernel
theorem dL_law_574 : decode cL_law 574 = .ok (.iload_n 3, 1) := by decide +kernel
theorem dL_law_575 : decode cL_law 575 = .ok (.iconst 2, 1) := by decide +kernel
theorem dL_law_576 : decode cL_law 576 = .ok (.iadd, 1) := by decide +kernel
theorem dL_law_577 : decode cL_law 577 = .ok (.iaload, 1) := by decide +kernel
theorem dL_law_578 : decode cL_law 578 = .ok (.invokevirtual 81, 3) := by decide +kernel
theorem dL_law_581 : decode cL_law 581 = .ok (.if_icmp .eq 358, 3) := by decide +kernel
theorem dL_law_584 : decode cL_law 584 = .ok (.iconst 0, 1) := by decide +kernel
theorem dL_law_585 : decode cL_law 585 = .ok (.ireturn, 1) := by decide +kernel
theorem dL_law_586 : decode cL_law 586 = .ok (.aload_n 1, 1) := by decide +kernel
theorem dL_law_587 : decode cL_law 587 = .ok (.aload_n 0, 1) := by decide +kernel
theorem dL_law_588 : decode cL_law 588 = .ok (.iload_n 3, 1) := by decide +kernel
theorem dL_law_589 : decode cL_law 589 = .ok (.iconst 1, 1) := by decide +kernel
theorem dL_law_590 : decode cL_law 590 = .ok (.iadd, 1) := by decide +kernel
theorem dL_law_591 : decode cL_law 591 = .ok (.iaload, 1) := by decide +kernel
theorem dL_law_592 : decode cL_law 592 = .ok (.aload_n 0, 1) := by decide +kernel
theorem dL_law_593 : decode cL_law 593 = .ok (.iload_n 3, 1) := by decide +kernel
theorem dL_law_594 : decode cL_law 594 = .ok (.iconst 2, 1) := by decide +kernel
theorem dL_law_595 : decode cL_law 595 = .ok (.iadd, 1) := by decide +kernel
theorem dL_law_596 : decode cL_law 596 = .ok (.iaload, 1) := by decide +kernel
theorem dL_law_597 : decode cL_law 597 = .ok (.aload_n 0, 1) := by decide +kernel
theorem dL_law_598 : decode cL_law 598 = .ok (.iload_n 3, 1) := by decide +kernel
theorem dL_law_599 : decode cL_law 599 = .ok (.iconst 3, 1) := by decide +kernel
theorem dL_law_600 : decode cL_law 600 = .ok (.iadd, 1) := by decide +kernel
theorem dL_law_601 : decode cL_law 601 = .ok (.iaload, 1) := by decide +kernel
theorem dL_law_602 : decode cL_law 602 = .ok (.invokevirtual 82, 3) := by decide +kernel
theorem dL_law_605 : decode cL_law 605 = .ok (.aload_n 2, 1) := by decide +kernel
theorem dL_law_606 : decode cL_law 606 = .ok (.aload_n 0, 1) := by decide +kernel
theorem dL_law_607 : decode cL_law 607 = .ok (.iload_n 3, 1) := by decide +kernel
theorem dL_law_608 : decode cL_law 608 = .ok (.iconst 1, 1) := by decide +kernel
theorem dL_law_609 : decode cL_law 609 = .ok (.iadd, 1) := by decide +kernel
theorem dL_law_610 : decode cL_law 610 = .ok (.iaload, 1) := by decide +kernel
theorem dL_law_611 : decode cL_law 611 = .ok (.aload_n 0, 1) := by decide +kernel
theorem dL_law_612 : decode cL_law 612 = .ok (.iload_n 3, 1) := by decide +kernel
theorem dL_law_613 : decode cL_law 613 = .ok (.iconst 2, 1) := by decide +kernel
theorem dL_law_614 : decode cL_law 614 = .ok (.iadd, 1) := by decide +kernel
theorem dL_law_615 : decode cL_law 615 = .ok (.iaload, 1) := by decide +kernel
theorem dL_law_616 : decode cL_law 616 = .ok (.aload_n 0, 1) := by decide +kernel
theorem dL_law_617 : decode cL_law 617 = .ok (.iload_n 3, 1) := by decide +kernel
theorem dL_law_618 : decode cL_law 618 = .ok (.iconst 3, 1) := by decide +kernel
theorem dL_law_619 : decode cL_law 619 = .ok (.iadd, 1) := by decide +kernel
theorem dL_law_620 : decode cL_law 620 = .ok (.iaload, 1) := by decide +kernel
theorem dL_law_621 : decode cL_law 621 = .ok (.invokevirtual 86, 3) := by decide +kernel
theorem dL_law_624 : decode cL_law 624 = .ok (.if_icmp .eq 315, 3) := by decide +kernel
theorem dL_law_627 : decode cL_law 627 = .ok (.iconst 0, 1) := by decide +kernel
theorem dL_law_628 : decode cL_law 628 = .ok (.ireturn, 1) := by decide +kernel
theorem dL_law_629 : decode cL_law 629 = .ok (.aload_n 1, 1) := by decide +kernel
theorem dL_law_630 : decode cL_law 630 = .ok (.aload_n 0, 1) := by decide +kernel
theorem dL_law_631 : decode cL_law 631 = .ok (.iload_n 3, 1) := by decide +kernel
theorem dL_law_632 : decode cL_law 632 = .ok (.iconst 1, 1) := by decide +kernel
theorem dL_law_633 : decode cL_law 633 = .ok (.iadd, 1) := by decide +kernel
theorem dL_law_634 : decode cL_law 634 = .ok (.iaload, 1) := by decide +kernel
theorem dL_law_635 : decode cL_law 635 = .ok (.aload_n 0, 1) := by decide +kernel
theorem dL_law_636 : decode cL_law 636 = .ok (.iload_n 3, 1) := by decide +kernel
theorem dL_law_637 : decode cL_law 637 = .ok (.iconst 2, 1) := by decide +kernel
theorem dL_law_638 : decode cL_law 638 = .ok (.iadd, 1) := by decide +kernel
theorem dL_law_639 : decode cL_law 639 = .ok (.iaload, 1) := by decide +kernel
theorem dL_law_640 : decode cL_law 640 = .ok (.invokevirtual 87, 3) := by decide +kernel
theorem dL_law_643 : decode cL_law 643 = .ok (.aload_n 2, 1) := by decide +kernel
theorem dL_law_644 : decode cL_law 644 = .ok (.aload_n 0, 1) := by decide +kernel
theorem dL_law_645 : decode cL_law 645 = .ok (.iload_n 3, 1) := by decide +kernel
theorem dL_law_646 : decode cL_law 646 = .ok (.iconst 1, 1) := by decide +kernel
theorem dL_law_647 : decode cL_law 647 = .ok (.iadd, 1) := by decide +kernel
theorem dL_law_648 : decode cL_law 648 = .ok (.iaload, 1) := by decide +kernel
theorem dL_law_649 : decode cL_law 649 = .ok (.aload_n 0, 1) := by decide +kernel
theorem dL_law_650 : decode cL_law 650 = .ok (.iload_n 3, 1) := by decide +kernel
theorem dL_law_651 : decode cL_law 651 = .ok (.iconst 2, 1) := by decide +kernel
theorem dL_law_652 : decode cL_law 652 = .ok (.iadd, 1) := by decide +kernel
theorem dL_law_653 : decode cL_law 653 = .ok (.iaload, 1) := by decide +kernel
theorem dL_law_654 : decode cL_law 654 = .ok (.invokevirtual 90, 3) := by decide +kernel
theorem dL_law_657 : decode cL_law 657 = .ok (.if_icmp .eq 282, 3) := by decide +kernel
theorem dL_law_660 : decode cL_law 660 = .ok (.iconst 0, 1) := by decide +kernel
theorem dL_law_661 : decode cL_law 661 = .ok (.ireturn, 1) := by decide +kernel
theorem dL_law_662 : decode cL_law 662 = .ok (.aload_n 1, 1) := by decide +kernel
theorem dL_law_663 : decode cL_law 663 = .ok (.aload_n 0, 1) := by decide +kernel
theorem dL_law_664 : decode cL_law 664 = .ok (.iload_n 3, 1) := by decide +kernel
theorem dL_law_665 : decode cL_law 665 = .ok (.iconst 1, 1) := by decide +kernel
theorem dL_law_666 : decode cL_law 666 = .ok (.iadd, 1) := by decide +kernel
theorem dL_law_667 : decode cL_law 667 = .ok (.iaload, 1) := by decide +kernel
theorem dL_law_668 : decode cL_law 668 = .ok (.aload_n 0, 1) := by decide +kernel
theorem dL_law_669 : decode cL_law 669 = .ok (.iload_n 3, 1) := by decide +kernel
theorem dL_law_670 : decode cL_law 670 = .ok (.iconst 2, 1) := by decide +kernel
theorem dL_law_671 : decode cL_law 671 = .ok (.iadd, 1) := by decide +kernel
theorem dL_law_672 : decode cL_law 672 = .ok (.iaload, 1) := by decide +kernel
theorem dL_law_673 : decode cL_law 673 = .ok (.invokevirtual 91, 3) := by decide +kernel
theorem dL_law_676 : decode cL_law 676 = .ok (.aload_n 2, 1) := by decide +kernel
theorem dL_law_677 : decode cL_law 677 = .ok (.aload_n 0, 1) := by decide +kernel
theorem dL_law_678 : decode cL_law 678 = .ok (.iload_n 3, 1) := by decide +kernel
theorem dL_law_679 : decode cL_law 679 = .ok (.iconst 1, 1) := by decide +kernel
theorem dL_law_680 : decode cL_law 680 = .ok (.iadd, 1) := by decide +kernel
theorem dL_law_681 : decode cL_law 681 = .ok (.iaload, 1) := by decide +kernel
theorem dL_law_682 : decode cL_law 682 = .ok (.aload_n 0, 1) := by decide +kernel
theorem dL_law_683 : decode cL_law 683 = .ok (.iload_n 3, 1) := by decide +kernel
theorem dL_law_684 : decode cL_law 684 = .ok (.iconst 2, 1) := by decide +kernel
theorem dL_law_685 : decode cL_law 685 = .ok (.iadd, 1) := by decide +kernel
theorem dL_law_686 : decode cL_law 686 = .ok (.iaload, 1) := by decide +kernel
theorem dL_law_687 : decode cL_law 687 = .ok (.invokevirtual 94, 3) := by decide +kernel
theorem dL_law_690 : decode cL_law 690 = .ok (.if_icmp .eq 249, 3) := by decide +kernel
theorem dL_law_693 : decode cL_law 693 = .ok (.iconst 0, 1) := by decide +kernel
theorem dL_law_694 : decode cL_law 694 = .ok (.ireturn, 1) := by decide +kernel
theorem dL_law_695 : decode cL_law 695 = .ok (.aload_n 1, 1) := by decide +kernel
theorem dL_law_696 : decode cL_law 696 = .ok (.aload_n 0, 1) := by decide +kernel
theorem dL_law_697 : decode cL_law 697 = .ok (.iload_n 3, 1) := by decide +kernel
theorem dL_law_698 : decode cL_law 698 = .ok (.iconst 1, 1) := by decide +kernel
theorem dL_law_699 : decode cL_law 699 = .ok (.iadd, 1) := by decide +kernel
theorem dL_law_700 : decode cL_law 700 = .ok (.iaload, 1) := by decide +kernel
theorem dL_law_701 : decode cL_law 701 = .ok (.aload_n 0, 1) := by decide +kernel
theorem dL_law_702 : decode cL_law 702 = .ok (.iload_n 3, 1) := by decide +kernel
theorem dL_law_703 : decode cL_law 703 = .ok (.iconst 2, 1) := by decide +kernel
theorem dL_law_704 : decode cL_law 704 = .ok (.iadd, 1) := by decide +kernel
theorem dL_law_705 : decode cL_law 705 = .ok (.iaload, 1) := by decide +kernel
theorem dL_law_706 : decode cL_law 706 = .ok (.invokevirtual 95, 3) := by decide +kernel
theorem dL_law_709 : decode cL_law 709 = .ok (.aload_n 2, 1) := by decide +kernel
theorem dL_law_710 : decode cL_law 710 = .ok (.aload_n 0, 1) := by decide +kernel
theorem dL_law_711 : decode cL_law 711 = .ok (.iload_n 3, 1) := by decide +kernel
theorem dL_law_712 : decode cL_law 712 = .ok (.iconst 1, 1) := by decide +kernel
theorem dL_law_713 : decode cL_law 713 = .ok (.iadd, 1) := by decide +kernel
theorem dL_law_714 : decode cL_law 714 = .ok (.iaload, 1) := by decide +kernel
theorem dL_law_715 : decode cL_law 715 = .ok (.aload_n 0, 1) := by decide +kernel
theorem dL_law_716 : decode cL_law 716 = .ok (.iload_n 3, 1) := by decide +kernel
theorem dL_law_717 : decode cL_law 717 = .ok (.iconst 2, 1) := by decide +kernel
theorem dL_law_718 : decode cL_law 718 = .ok (.iadd, 1) := by decide +kernel
theorem dL_law_719 : decode cL_law 719 = .ok (.iaload, 1) := by decide +kernel
theorem dL_law_720 : decode cL_law 720 = .ok (.invokevirtual 98, 3) := by decide +kernel
theorem dL_law_723 : decode cL_law 723 = .ok (.if_icmp .eq 216, 3) := by decide +kernel
theorem dL_law_726 : decode cL_law 726 = .ok (.iconst 0, 1) := by decide +kernel
theorem dL_law_727 : decode cL_law 727 = .ok (.ireturn, 1) := by decide +kernel
theorem dL_law_728 : decode cL_law 728 = .ok (.aload_n 1, 1) := by decide +kernel
theorem dL_law_729 : decode cL_law 729 = .ok (.aload_n 0, 1) := by decide +kernel
theorem dL_law_730 : decode cL_law 730 = .ok (.iload_n 3, 1) := by decide +kernel
theorem dL_law_731 : decode cL_law 731 = .ok (.iconst 1, 1) := by decide +kernel
theorem dL_law_732 : decode cL_law 732 = .ok (.iadd, 1) := by decide +kernel
theorem dL_law_733 : decode cL_law 733 = .ok (.iaload, 1) := by decide +kernel
theorem dL_law_734 : decode cL_law 734 = .ok (.aload_n 0, 1) := by decide +kernel
theorem dL_law_735 : decode cL_law 735 = .ok (.iload_n 3, 1) := by decide +kernel
theorem dL_law_736 : decode cL_law 736 = .ok (.iconst 2, 1) := by decide +kernel
theorem dL_law_737 : decode cL_law 737 = .ok (.iadd, 1) := by decide +kernel
theorem dL_law_738 : decode cL_law 738 = .ok (.iaload, 1) := by decide +kernel
theorem dL_law_739 : decode cL_law 739 = .ok (.invokevirtual 99, 3) := by decide +kernel
theorem dL_law_742 : decode cL_law 742 = .ok (.aload_n 2, 1) := by decide +kernel
theorem dL_law_743 : decode cL_law 743 = .ok (.aload_n 0, 1) := by decide +kernel
theorem dL_law_744 : decode cL_law 744 = .ok (.iload_n 3, 1) := by decide +kernel
theorem dL_law_745 : decode cL_law 745 = .ok (.iconst 1, 1) := by decide +kernel
theorem dL_law_746 : decode cL_law 746 = .ok (.iadd, 1) := by decide +kernel
theorem dL_law_747 : decode cL_law 747 = .ok (.iaload, 1) := by decide +kernel
theorem dL_law_748 : decode cL_law 748 = .ok (.aload_n 0, 1) := by decide +kernel
theorem dL_law_749 : decode cL_law 749 = .ok (.iload_n 3, 1) := by decide +kernel
theorem dL_law_750 : decode cL_law 750 = .ok (.iconst 2, 1) := by decide +kernel
theorem dL_law_751 : decode cL_law 751 = .ok (.iadd, 1) := by decide +kernel
theorem dL_law_752 : decode cL_law 752 = .ok (.iaload, 1) := by decide +kernel
theorem dL_law_753 : decode cL_law 753 = .ok (.invokevirtual 102, 3) := by decide +kernel
theorem dL_law_756 : decode cL_law 756 = .ok (.if_icmp .eq 183, 3) := by decide +kernel
theorem dL_law_759 : decode cL_law 759 = .ok (.iconst 0, 1) := by decide +kernel
theorem dL_law_760 : decode cL_law 760 = .ok (.ireturn, 1) := by decide +kernel
theorem dL_law_761 : decode cL_law 761 = .ok (.aload_n 1, 1) := by decide +kernel
theorem dL_law_762 : decode cL_law 762 = .ok (.aload_n 0, 1) := by decide +kernel
theorem dL_law_763 : decode cL_law 763 = .ok (.iload_n 3, 1) := by decide +kernel
theorem dL_law_764 : decode cL_law 764 = .ok (.iconst 1, 1) := by decide +kernel
theorem dL_law_765 : decode cL_law 765 = .ok (.iadd, 1) := by decide +kernel
theorem dL_law_766 : decode cL_law 766 = .ok (.iaload, 1) := by decide +kernel
theorem dL_law_767 : decode cL_law 767 = .ok (.aload_n 0, 1) := by decide +kernel
theorem dL_law_768 : decode cL_law 768 = .ok (.iload_n 3, 1) := by decide +kernel
theorem dL_law_769 : decode cL_law 769 = .ok (.iconst 2, 1) := by decide +kernel
theorem dL_law_770 : decode cL_law 770 = .ok (.iadd, 1) := by decide +kernel
theorem dL_law_771 : decode cL_law 771 = .ok (.iaload, 1) := by decide +kernel
theorem dL_law_772 : decode cL_law 772 = .ok (.invokevirtual 103, 3) := by decide +kernel
theorem dL_law_775 : decode cL_law 775 = .ok (.aload_n 2, 1) := by decide +kernel
theorem dL_law_776 : decode cL_law 776 = .ok (.aload_n 0, 1) := by decide +kernel
theorem dL_law_777 : decode cL_law 777 = .ok (.iload_n 3, 1) := by decide +kernel
theorem dL_law_778 : decode cL_law 778 = .ok (.iconst 1, 1) := by decide +kernel
theorem dL_law_779 : decode cL_law 779 = .ok (.iadd, 1) := by decide +kernel
theorem dL_law_780 : decode cL_law 780 = .ok (.iaload, 1) := by decide +kernel
theorem dL_law_781 : decode cL_law 781 = .ok (.aload_n 0, 1) := by decide +kernel
theorem dL_law_782 : decode cL_law 782 = .ok (.iload_n 3, 1) := by decide +kernel
theorem dL_law_783 : decode cL_law 783 = .ok (.iconst 2, 1) := by decide +kernel
theorem dL_law_784 : decode cL_law 784 = .ok (.iadd, 1) := by decide +kernel
theorem dL_law_785 : decode cL_law 785 = .ok (.iaload, 1) := by decide +kernel
theorem dL_law_786 : decode cL_law 786 = .ok (.invokevirtual 106, 3) := by decide +kernel
theorem dL_law_789 : decode cL_law 789 = .ok (.if_icmp .eq 150, 3) := by decide +kernel
theorem dL_law_792 : decode cL_law 792 = .ok (.iconst 0, 1) := by decide +kernel
theorem dL_law_793 : decode cL_law 793 = .ok (.ireturn, 1) := by decide +kernel
theorem dL_law_794 : decode cL_law 794 = .ok (.aload_n 1, 1) := by decide +kernel
theorem dL_law_795 : decode cL_law 795 = .ok (.aload_n 0, 1) := by decide +kernel
theorem dL_law_796 : decode cL_law 796 = .ok (.iload_n 3, 1) := by decide +kernel
theorem dL_law_797 : decode cL_law 797 = .ok (.iconst 1, 1) := by decide +kernel
theorem dL_law_798 : decode cL_law 798 = .ok (.iadd, 1) := by decide +kernel
theorem dL_law_799 : decode cL_law 799 = .ok (.iaload, 1) := by decide +kernel
theorem dL_law_800 : decode cL_law 800 = .ok (.aload_n 0, 1) := by decide +kernel
theorem dL_law_801 : decode cL_law 801 = .ok (.iload_n 3, 1) := by decide +kernel
theorem dL_law_802 : decode cL_law 802 = .ok (.iconst 2, 1) := by decide +kernel
theorem dL_law_803 : decode cL_law 803 = .ok (.iadd, 1) := by decide +kernel
theorem dL_law_804 : decode cL_law 804 = .ok (.iaload, 1) := by decide +kernel
theorem dL_law_805 : decode cL_law 805 = .ok (.invokevirtual 107, 3) := by decide +kernel
theorem dL_law_808 : decode cL_law 808 = .ok (.aload_n 2, 1) := by decide +kernel
theorem dL_law_809 : decode cL_law 809 = .ok (.aload_n 0, 1) := by decide +kernel
theorem dL_law_810 : decode cL_law 810 = .ok (.iload_n 3, 1) := by decide +kernel
theorem dL_law_811 : decode cL_law 811 = .ok (.iconst 1, 1) := by decide +kernel
theorem dL_law_812 : decode cL_law 812 = .ok (.iadd, 1) := by decide +kernel
theorem dL_law_813 : decode cL_law 813 = .ok (.iaload, 1) := by decide +kernel
theorem dL_law_814 : decode cL_law 814 = .ok (.aload_n 0, 1) := by decide +kernel
theorem dL_law_815 : decode cL_law 815 = .ok (.iload_n 3, 1) := by decide +kernel
theorem dL_law_816 : decode cL_law 816 = .ok (.iconst 2, 1) := by decide +kernel
theorem dL_law_817 : decode cL_law 817 = .ok (.iadd, 1) := by decide +kernel
theorem dL_law_818 : decode cL_law 818 = .ok (.iaload, 1) := by decide +kernel
theorem dL_law_819 : decode cL_law 819 = .ok (.invokevirtual 110, 3) := by decide +kernel
theorem dL_law_822 : decode cL_law 822 = .ok (.if_icmp .eq 117, 3) := by decide +kernel
theorem dL_law_825 : decode cL_law 825 = .ok (.iconst 0, 1) := by decide +kernel
theorem dL_law_826 : decode cL_law 826 = .ok (.ireturn, 1) := by decide +kernel
theorem dL_law_827 : decode cL_law 827 = .ok (.aload_n 1, 1) := by decide +kernel
theorem dL_law_828 : decode cL_law 828 = .ok (.aload_n 0, 1) := by decide +kernel
theorem dL_law_829 : decode cL_law 829 = .ok (.iload_n 3, 1) := by decide +kernel
theorem dL_law_830 : decode cL_law 830 = .ok (.iconst 1, 1) := by decide +kernel
theorem dL_law_831 : decode cL_law 831 = .ok (.iadd, 1) := by decide +kernel
theorem dL_law_832 : decode cL_law 832 = .ok (.iaload, 1) := by decide +kernel
theorem dL_law_833 : decode cL_law 833 = .ok (.aload_n 0, 1) := by decide +kernel
theorem dL_law_834 : decode cL_law 834 = .ok (.iload_n 3, 1) := by decide +kernel
theorem dL_law_835 : decode cL_law 835 = .ok (.iconst 2, 1) := by decide +kernel
theorem dL_law_836 : decode cL_law 836 = .ok (.iadd, 1) := by decide +kernel
theorem dL_law_837 : decode cL_law 837 = .ok (.iaload, 1) := by decide +kernel
theorem dL_law_838 : decode cL_law 838 = .ok (.aload_n 0, 1) := by decide +kernel
theorem dL_law_839 : decode cL_law 839 = .ok (.iload_n 3, 1) := by decide +kernel
theorem dL_law_840 : decode cL_law 840 = .ok (.iconst 3, 1) := by decide +kernel
theorem dL_law_841 : decode cL_law 841 = .ok (.iadd, 1) := by decide +kernel
theorem dL_law_842 : decode cL_law 842 = .ok (.iaload, 1) := by decide +kernel
theorem dL_law_843 : decode cL_law 843 = .ok (.invokevirtual 111, 3) := by decide +kernel
theorem dL_law_846 : decode cL_law 846 = .ok (.aload_n 2, 1) := by decide +kernel
theorem dL_law_847 : decode cL_law 847 = .ok (.aload_n 0, 1) := by decide +kernel
theorem dL_law_848 : decode cL_law 848 = .ok (.iload_n 3, 1) := by decide +kernel
theorem dL_law_849 : decode cL_law 849 = .ok (.iconst 1, 1) := by decide +kernel
theorem dL_law_850 : decode cL_law 850 = .ok (.iadd, 1) := by decide +kernel
theorem dL_law_851 : decode cL_law 851 = .ok (.iaload, 1) := by decide +kernel
theorem dL_law_852 : decode cL_law 852 = .ok (.aload_n 0, 1) := by decide +kernel
theorem dL_law_853 : decode cL_law 853 = .ok (.iload_n 3, 1) := by decide +kernel
theorem dL_law_854 : decode cL_law 854 = .ok (.iconst 2, 1) := by decide +kernel
theorem dL_law_855 : decode cL_law 855 = .ok (.iadd, 1) := by decide +kernel
theorem dL_law_856 : decode cL_law 856 = .ok (.iaload, 1) := by decide +kernel
theorem dL_law_857 : decode cL_law 857 = .ok (.aload_n 0, 1) := by decide +kernel
theorem dL_law_858 : decode cL_law 858 = .ok (.iload_n 3, 1) := by decide +kernel
theorem dL_law_859 : decode cL_law 859 = .ok (.iconst 3, 1) := by decide +kernel
theorem dL_law_860 : decode cL_law 860 = .ok (.iadd, 1) := by decide +kernel
theorem dL_law_861 : decode cL_law 861 = .ok (.iaload, 1) := by decide +kernel
theorem dL_law_862 : decode cL_law 862 = .ok (.invokevirtual 114, 3) := by decide +kernel
theorem dL_law_865 : decode cL_law 865 = .ok (.if_icmp .eq 74, 3) := by decide +kernel
theorem dL_law_868 : decode cL_law 868 = .ok (.iconst 0, 1) := by decide +kernel
theorem dL_law_869 : decode cL_law 869 = .ok (.ireturn, 1) := by decide +kernel
theorem dL_law_870 : decode cL_law 870 = .ok (.aload_n 1, 1) := by decide +kernel
theorem dL_law_871 : decode cL_law 871 = .ok (.aload_n 0, 1) := by decide +kernel
theorem dL_law_872 : decode cL_law 872 = .ok (.iload_n 3, 1) := by decide +kernel
theorem dL_law_873 : decode cL_law 873 = .ok (.iconst 1, 1) := by decide +kernel
theorem dL_law_874 : decode cL_law 874 = .ok (.iadd, 1) := by decide +kernel
theorem dL_law_875 : decode cL_law 875 = .ok (.iaload, 1) := by decide +kernel
theorem dL_law_876 : decode cL_law 876 = .ok (.invokevirtual 115, 3) := by decide +kernel
theorem dL_law_879 : decode cL_law 879 = .ok (.aload_n 2, 1) := by decide +kernel
theorem dL_law_880 : decode cL_law 880 = .ok (.aload_n 0, 1) := by decide +kernel
theorem dL_law_881 : decode cL_law 881 = .ok (.iload_n 3, 1) := by decide +kernel
theorem dL_law_882 : decode cL_law 882 = .ok (.iconst 1, 1) := by decide +kernel
theorem dL_law_883 : decode cL_law 883 = .ok (.iadd, 1) := by decide +kernel
theorem dL_law_884 : decode cL_law 884 = .ok (.iaload, 1) := by decide +kernel
theorem dL_law_885 : decode cL_law 885 = .ok (.invokevirtual 118, 3) := by decide +kernel
theorem dL_law_888 : decode cL_law 888 = .ok (.if_icmp .eq 51, 3) := by decide +kernel
theorem dL_law_891 : decode cL_law 891 = .ok (.iconst 0, 1) := by decide +kernel
theorem dL_law_892 : decode cL_law 892 = .ok (.ireturn, 1) := by decide +kernel
theorem dL_law_893 : decode cL_law 893 = .ok (.aload_n 1, 1) := by decide +kernel
theorem dL_law_894 : decode cL_law 894 = .ok (.aload_n 0, 1) := by decide +kernel
theorem dL_law_895 : decode cL_law 895 = .ok (.iload_n 3, 1) := by decide +kernel
theorem dL_law_896 : decode cL_law 896 = .ok (.iconst 1, 1) := by decide +kernel
theorem dL_law_897 : decode cL_law 897 = .ok (.iadd, 1) := by decide +kernel
theorem dL_law_898 : decode cL_law 898 = .ok (.iaload, 1) := by decide +kernel
theorem dL_law_899 : decode cL_law 899 = .ok (.invokevirtual 119, 3) := by decide +kernel
theorem dL_law_902 : decode cL_law 902 = .ok (.aload_n 2, 1) := by decide +kernel
theorem dL_law_903 : decode cL_law 903 = .ok (.aload_n 0, 1) := by decide +kernel
theorem dL_law_904 : decode cL_law 904 = .ok (.iload_n 3, 1) := by decide +kernel
theorem dL_law_905 : decode cL_law 905 = .ok (.iconst 1, 1) := by decide +kernel
theorem dL_law_906 : decode cL_law 906 = .ok (.iadd, 1) := by decide +kernel
theorem dL_law_907 : decode cL_law 907 = .ok (.iaload, 1) := by decide +kernel
theorem dL_law_908 : decode cL_law 908 = .ok (.invokevirtual 122, 3) := by decide +kernel
theorem dL_law_911 : decode cL_law 911 = .ok (.if_icmp .eq 28, 3) := by decide +kernel
theorem dL_law_914 : decode cL_law 914 = .ok (.iconst 0, 1) := by decide +kernel
theorem dL_law_915 : decode cL_law 915 = .ok (.ireturn, 1) := by decide +kernel
theorem dL_law_916 : decode cL_law 916 = .ok (.aload_n 1, 1) := by decide +kernel
theorem dL_law_917 : decode cL_law 917 = .ok (.aload_n 0, 1) := by decide +kernel
theorem dL_law_918 : decode cL_law 918 = .ok (.iload_n 3, 1) := by decide +kernel
theorem dL_law_919 : decode cL_law 919 = .ok (.iconst 1, 1) := by decide +kernel
theorem dL_law_920 : decode cL_law 920 = .ok (.iadd, 1) := by decide +kernel
theorem dL_law_921 : decode cL_law 921 = .ok (.iaload, 1) := by decide +kernel
theorem dL_law_922 : decode cL_law 922 = .ok (.invokevirtual 123, 3) := by decide +kernel
theorem dL_law_925 : decode cL_law 925 = .ok (.aload_n 2, 1) := by decide +kernel
theorem dL_law_926 : decode cL_law 926 = .ok (.aload_n 0, 1) := by decide +kernel
theorem dL_law_927 : decode cL_law 927 = .ok (.iload_n 3, 1) := by decide +kernel
theorem dL_law_928 : decode cL_law 928 = .ok (.iconst 1, 1) := by decide +kernel
theorem dL_law_929 : decode cL_law 929 = .ok (.iadd, 1) := by decide +kernel
theorem dL_law_930 : decode cL_law 930 = .ok (.iaload, 1) := by decide +kernel
theorem dL_law_931 : decode cL_law 931 = .ok (.invokevirtual 126, 3) := by decide +kernel
theorem dL_law_934 : decode cL_law 934 = .ok (.if_icmp .eq 5, 3) := by decide +kernel
theorem dL_law_937 : decode cL_law 937 = .ok (.iconst 0, 1) := by decide +kernel
theorem dL_law_938 : decode cL_law 938 = .ok (.ireturn, 1) := by decide +kernel
theorem dL_law_939 : decode cL_law 939 = .ok (.iinc 3 6, 3) := by decide +kernel
theorem dL_law_942 : decode cL_law 942 = .ok (.goto (-924), 3) := by decide +kernel
theorem dL_law_945 : decode cL_law 945 = .ok (.iconst 1, 1) := by decide +kernel
theorem dL_law_946 : decode cL_law 946 = .ok (.ireturn, 1) := by decide +kernel
end
section
theorem kGoodApp {big a b : List Cond} (ha : GoodIn big a) (hb : GoodIn big b) : GoodIn big (a ++ b) := fun w h => (List.mem_append.mp h).elim (ha w) (hb w)
/-! A judgement over pure data: from any machine that stands at pc with the locals lv, the stack st and the cells w, the goal of the walk is reached. -/
def nF (f : Nat → Nat) : Nat → Int32 := fun j => nI (f j)
def bI : Bool → Int32
  | true => 1
  | false => 0
theorem bI_t {b : Bool} (h : b = true) : bI b = 1 := by rw [h]; rfl
theorem bI_f {b : Bool} (h : b = false) : bI b = 0 := by rw [h]; rfl
theorem bI_0 (b : Bool) : bI b = 0 ↔ b = false := by
  cases b
  · exact ⟨fun _ => rfl, fun _ => rfl⟩
  · exact ⟨fun h => absurd h (by decide), fun h => absurd h (by decide)⟩
theorem bI_n0 (b : Bool) : (¬ bI b = 0) ↔ b = true := by
  rw [bI_0]; cases b <;> simp
theorem upd_nF (f : Nat → Nat) (i v : Nat) : upd (nF f) i (nI v) = nF (va_up f i v) := by
  funext j
  by_cases h : j = i
  · subst h; simp [upd, nF, va_up]
  · simp [upd, nF, va_up, h]
def kTY (tA : Nat → ClassId) : List (ClassId × FieldType) := [(tA 0, .int), (tA 1, .char), (tA 2, .object "BallastClub$State")]
abbrev kN1 : Cond := .methodLinkNest "BallastClub$State" 62 yX4_isHalfDay "BallastClub"
abbrev kN2 : Cond := .methodLinkNest "BallastClub$State" 102 yX4_limitFor "BallastClub"
def kK (D : va_G) (tA : Nat → ClassId) (U : State) : Prop := va_K D vwCl (kTY tA) U ∧ va_Nw kN1 U ∧ va_Nw kN2 U ∧ va_AO "BallastClub$State" U
theorem kK.warm {D : va_G} {tA : Nat → ClassId} {s U : State} (hW : s.WarmedH U.vm) (h : kK D tA s) : kK D tA U :=
  ⟨va_K.moved hW.alike h.1, va_Nw.warmM hW h.2.1, va_Nw.warmM hW h.2.2.1, va_AO.moved hW.alike h.2.2.2⟩
theorem kK.same {D : va_G} {tA : Nat → ClassId} {u U : State} (e : u.vm = U.vm) (h : kK D tA u) : kK D tA U :=
  ⟨va_K.moved (by rw [e]; exact Vm.Alike.refl _) h.1, va_Nw.same rfl e h.2.1, va_Nw.same rfl e h.2.2.1, va_AO.moved (by rw [e]; exact Vm.Alike.refl _) h.2.2.2⟩
/-- a method's end: this answer, these cells -/
def kQ (D : va_G) (res : Option Value) (w' : va_W) (A : Nat → Prop) : Array Value → State → Outcome → State → Prop := fun _ st oc t => (oc = .returned res ∧ va_P D vwCl w' t.heap) ∧ va_F A st t
/-- a method's contract: on the cells w, with these arguments, it returns res and leaves the cells w' -/
def Kx (l : Launch) (D : va_G) (tA : Nat → ClassId) (y : MethodName) (cc : ByteArray) (nL : Nat) (ret : Option FieldType) (fr lo : Nat) (av : List Value) (w : va_W) (res : Option Value) (w' : va_W) : Prop :=
  ∀ sz : Nat, Met l y (.code y cc nL ret :: kALL) ({ frames := fr, cells := 0, slots := 0, locals := lo }) (va_Pc av (fun U => U.heap.size = sz ∧ va_P D vwCl w U.heap ∧ kK D tA U ∧ va_D (fun _ => True) w)) (kQ D res w' (va_A w sz)) 0 0 (va_A w sz)
/-- what stays the same while a body is walked -/
abbrev kCx : Type := Program × Env × Room × State × MethodId × Array Value × List Frame × Method × Code × (State → Prop) × (Nat → Prop)
abbrev gp (G : kCx) : Program := G.1
abbrev ge (G : kCx) : Env := G.2.1
abbrev gR (G : kCx) : Room := G.2.2.1
abbrev gs (G : kCx) : State := G.2.2.2.1
abbrev gm (G : kCx) : MethodId := G.2.2.2.2.1
abbrev ga (G : kCx) : Array Value := G.2.2.2.2.2.1
abbrev gb (G : kCx) : List Frame := G.2.2.2.2.2.2.1
abbrev gh (G : kCx) : Method := G.2.2.2.2.2.2.2.1
abbrev gc (G : kCx) : Code := G.2.2.2.2.2.2.2.2.1
abbrev gQ (G : kCx) : State → Prop := G.2.2.2.2.2.2.2.2.2.1
abbrev gA (G : kCx) : Nat → Prop := G.2.2.2.2.2.2.2.2.2.2
def J (l : Launch) (D : va_G) (G : kCx) (n k : Nat) (w : va_W) (lv : List (Nat × Value)) (pc : Nat) (st : List Value) : Prop :=
  ∀ (H : Heap) (locs : List Loc) (ls : Array Slot), va_P D vwCl w H → va_D (gA G) w → va_S (gA G) (gs G).heap H locs → lv_has ls (gc G).maxLocals lv → W (gp G) l (ge G) (gR G) (gs G) (gm G) (ga G) (gb G) (gh G) (gc G) H locs n k (gQ G) (F0 (gm G) pc ls st)
def kX (D : va_G) (tA : Nat → ClassId) (G : kCx) (cc : ByteArray) (nL : Nat) (own : String) (fr lo : Nat) : Prop :=
  (gp G).tables.exec = Jvm.exec ∧ (gc G).code = cc ∧ (gc G).maxLocals = nL ∧ (gs G).vm.findClass own = some (gm G).cls ∧ (∀ w ∈ kALL, w.before (ga G) (gs G) = true) ∧ kK D tA (gs G) ∧ (∀ q, (gs G).heap.size ≤ q → gA G q) ∧ (fr ≤ (gR G).frames ∧ lo ≤ (gR G).locals)
/-- the cells of a callee put back at their places -/
def kPlug : va_W → List Nat → va_W → va_W
  | w, i :: is, x :: xs => kPlug (w.set i x) is xs
  | w, _, _ => w
theorem kPlug_out : ∀ (is : List Nat) (xs w : va_W) (k : Nat), k ∉ is → (kPlug w is xs)[k]? = w[k]?
  | [], xs, w, k, _ => by cases xs <;> rfl
  | i :: is, [], w, k, _ => rfl
  | i :: is, x :: xs, w, k, h => by
    have h1 : k ≠ i := fun e => h (e ▸ List.mem_cons_self)
    have h2 : k ∉ is := fun e => h (List.mem_cons_of_mem _ e)
    show (kPlug (w.set i x) is xs)[k]? = _
    rw [kPlug_out is xs (w.set i x) k h2, List.getElem?_set_ne (Ne.symm h1)]
theorem kPlug_in : ∀ (is : List Nat) (xs w : va_W) (j k : Nat), va_nd is = true → is[j]? = some k → k < w.length → is.length = xs.length → (kPlug w is xs)[k]? = xs[j]?
  | [], xs, w, j, k, _, h, _, _ => by simp at h
  | i :: is, [], w, j, k, _, _, _, hl => by simp at hl
  | i :: is, x :: xs, w, j, k, hn, h, hk, hl => by
    simp only [va_nd, Bool.and_eq_true, decide_eq_true_eq] at hn
    show (kPlug (w.set i x) is xs)[k]? = _
    cases j with
    | zero =>
      rw [List.getElem?_cons_zero] at h
      cases h
      rw [kPlug_out is xs (w.set i x) i hn.1, List.getElem?_set_self hk, List.getElem?_cons_zero]
    | succ j =>
      rw [List.getElem?_cons_succ] at h ⊢
      exact kPlug_in is xs (w.set i x) j k hn.2 h (by rw [List.length_set]; exact hk) (by simpa using hl)
theorem kD_same {A : Nat → Prop} {w w' : va_W} (h : va_D A w) (e : w'.map Prod.fst = w.map Prod.fst) : va_D A w' := by
  have key : ∀ (k : Nat) (q : Nat × va_E), w'[k]? = some q → ∃ p, w[k]? = some p ∧ p.1 = q.1 := by
    intro k q hk
    have h1 : (w'.map Prod.fst)[k]? = some q.1 := by rw [List.getElem?_map, hk]; rfl
    rw [e, List.getElem?_map] at h1
    cases hp : w[k]? with
    | none => rw [hp] at h1; cases h1
    | some p => rw [hp] at h1; exact ⟨p, rfl, Option.some.inj h1⟩
  refine ⟨fun i j p q hi hj hpq => ?_, fun k q hk => ?_⟩
  · obtain ⟨p', a1, a2⟩ := key i p hi
    obtain ⟨q', b1, b2⟩ := key j q hj
    exact h.1 i j p' q' a1 b1 (by rw [a2, b2]; exact hpq)
  · obtain ⟨p, a1, a2⟩ := key k q hk
    rw [← a2]
    exact h.2 k p a1
theorem kPlug_fst {w wc wc' : va_W} {is : List Nat} (hC : is.map (fun i => w[i]?) = wc.map some) (hn : va_nd is = true) (hf : wc'.map Prod.fst = wc.map Prod.fst) : (kPlug w is wc').map Prod.fst = w.map Prod.fst := by
  have hl : wc'.length = wc.length := by simpa using congrArg List.length hf
  have hlen : is.length = wc.length := by have := congrArg List.length hC; simpa using this
  apply List.ext_getElem?
  intro k
  rw [List.getElem?_map, List.getElem?_map]
  by_cases hin : k ∈ is
  · obtain ⟨j, hj⟩ := List.getElem?_of_mem hin
    have hjl : j < wc.length := by rw [← hlen]; exact (List.getElem?_eq_some_iff.mp hj).1
    have h1 : (is.map (fun i => w[i]?))[j]? = (wc.map some)[j]? := by rw [hC]
    rw [List.getElem?_map, List.getElem?_map, hj, List.getElem?_eq_getElem hjl] at h1
    have h2 : w[k]? = some wc[j] := Option.some.inj h1
    have h3 : (wc'.map Prod.fst)[j]? = (wc.map Prod.fst)[j]? := by rw [hf]
    rw [List.getElem?_map, List.getElem?_map, List.getElem?_eq_getElem hjl] at h3
    rw [kPlug_in is wc' w j k hn hj (List.getElem?_eq_some_iff.mp h2).1 (by rw [hlen, hl]), h2]
    exact h3
  · rw [kPlug_out is wc' w k hin]
theorem kP_read {D : va_G} {A : Nat → Prop} {w wc : va_W} {is : List Nat} {H H1 : Heap} (hP : va_P D vwCl w H) (hD : va_D A w) (hC : is.map (fun i => w[i]?) = wc.map some)
    (hk : ∀ q : Nat, q < H.size → ¬ va_A wc H.size q → H1[q]? = H[q]?) (hP1 : va_P D vwCl wc H1) : va_P D vwCl w H1 := by
  have at' : ∀ (j : Nat) (q : Nat × va_E), wc[j]? = some q → ∃ i, is[j]? = some i ∧ w[i]? = some q := by
    intro k q hq
    have h1 : (is.map (fun i => w[i]?))[k]? = some (some q) := by rw [hC, List.getElem?_map, hq]; rfl
    rw [List.getElem?_map] at h1
    cases hi : is[k]? with
    | none => rw [hi] at h1; cases h1
    | some i => rw [hi] at h1; exact ⟨i, rfl, Option.some.inj h1⟩
  intro k q hkq
  by_cases hin : ∃ (j : Nat) (e : va_E), wc[j]? = some (q.1, e)
  · obtain ⟨j, e, h⟩ := hin
    obtain ⟨i, h1, h2⟩ := at' j (q.1, e) h
    have hki := hD.1 k i q (q.1, e) hkq h2 rfl
    subst hki
    rw [hkq] at h2
    rw [← Option.some.inj h2] at h
    exact hP1 j _ h
  · refine (hP k q hkq).kept (hk q.1 (hP k q hkq).lt (fun h => ?_))
    rcases h with ⟨j, e, h⟩ | h
    · exact hin ⟨j, e, h⟩
    · exact absurd (hP k q hkq).lt (by omega)
theorem kSub {D : va_G} {w wc : va_W} {H : Heap} (hP : va_P D vwCl w H) {is : List Nat} (hC : is.map (fun i => w[i]?) = wc.map some) : va_P D vwCl wc H := by
  intro k q hq
  have h1 : (is.map (fun i => w[i]?))[k]? = some (some q) := by rw [hC, List.getElem?_map, hq]; rfl
  rw [List.getElem?_map] at h1
  cases hi : is[k]? with
  | none => rw [hi] at h1; cases h1
  | some i => rw [hi] at h1; exact hP i q (Option.some.inj h1)
theorem kP_block {D : va_G} {A : Nat → Prop} {w wc wc' wr w' : va_W} {is js ks : List Nat} {H H1 : Heap} (hP : va_P D vwCl w H) (hD : va_D A w) (hC : is.map (fun i => w[i]?) = wc.map some) (hR : js.map (fun i => w[i]?) = wr.map some) (hn : va_nd (is ++ js) = true) (hf : wc'.map Prod.fst = wc.map Prod.fst) (hB : ks.map (fun i => (wc' ++ wr)[i]?) = w'.map some) (hnk : va_nd ks = true)
    (hk : ∀ q : Nat, q < H.size → ¬ va_A wc H.size q → H1[q]? = H[q]?) (hP1 : va_P D vwCl wc' H1) : va_P D vwCl w' H1 ∧ va_D A w' := by
  have hD2 : va_D A (wc ++ wr) := hD.sub (is ++ js) hn (by rw [List.map_append, List.map_append, hC, hR])
  have hPr : va_P D vwCl wr H1 := by
    intro k q hq
    have hq0 := kSub hP hR k q hq
    refine hq0.kept (hk q.1 hq0.lt (fun h => ?_))
    rcases h with ⟨j, e, h⟩ | h
    · have e1 : (wc ++ wr)[wc.length + k]? = some q := by rw [List.getElem?_append_right (by omega), Nat.add_sub_cancel_left]; exact hq
      have hj : j < wc.length := (List.getElem?_eq_some_iff.mp h).1
      have e2 : (wc ++ wr)[j]? = some (q.1, e) := by rw [List.getElem?_append_left hj]; exact h
      have := hD2.1 (wc.length + k) j q (q.1, e) e1 e2 rfl
      omega
    · exact absurd hq0.lt (by omega)
  have hD3 : va_D A (wc' ++ wr) := kD_same hD2 (by rw [List.map_append, List.map_append, hf])
  exact ⟨kSub (hP1.app hPr) hB, hD3.sub ks hnk hB⟩
theorem fst_app {A A' B B' : va_W} (h1 : A'.map Prod.fst = A.map Prod.fst) (h2 : B'.map Prod.fst = B.map Prod.fst) : (A' ++ B').map Prod.fst = (A ++ B).map Prod.fst := by
  rw [List.map_append, List.map_append, h1, h2]
theorem kP_plug {D : va_G} {A : Nat → Prop} {w wc wc' : va_W} {is : List Nat} {H H1 : Heap} (hP : va_P D vwCl w H) (hD : va_D A w) (hC : is.map (fun i => w[i]?) = wc.map some) (hn : va_nd is = true) (hl : wc'.length = wc.length)
    (hk : ∀ q : Nat, q < H.size → ¬ va_A wc H.size q → H1[q]? = H[q]?) (hP1 : va_P D vwCl wc' H1) : va_P D vwCl (kPlug w is wc') H1 := by
  have hlen : is.length = wc.length := by have := congrArg List.length hC; simpa using this
  have at' : ∀ (j : Nat) (q : Nat × va_E), wc[j]? = some q → ∃ i, is[j]? = some i ∧ w[i]? = some q := by
    intro k q hq
    have h1 : (is.map (fun i => w[i]?))[k]? = some (some q) := by rw [hC, List.getElem?_map, hq]; rfl
    rw [List.getElem?_map] at h1
    cases hi : is[k]? with
    | none => rw [hi] at h1; cases h1
    | some i => rw [hi] at h1; exact ⟨i, rfl, Option.some.inj h1⟩
  intro k q hkq
  by_cases hin : k ∈ is
  · obtain ⟨j, hj⟩ := List.getElem?_of_mem hin
    have hjl : j < wc.length := by rw [← hlen]; exact (List.getElem?_eq_some_iff.mp hj).1
    obtain ⟨i, h1, h2⟩ := at' j wc[j] (List.getElem?_eq_getElem hjl)
    rw [hj] at h1
    cases h1
    rw [kPlug_in is wc' w j k hn hj (List.getElem?_eq_some_iff.mp h2).1 (by rw [hlen, hl])] at hkq
    exact hP1 j q hkq
  · rw [kPlug_out is wc' w k hin] at hkq
    refine (hP k q hkq).kept (hk q.1 (hP k q hkq).lt (fun h => ?_))
    rcases h with ⟨j, e, h⟩ | h
    · obtain ⟨i, h1, h2⟩ := at' j (q.1, e) h
      have := hD.1 k i q (q.1, e) hkq h2 rfl
      subst this
      exact hin (List.mem_of_getElem? h1)
    · exact absurd (hP k q hkq).lt (by omega)

section
variable {l : Launch} {D : va_G} {tA : Nat → ClassId} {G : kCx} {cc : ByteArray} {nL : Nat} {own : String} {fr lo n k : Nat} {w : va_W} {lv : List (Nat × Value)} {pc : Nat} {st : List Value}
theorem j_iconst (X : kX D tA G cc nL own fr lo) {i : Int} {v : Int32} (hdg : decode cc pc = .ok (.iconst i, 1)) (hv : Int32.ofInt i = v) (kk : J l D G n k w lv (pc + 1) (.int v :: st)) : J l D G n k w lv pc st :=
  fun H locs ls hP hD hS hl => lv_iconst X.1 X.2.1 hdg hv (kk H locs ls hP hD hS hl)
theorem j_bipush (X : kX D tA G cc nL own fr lo) {i : Int} {v : Int32} (hdg : decode cc pc = .ok (.bipush i, 2)) (hv : (Int8.ofInt i).toInt32 = v) (kk : J l D G n k w lv (pc + 2) (.int v :: st)) : J l D G n k w lv pc st :=
  fun H locs ls hP hD hS hl => lv_bipush X.1 X.2.1 hdg hv (kk H locs ls hP hD hS hl)
theorem j_sipush (X : kX D tA G cc nL own fr lo) {i : Int} {v : Int32} (hdg : decode cc pc = .ok (.sipush i, 3)) (hv : (Int16.ofInt i).toInt32 = v) (kk : J l D G n k w lv (pc + 3) (.int v :: st)) : J l D G n k w lv pc st :=
  fun H locs ls hP hD hS hl => lv_sipush X.1 X.2.1 hdg hv (kk H locs ls hP hD hS hl)
theorem j_iload_n (X : kX D tA G cc nL own fr lo) {kk0 : Fin 4} {i : Nat} {x : Int32} (hdg : decode cc pc = .ok (.iload_n kk0, 1)) (hi : (kk0 : Nat) = i) {q : Nat} (hk : lv[q]? = some (i, .int x)) (kk : J l D G n k w lv (pc + 1) (.int x :: st)) : J l D G n k w lv pc st :=
  fun H locs ls hP hD hS hl => lv_iload_n X.1 X.2.1 hdg hi (lv_at hl q hk) (kk H locs ls hP hD hS hl)
theorem j_iload (X : kX D tA G cc nL own fr lo) {i : Nat} {x : Int32} (hdg : decode cc pc = .ok (.iload i, 2)) {q : Nat} (hk : lv[q]? = some (i, .int x)) (kk : J l D G n k w lv (pc + 2) (.int x :: st)) : J l D G n k w lv pc st :=
  fun H locs ls hP hD hS hl => lv_iload X.1 X.2.1 hdg (lv_at hl q hk) (kk H locs ls hP hD hS hl)
theorem j_aload_n (X : kX D tA G cc nL own fr lo) {kk0 : Fin 4} {i : Nat} {x : Nat} (hdg : decode cc pc = .ok (.aload_n kk0, 1)) (hi : (kk0 : Nat) = i) {q : Nat} (hk : lv[q]? = some (i, .ref x)) (kk : J l D G n k w lv (pc + 1) (.ref x :: st)) : J l D G n k w lv pc st :=
  fun H locs ls hP hD hS hl => lv_aload_n X.1 X.2.1 hdg hi (lv_at hl q hk) (kk H locs ls hP hD hS hl)
theorem j_aload (X : kX D tA G cc nL own fr lo) {i : Nat} {x : Nat} (hdg : decode cc pc = .ok (.aload i, 2)) {q : Nat} (hk : lv[q]? = some (i, .ref x)) (kk : J l D G n k w lv (pc + 2) (.ref x :: st)) : J l D G n k w lv pc st :=
  fun H locs ls hP hD hS hl => lv_aload X.1 X.2.1 hdg (lv_at hl q hk) (kk H locs ls hP hD hS hl)
theorem j_istore_n (X : kX D tA G cc nL own fr lo) {kk0 : Fin 4} {i : Nat} {x : Int32} {lv' : List (Nat × Value)} (hdg : decode cc pc = .ok (.istore_n kk0, 1)) (hi : (kk0 : Nat) = i) (hn : i < nL) (hl' : (i, Value.int x) :: lv.filter (fun q => !(q.1 == i) && !(q.1 + 1 == i && q.2.category == 2)) = lv') (kk : J l D G n k w lv' (pc + 1) st) : J l D G n k w lv pc (.int x :: st) :=
  fun H locs ls hP hD hS hl => lv_istore_n X.1 X.2.1 hdg hi hl (by rw [X.2.2.1]; exact hn) hl' (fun ls hl => kk H locs ls hP hD hS hl)
theorem j_istore (X : kX D tA G cc nL own fr lo) {i : Nat} {x : Int32} {lv' : List (Nat × Value)} (hdg : decode cc pc = .ok (.istore i, 2)) (hn : i < nL) (hl' : (i, Value.int x) :: lv.filter (fun q => !(q.1 == i) && !(q.1 + 1 == i && q.2.category == 2)) = lv') (kk : J l D G n k w lv' (pc + 2) st) : J l D G n k w lv pc (.int x :: st) :=
  fun H locs ls hP hD hS hl => lv_istore X.1 X.2.1 hdg hl (by rw [X.2.2.1]; exact hn) hl' (fun ls hl => kk H locs ls hP hD hS hl)
theorem j_astore_n (X : kX D tA G cc nL own fr lo) {kk0 : Fin 4} {i : Nat} {x : Nat} {lv' : List (Nat × Value)} (hdg : decode cc pc = .ok (.astore_n kk0, 1)) (hi : (kk0 : Nat) = i) (hn : i < nL) (hl' : (i, Value.ref x) :: lv.filter (fun q => !(q.1 == i) && !(q.1 + 1 == i && q.2.category == 2)) = lv') (kk : J l D G n k w lv' (pc + 1) st) : J l D G n k w lv pc (.ref x :: st) :=
  fun H locs ls hP hD hS hl => lv_astore_n X.1 X.2.1 hdg hi hl (by rw [X.2.2.1]; exact hn) hl' (fun ls hl => kk H locs ls hP hD hS hl)
theorem j_astore (X : kX D tA G cc nL own fr lo) {i : Nat} {x : Nat} {lv' : List (Nat × Value)} (hdg : decode cc pc = .ok (.astore i, 2)) (hn : i < nL) (hl' : (i, Value.ref x) :: lv.filter (fun q => !(q.1 == i) && !(q.1 + 1 == i && q.2.category == 2)) = lv') (kk : J l D G n k w lv' (pc + 2) st) : J l D G n k w lv pc (.ref x :: st) :=
  fun H locs ls hP hD hS hl => lv_astore X.1 X.2.1 hdg hl (by rw [X.2.2.1]; exact hn) hl' (fun ls hl => kk H locs ls hP hD hS hl)
theorem j_iinc (X : kX D tA G cc nL own fr lo) {i : Nat} {j : Int} {x v : Int32} {lv' : List (Nat × Value)} (hdg : decode cc pc = .ok (.iinc i j, 3)) {q : Nat} (hk : lv[q]? = some (i, .int x)) (hv : x + Int32.ofInt j = v) (hn : i < nL) (hl' : (i, Value.int v) :: lv.filter (fun q => !(q.1 == i) && !(q.1 + 1 == i && q.2.category == 2)) = lv') (kk : J l D G n k w lv' (pc + 3) st) : J l D G n k w lv pc st :=
  fun H locs ls hP hD hS hl => lv_iinc X.1 X.2.1 hdg hl hk hv (by rw [X.2.2.1]; exact hn) hl' (fun ls hl => kk H locs ls hP hD hS hl)
theorem j_lv (X : kX D tA G cc nL own fr lo) (ks : List Nat) {lv' : List (Nat × Value)} (hl' : lv_pick lv ks = lv') (kk : J l D G n k w lv' pc st) : J l D G n k w lv pc st :=
  fun H locs ls hP hD hS hl => kk H locs ls hP hD hS (lv_sub hl ks hl')
theorem j_iadd (X : kX D tA G cc nL own fr lo) {x y v : Int32} (hdg : decode cc pc = .ok (.iadd, 1)) (hv : x + y = v) (kk : J l D G n k w lv (pc + 1) (.int v :: st)) : J l D G n k w lv pc (.int y :: .int x :: st) :=
  fun H locs ls hP hD hS hl => lv_iadd X.1 X.2.1 hdg (by rw [hv]; exact kk H locs ls hP hD hS hl)
theorem j_isub (X : kX D tA G cc nL own fr lo) {x y v : Int32} (hdg : decode cc pc = .ok (.isub, 1)) (hv : x - y = v) (kk : J l D G n k w lv (pc + 1) (.int v :: st)) : J l D G n k w lv pc (.int y :: .int x :: st) :=
  fun H locs ls hP hD hS hl => lv_isub X.1 X.2.1 hdg (by rw [hv]; exact kk H locs ls hP hD hS hl)
theorem j_imul (X : kX D tA G cc nL own fr lo) {x y v : Int32} (hdg : decode cc pc = .ok (.imul, 1)) (hv : x * y = v) (kk : J l D G n k w lv (pc + 1) (.int v :: st)) : J l D G n k w lv pc (.int y :: .int x :: st) :=
  fun H locs ls hP hD hS hl => lv_imul X.1 X.2.1 hdg (by rw [hv]; exact kk H locs ls hP hD hS hl)
theorem j_idiv (X : kX D tA G cc nL own fr lo) {x y v : Int32} (hdg : decode cc pc = .ok (.idiv, 1)) (hne : ¬ y = 0) (hv : x / y = v) (kk : J l D G n k w lv (pc + 1) (.int v :: st)) : J l D G n k w lv pc (.int y :: .int x :: st) :=
  fun H locs ls hP hD hS hl => lv_idiv X.1 X.2.1 hdg hne (by rw [hv]; exact kk H locs ls hP hD hS hl)
theorem j_irem (X : kX D tA G cc nL own fr lo) {x y v : Int32} (hdg : decode cc pc = .ok (.irem, 1)) (hne : ¬ y = 0) (hv : x - x / y * y = v) (kk : J l D G n k w lv (pc + 1) (.int v :: st)) : J l D G n k w lv pc (.int y :: .int x :: st) :=
  fun H locs ls hP hD hS hl => lv_irem X.1 X.2.1 hdg hne (by rw [hv]; exact kk H locs ls hP hD hS hl)
theorem j_ineg (X : kX D tA G cc nL own fr lo) {x v : Int32} (hdg : decode cc pc = .ok (.ineg, 1)) (hv : -x = v) (kk : J l D G n k w lv (pc + 1) (.int v :: st)) : J l D G n k w lv pc (.int x :: st) :=
  by
  subst hv
  exact fun H locs ls hP hD hS hl => lv_ineg X.1 X.2.1 hdg (kk H locs ls hP hD hS hl)
theorem j_iand (X : kX D tA G cc nL own fr lo) {x y v : Int32} (hdg : decode cc pc = .ok (.iand, 1)) (hv : x &&& y = v) (kk : J l D G n k w lv (pc + 1) (.int v :: st)) : J l D G n k w lv pc (.int y :: .int x :: st) :=
  fun H locs ls hP hD hS hl => lv_iand X.1 X.2.1 hdg (by rw [hv]; exact kk H locs ls hP hD hS hl)
theorem j_i2c (X : kX D tA G cc nL own fr lo) {x v : Int32} (hdg : decode cc pc = .ok (.i2c, 1)) (hv : (x.toUInt32 % 65536).toInt32 = v) (kk : J l D G n k w lv (pc + 1) (.int v :: st)) : J l D G n k w lv pc (.int x :: st) :=
  fun H locs ls hP hD hS hl => lv_i2c X.1 X.2.1 hdg hv (kk H locs ls hP hD hS hl)
theorem j_dup (X : kX D tA G cc nL own fr lo) {va : Value} (hdg : decode cc pc = .ok (.dup, 1)) (hva : va.category = 1) (kk : J l D G n k w lv (pc + 1) (va :: va :: st)) : J l D G n k w lv pc (va :: st) :=
  fun H locs ls hP hD hS hl => lv_dup X.1 X.2.1 hdg hva (kk H locs ls hP hD hS hl)
theorem j_pop (X : kX D tA G cc nL own fr lo) {va : Value} (hdg : decode cc pc = .ok (.pop, 1)) (hva : va.category = 1) (kk : J l D G n k w lv (pc + 1) st) : J l D G n k w lv pc (va :: st) :=
  fun H locs ls hP hD hS hl => lv_pop X.1 X.2.1 hdg hva (kk H locs ls hP hD hS hl)
theorem j_dup2 (X : kX D tA G cc nL own fr lo) {va vb : Value} (hdg : decode cc pc = .ok (.dup2, 1)) (hva : va.category = 1) (hvb : vb.category = 1) (kk : J l D G n k w lv (pc + 1) (va :: vb :: va :: vb :: st)) : J l D G n k w lv pc (va :: vb :: st) :=
  fun H locs ls hP hD hS hl => lv_dup2_11 X.1 X.2.1 hdg hva hvb (kk H locs ls hP hD hS hl)
theorem j_if_eq (X : kX D tA G cc nL own fr lo) {x : Int32} {off : Int} {tgt : Nat} {P : Prop} (hdg : decode cc pc = .ok (.ifCond .eq off, 3)) (ht : (pc : Int) + off = (tgt : Int)) (hP : (x = 0) ↔ P) (k1 : P → J l D G n k w lv tgt st) (k2 : ¬ P → J l D G n k w lv (pc + 3) st) : J l D G n k w lv pc (.int x :: st) :=
  fun H locs ls hP1 hD hS hl => lv_if_eq X.1 X.2.1 hdg ht (fun h => k1 (hP.mp h) H locs ls hP1 hD hS hl) (fun h => k2 (fun q => h (hP.mpr q)) H locs ls hP1 hD hS hl)
theorem j_if_eq_t (X : kX D tA G cc nL own fr lo) {x : Int32} {off : Int} {tgt : Nat} (hdg : decode cc pc = .ok (.ifCond .eq off, 3)) (ht : (pc : Int) + off = (tgt : Int)) (hP : x = 0) (k1 : J l D G n k w lv tgt st) : J l D G n k w lv pc (.int x :: st) :=
  fun H locs ls hP1 hD hS hl => lv_if_eq X.1 X.2.1 hdg ht (fun _ => k1 H locs ls hP1 hD hS hl) (fun h => absurd hP h)
theorem j_if_eq_f (X : kX D tA G cc nL own fr lo) {x : Int32} {off : Int} {tgt : Nat} (hdg : decode cc pc = .ok (.ifCond .eq off, 3)) (ht : (pc : Int) + off = (tgt : Int)) (hP : ¬ (x = 0)) (k2 : J l D G n k w lv (pc + 3) st) : J l D G n k w lv pc (.int x :: st) :=
  fun H locs ls hP1 hD hS hl => lv_if_eq X.1 X.2.1 hdg ht (fun h => absurd h hP) (fun _ => k2 H locs ls hP1 hD hS hl)
theorem j_icmp_eq (X : kX D tA G cc nL own fr lo) {x y : Int32} {off : Int} {tgt : Nat} {P : Prop} (hdg : decode cc pc = .ok (.if_icmp .eq off, 3)) (ht : (pc : Int) + off = (tgt : Int)) (hP : (x = y) ↔ P) (k1 : P → J l D G n k w lv tgt st) (k2 : ¬ P → J l D G n k w lv (pc + 3) st) : J l D G n k w lv pc (.int y :: .int x :: st) :=
  fun H locs ls hP1 hD hS hl => lv_icmp_eq X.1 X.2.1 hdg ht (fun h => k1 (hP.mp h) H locs ls hP1 hD hS hl) (fun h => k2 (fun q => h (hP.mpr q)) H locs ls hP1 hD hS hl)
theorem j_icmp_eq_t (X : kX D tA G cc nL own fr lo) {x y : Int32} {off : Int} {tgt : Nat} (hdg : decode cc pc = .ok (.if_icmp .eq off, 3)) (ht : (pc : Int) + off = (tgt : Int)) (hP : x = y) (k1 : J l D G n k w lv tgt st) : J l D G n k w lv pc (.int y :: .int x :: st) :=
  fun H locs ls hP1 hD hS hl => lv_icmp_eq X.1 X.2.1 hdg ht (fun _ => k1 H locs ls hP1 hD hS hl) (fun h => absurd hP h)
theorem j_icmp_eq_f (X : kX D tA G cc nL own fr lo) {x y : Int32} {off : Int} {tgt : Nat} (hdg : decode cc pc = .ok (.if_icmp .eq off, 3)) (ht : (pc : Int) + off = (tgt : Int)) (hP : ¬ (x = y)) (k2 : J l D G n k w lv (pc + 3) st) : J l D G n k w lv pc (.int y :: .int x :: st) :=
  fun H locs ls hP1 hD hS hl => lv_icmp_eq X.1 X.2.1 hdg ht (fun h => absurd h hP) (fun _ => k2 H locs ls hP1 hD hS hl)
theorem j_if_ne (X : kX D tA G cc nL own fr lo) {x : Int32} {off : Int} {tgt : Nat} {P : Prop} (hdg : decode cc pc = .ok (.ifCond .ne off, 3)) (ht : (pc : Int) + off = (tgt : Int)) (hP : (¬ x = 0) ↔ P) (k1 : P → J l D G n k w lv tgt st) (k2 : ¬ P → J l D G n k w lv (pc + 3) st) : J l D G n k w lv pc (.int x :: st) :=
  fun H locs ls hP1 hD hS hl => lv_if_ne X.1 X.2.1 hdg ht (fun h => k1 (hP.mp h) H locs ls hP1 hD hS hl) (fun h => k2 (fun q => hP.mpr q h) H locs ls hP1 hD hS hl)
theorem j_if_ne_t (X : kX D tA G cc nL own fr lo) {x : Int32} {off : Int} {tgt : Nat} (hdg : decode cc pc = .ok (.ifCond .ne off, 3)) (ht : (pc : Int) + off = (tgt : Int)) (hP : ¬ x = 0) (k1 : J l D G n k w lv tgt st) : J l D G n k w lv pc (.int x :: st) :=
  fun H locs ls hP1 hD hS hl => lv_if_ne X.1 X.2.1 hdg ht (fun _ => k1 H locs ls hP1 hD hS hl) (fun h => absurd h hP)
theorem j_if_ne_f (X : kX D tA G cc nL own fr lo) {x : Int32} {off : Int} {tgt : Nat} (hdg : decode cc pc = .ok (.ifCond .ne off, 3)) (ht : (pc : Int) + off = (tgt : Int)) (hP : ¬ (¬ x = 0)) (k2 : J l D G n k w lv (pc + 3) st) : J l D G n k w lv pc (.int x :: st) :=
  fun H locs ls hP1 hD hS hl => lv_if_ne X.1 X.2.1 hdg ht (fun h => absurd h hP) (fun _ => k2 H locs ls hP1 hD hS hl)
theorem j_icmp_ne (X : kX D tA G cc nL own fr lo) {x y : Int32} {off : Int} {tgt : Nat} {P : Prop} (hdg : decode cc pc = .ok (.if_icmp .ne off, 3)) (ht : (pc : Int) + off = (tgt : Int)) (hP : (¬ x = y) ↔ P) (k1 : P → J l D G n k w lv tgt st) (k2 : ¬ P → J l D G n k w lv (pc + 3) st) : J l D G n k w lv pc (.int y :: .int x :: st) :=
  fun H locs ls hP1 hD hS hl => lv_icmp_ne X.1 X.2.1 hdg ht (fun h => k1 (hP.mp h) H locs ls hP1 hD hS hl) (fun h => k2 (fun q => hP.mpr q h) H locs ls hP1 hD hS hl)
theorem j_icmp_ne_t (X : kX D tA G cc nL own fr lo) {x y : Int32} {off : Int} {tgt : Nat} (hdg : decode cc pc = .ok (.if_icmp .ne off, 3)) (ht : (pc : Int) + off = (tgt : Int)) (hP : ¬ x = y) (k1 : J l D G n k w lv tgt st) : J l D G n k w lv pc (.int y :: .int x :: st) :=
  fun H locs ls hP1 hD hS hl => lv_icmp_ne X.1 X.2.1 hdg ht (fun _ => k1 H locs ls hP1 hD hS hl) (fun h => absurd h hP)
theorem j_icmp_ne_f (X : kX D tA G cc nL own fr lo) {x y : Int32} {off : Int} {tgt : Nat} (hdg : decode cc pc = .ok (.if_icmp .ne off, 3)) (ht : (pc : Int) + off = (tgt : Int)) (hP : ¬ (¬ x = y)) (k2 : J l D G n k w lv (pc + 3) st) : J l D G n k w lv pc (.int y :: .int x :: st) :=
  fun H locs ls hP1 hD hS hl => lv_icmp_ne X.1 X.2.1 hdg ht (fun h => absurd h hP) (fun _ => k2 H locs ls hP1 hD hS hl)
theorem j_if_lt (X : kX D tA G cc nL own fr lo) {x : Int32} {off : Int} {tgt : Nat} {P : Prop} (hdg : decode cc pc = .ok (.ifCond .lt off, 3)) (ht : (pc : Int) + off = (tgt : Int)) (hP : (x < 0) ↔ P) (k1 : P → J l D G n k w lv tgt st) (k2 : ¬ P → J l D G n k w lv (pc + 3) st) : J l D G n k w lv pc (.int x :: st) :=
  fun H locs ls hP1 hD hS hl => lv_if_lt X.1 X.2.1 hdg ht (fun h => k1 (hP.mp h) H locs ls hP1 hD hS hl) (fun h => k2 (fun q => h (hP.mpr q)) H locs ls hP1 hD hS hl)
theorem j_if_lt_t (X : kX D tA G cc nL own fr lo) {x : Int32} {off : Int} {tgt : Nat} (hdg : decode cc pc = .ok (.ifCond .lt off, 3)) (ht : (pc : Int) + off = (tgt : Int)) (hP : x < 0) (k1 : J l D G n k w lv tgt st) : J l D G n k w lv pc (.int x :: st) :=
  fun H locs ls hP1 hD hS hl => lv_if_lt X.1 X.2.1 hdg ht (fun _ => k1 H locs ls hP1 hD hS hl) (fun h => absurd hP h)
theorem j_if_lt_f (X : kX D tA G cc nL own fr lo) {x : Int32} {off : Int} {tgt : Nat} (hdg : decode cc pc = .ok (.ifCond .lt off, 3)) (ht : (pc : Int) + off = (tgt : Int)) (hP : ¬ (x < 0)) (k2 : J l D G n k w lv (pc + 3) st) : J l D G n k w lv pc (.int x :: st) :=
  fun H locs ls hP1 hD hS hl => lv_if_lt X.1 X.2.1 hdg ht (fun h => absurd h hP) (fun _ => k2 H locs ls hP1 hD hS hl)
theorem j_icmp_lt (X : kX D tA G cc nL own fr lo) {x y : Int32} {off : Int} {tgt : Nat} {P : Prop} (hdg : decode cc pc = .ok (.if_icmp .lt off, 3)) (ht : (pc : Int) + off = (tgt : Int)) (hP : (x < y) ↔ P) (k1 : P → J l D G n k w lv tgt st) (k2 : ¬ P → J l D G n k w lv (pc + 3) st) : J l D G n k w lv pc (.int y :: .int x :: st) :=
  fun H locs ls hP1 hD hS hl => lv_icmp_lt X.1 X.2.1 hdg ht (fun h => k1 (hP.mp h) H locs ls hP1 hD hS hl) (fun h => k2 (fun q => h (hP.mpr q)) H locs ls hP1 hD hS hl)
theorem j_icmp_lt_t (X : kX D tA G cc nL own fr lo) {x y : Int32} {off : Int} {tgt : Nat} (hdg : decode cc pc = .ok (.if_icmp .lt off, 3)) (ht : (pc : Int) + off = (tgt : Int)) (hP : x < y) (k1 : J l D G n k w lv tgt st) : J l D G n k w lv pc (.int y :: .int x :: st) :=
  fun H locs ls hP1 hD hS hl => lv_icmp_lt X.1 X.2.1 hdg ht (fun _ => k1 H locs ls hP1 hD hS hl) (fun h => absurd hP h)
theorem j_icmp_lt_f (X : kX D tA G cc nL own fr lo) {x y : Int32} {off : Int} {tgt : Nat} (hdg : decode cc pc = .ok (.if_icmp .lt off, 3)) (ht : (pc : Int) + off = (tgt : Int)) (hP : ¬ (x < y)) (k2 : J l D G n k w lv (pc + 3) st) : J l D G n k w lv pc (.int y :: .int x :: st) :=
  fun H locs ls hP1 hD hS hl => lv_icmp_lt X.1 X.2.1 hdg ht (fun h => absurd h hP) (fun _ => k2 H locs ls hP1 hD hS hl)
theorem j_if_ge (X : kX D tA G cc nL own fr lo) {x : Int32} {off : Int} {tgt : Nat} {P : Prop} (hdg : decode cc pc = .ok (.ifCond .ge off, 3)) (ht : (pc : Int) + off = (tgt : Int)) (hP : (0 ≤ x) ↔ P) (k1 : P → J l D G n k w lv tgt st) (k2 : ¬ P → J l D G n k w lv (pc + 3) st) : J l D G n k w lv pc (.int x :: st) :=
  fun H locs ls hP1 hD hS hl => lv_if_ge X.1 X.2.1 hdg ht (fun h => k1 (hP.mp h) H locs ls hP1 hD hS hl) (fun h => k2 (fun q => h (hP.mpr q)) H locs ls hP1 hD hS hl)
theorem j_if_ge_t (X : kX D tA G cc nL own fr lo) {x : Int32} {off : Int} {tgt : Nat} (hdg : decode cc pc = .ok (.ifCond .ge off, 3)) (ht : (pc : Int) + off = (tgt : Int)) (hP : 0 ≤ x) (k1 : J l D G n k w lv tgt st) : J l D G n k w lv pc (.int x :: st) :=
  fun H locs ls hP1 hD hS hl => lv_if_ge X.1 X.2.1 hdg ht (fun _ => k1 H locs ls hP1 hD hS hl) (fun h => absurd hP h)
theorem j_if_ge_f (X : kX D tA G cc nL own fr lo) {x : Int32} {off : Int} {tgt : Nat} (hdg : decode cc pc = .ok (.ifCond .ge off, 3)) (ht : (pc : Int) + off = (tgt : Int)) (hP : ¬ (0 ≤ x)) (k2 : J l D G n k w lv (pc + 3) st) : J l D G n k w lv pc (.int x :: st) :=
  fun H locs ls hP1 hD hS hl => lv_if_ge X.1 X.2.1 hdg ht (fun h => absurd h hP) (fun _ => k2 H locs ls hP1 hD hS hl)
theorem j_icmp_ge (X : kX D tA G cc nL own fr lo) {x y : Int32} {off : Int} {tgt : Nat} {P : Prop} (hdg : decode cc pc = .ok (.if_icmp .ge off, 3)) (ht : (pc : Int) + off = (tgt : Int)) (hP : (y ≤ x) ↔ P) (k1 : P → J l D G n k w lv tgt st) (k2 : ¬ P → J l D G n k w lv (pc + 3) st) : J l D G n k w lv pc (.int y :: .int x :: st) :=
  fun H locs ls hP1 hD hS hl => lv_icmp_ge X.1 X.2.1 hdg ht (fun h => k1 (hP.mp h) H locs ls hP1 hD hS hl) (fun h => k2 (fun q => h (hP.mpr q)) H locs ls hP1 hD hS hl)
theorem j_icmp_ge_t (X : kX D tA G cc nL own fr lo) {x y : Int32} {off : Int} {tgt : Nat} (hdg : decode cc pc = .ok (.if_icmp .ge off, 3)) (ht : (pc : Int) + off = (tgt : Int)) (hP : y ≤ x) (k1 : J l D G n k w lv tgt st) : J l D G n k w lv pc (.int y :: .int x :: st) :=
  fun H locs ls hP1 hD hS hl => lv_icmp_ge X.1 X.2.1 hdg ht (fun _ => k1 H locs ls hP1 hD hS hl) (fun h => absurd hP h)
theorem j_icmp_ge_f (X : kX D tA G cc nL own fr lo) {x y : Int32} {off : Int} {tgt : Nat} (hdg : decode cc pc = .ok (.if_icmp .ge off, 3)) (ht : (pc : Int) + off = (tgt : Int)) (hP : ¬ (y ≤ x)) (k2 : J l D G n k w lv (pc + 3) st) : J l D G n k w lv pc (.int y :: .int x :: st) :=
  fun H locs ls hP1 hD hS hl => lv_icmp_ge X.1 X.2.1 hdg ht (fun h => absurd h hP) (fun _ => k2 H locs ls hP1 hD hS hl)
theorem j_if_gt (X : kX D tA G cc nL own fr lo) {x : Int32} {off : Int} {tgt : Nat} {P : Prop} (hdg : decode cc pc = .ok (.ifCond .gt off, 3)) (ht : (pc : Int) + off = (tgt : Int)) (hP : (0 < x) ↔ P) (k1 : P → J l D G n k w lv tgt st) (k2 : ¬ P → J l D G n k w lv (pc + 3) st) : J l D G n k w lv pc (.int x :: st) :=
  fun H locs ls hP1 hD hS hl => lv_if_gt X.1 X.2.1 hdg ht (fun h => k1 (hP.mp h) H locs ls hP1 hD hS hl) (fun h => k2 (fun q => h (hP.mpr q)) H locs ls hP1 hD hS hl)
theorem j_if_gt_t (X : kX D tA G cc nL own fr lo) {x : Int32} {off : Int} {tgt : Nat} (hdg : decode cc pc = .ok (.ifCond .gt off, 3)) (ht : (pc : Int) + off = (tgt : Int)) (hP : 0 < x) (k1 : J l D G n k w lv tgt st) : J l D G n k w lv pc (.int x :: st) :=
  fun H locs ls hP1 hD hS hl => lv_if_gt X.1 X.2.1 hdg ht (fun _ => k1 H locs ls hP1 hD hS hl) (fun h => absurd hP h)
theorem j_if_gt_f (X : kX D tA G cc nL own fr lo) {x : Int32} {off : Int} {tgt : Nat} (hdg : decode cc pc = .ok (.ifCond .gt off, 3)) (ht : (pc : Int) + off = (tgt : Int)) (hP : ¬ (0 < x)) (k2 : J l D G n k w lv (pc + 3) st) : J l D G n k w lv pc (.int x :: st) :=
  fun H locs ls hP1 hD hS hl => lv_if_gt X.1 X.2.1 hdg ht (fun h => absurd h hP) (fun _ => k2 H locs ls hP1 hD hS hl)
theorem j_icmp_gt (X : kX D tA G cc nL own fr lo) {x y : Int32} {off : Int} {tgt : Nat} {P : Prop} (hdg : decode cc pc = .ok (.if_icmp .gt off, 3)) (ht : (pc : Int) + off = (tgt : Int)) (hP : (y < x) ↔ P) (k1 : P → J l D G n k w lv tgt st) (k2 : ¬ P → J l D G n k w lv (pc + 3) st) : J l D G n k w lv pc (.int y :: .int x :: st) :=
  fun H locs ls hP1 hD hS hl => lv_icmp_gt X.1 X.2.1 hdg ht (fun h => k1 (hP.mp h) H locs ls hP1 hD hS hl) (fun h => k2 (fun q => h (hP.mpr q)) H locs ls hP1 hD hS hl)
theorem j_icmp_gt_t (X : kX D tA G cc nL own fr lo) {x y : Int32} {off : Int} {tgt : Nat} (hdg : decode cc pc = .ok (.if_icmp .gt off, 3)) (ht : (pc : Int) + off = (tgt : Int)) (hP : y < x) (k1 : J l D G n k w lv tgt st) : J l D G n k w lv pc (.int y :: .int x :: st) :=
  fun H locs ls hP1 hD hS hl => lv_icmp_gt X.1 X.2.1 hdg ht (fun _ => k1 H locs ls hP1 hD hS hl) (fun h => absurd hP h)
theorem j_icmp_gt_f (X : kX D tA G cc nL own fr lo) {x y : Int32} {off : Int} {tgt : Nat} (hdg : decode cc pc = .ok (.if_icmp .gt off, 3)) (ht : (pc : Int) + off = (tgt : Int)) (hP : ¬ (y < x)) (k2 : J l D G n k w lv (pc + 3) st) : J l D G n k w lv pc (.int y :: .int x :: st) :=
  fun H locs ls hP1 hD hS hl => lv_icmp_gt X.1 X.2.1 hdg ht (fun h => absurd h hP) (fun _ => k2 H locs ls hP1 hD hS hl)
theorem j_if_le (X : kX D tA G cc nL own fr lo) {x : Int32} {off : Int} {tgt : Nat} {P : Prop} (hdg : decode cc pc = .ok (.ifCond .le off, 3)) (ht : (pc : Int) + off = (tgt : Int)) (hP : (x ≤ 0) ↔ P) (k1 : P → J l D G n k w lv tgt st) (k2 : ¬ P → J l D G n k w lv (pc + 3) st) : J l D G n k w lv pc (.int x :: st) :=
  fun H locs ls hP1 hD hS hl => lv_if_le X.1 X.2.1 hdg ht (fun h => k1 (hP.mp h) H locs ls hP1 hD hS hl) (fun h => k2 (fun q => h (hP.mpr q)) H locs ls hP1 hD hS hl)
theorem j_if_le_t (X : kX D tA G cc nL own fr lo) {x : Int32} {off : Int} {tgt : Nat} (hdg : decode cc pc = .ok (.ifCond .le off, 3)) (ht : (pc : Int) + off = (tgt : Int)) (hP : x ≤ 0) (k1 : J l D G n k w lv tgt st) : J l D G n k w lv pc (.int x :: st) :=
  fun H locs ls hP1 hD hS hl => lv_if_le X.1 X.2.1 hdg ht (fun _ => k1 H locs ls hP1 hD hS hl) (fun h => absurd hP h)
theorem j_if_le_f (X : kX D tA G cc nL own fr lo) {x : Int32} {off : Int} {tgt : Nat} (hdg : decode cc pc = .ok (.ifCond .le off, 3)) (ht : (pc : Int) + off = (tgt : Int)) (hP : ¬ (x ≤ 0)) (k2 : J l D G n k w lv (pc + 3) st) : J l D G n k w lv pc (.int x :: st) :=
  fun H locs ls hP1 hD hS hl => lv_if_le X.1 X.2.1 hdg ht (fun h => absurd h hP) (fun _ => k2 H locs ls hP1 hD hS hl)
theorem j_icmp_le (X : kX D tA G cc nL own fr lo) {x y : Int32} {off : Int} {tgt : Nat} {P : Prop} (hdg : decode cc pc = .ok (.if_icmp .le off, 3)) (ht : (pc : Int) + off = (tgt : Int)) (hP : (x ≤ y) ↔ P) (k1 : P → J l D G n k w lv tgt st) (k2 : ¬ P → J l D G n k w lv (pc + 3) st) : J l D G n k w lv pc (.int y :: .int x :: st) :=
  fun H locs ls hP1 hD hS hl => lv_icmp_le X.1 X.2.1 hdg ht (fun h => k1 (hP.mp h) H locs ls hP1 hD hS hl) (fun h => k2 (fun q => h (hP.mpr q)) H locs ls hP1 hD hS hl)
theorem j_icmp_le_t (X : kX D tA G cc nL own fr lo) {x y : Int32} {off : Int} {tgt : Nat} (hdg : decode cc pc = .ok (.if_icmp .le off, 3)) (ht : (pc : Int) + off = (tgt : Int)) (hP : x ≤ y) (k1 : J l D G n k w lv tgt st) : J l D G n k w lv pc (.int y :: .int x :: st) :=
  fun H locs ls hP1 hD hS hl => lv_icmp_le X.1 X.2.1 hdg ht (fun _ => k1 H locs ls hP1 hD hS hl) (fun h => absurd hP h)
theorem j_icmp_le_f (X : kX D tA G cc nL own fr lo) {x y : Int32} {off : Int} {tgt : Nat} (hdg : decode cc pc = .ok (.if_icmp .le off, 3)) (ht : (pc : Int) + off = (tgt : Int)) (hP : ¬ (x ≤ y)) (k2 : J l D G n k w lv (pc + 3) st) : J l D G n k w lv pc (.int y :: .int x :: st) :=
  fun H locs ls hP1 hD hS hl => lv_icmp_le X.1 X.2.1 hdg ht (fun h => absurd h hP) (fun _ => k2 H locs ls hP1 hD hS hl)
theorem j_goto (X : kX D tA G cc nL own fr lo) {off : Int} {tgt : Nat} (hdg : decode cc pc = .ok (.goto off, 3)) (ht : (pc : Int) + off = (tgt : Int)) (kk : J l D G n k w lv tgt st) : J l D G n k w lv pc st :=
  fun H locs ls hP hD hS hl => lv_goto X.1 X.2.1 hdg ht (kk H locs ls hP hD hS hl)
theorem j_ifnonnull (X : kX D tA G cc nL own fr lo) {x : Nat} {off : Int} {tgt : Nat} (hdg : decode cc pc = .ok (.ifnonnull off, 3)) (ht : (pc : Int) + off = (tgt : Int)) (kk : J l D G n k w lv tgt st) : J l D G n k w lv pc (.ref x :: st) :=
  fun H locs ls hP hD hS hl => lv_ifnonnull X.1 X.2.1 hdg ht (kk H locs ls hP hD hS hl)
theorem j_swOut (X : kX D tA G cc nL own fr lo) {dflt lo9 hi : Int} {offs : Array Int} {len : Nat} {x : Int32} {tgt : Nat} (hdg : decode cc pc = .ok (.tableswitch dflt lo9 hi offs, len)) (h : x.toInt < lo9 ∨ hi < x.toInt) (ht : (pc : Int) + dflt = (tgt : Int)) (kk : J l D G n k w lv tgt st) : J l D G n k w lv pc (.int x :: st) :=
  fun H locs ls hP hD hS hl => lv_tableOut X.1 X.2.1 hdg h ht (kk H locs ls hP hD hS hl)
theorem j_swIn (X : kX D tA G cc nL own fr lo) {dflt lo9 hi : Int} {offs : Array Int} {len : Nat} {x : Int32} {off : Int} {tgt : Nat} (hdg : decode cc pc = .ok (.tableswitch dflt lo9 hi offs, len)) (h1 : ¬ x.toInt < lo9) (h2 : ¬ hi < x.toInt) (ho : offs[(x.toInt - lo9).toNat]? = some off) (ht : (pc : Int) + off = (tgt : Int)) (kk : J l D G n k w lv tgt st) : J l D G n k w lv pc (.int x :: st) :=
  fun H locs ls hP hD hS hl => lv_tableIn X.1 X.2.1 hdg h1 h2 ho ht (kk H locs ls hP hD hS hl)
theorem kT (X : kX D tA G cc nL own fr lo) (t0 : Nat) : va_K D vwCl (kTY tA) (gs G) := X.2.2.2.2.2.1.1
theorem j_get (X : kX D tA G cc nL own fr lo) {C : String} {T : u_T} {N ci index a : Nat} (hin : ∀ w ∈ u_ws C T N, w ∈ kALL) (q0 : Nat) {fs : List Value} (he : w[q0]? = some (a, .inr (ci, fs))) (hc : vwCl[ci]? = some (C, T, N)) (k0 : Nat) (hk : k0 < N) (hlink : Cond.fieldLink own index (T k0).1 (T k0).2.1 (T k0).2.2.1 ∈ kALL) {v : Value} (hv : fs[k0]? = some v) (hdg : decode cc pc = .ok (.getfield index, 3)) (kk : J l D G n k w lv (pc + 3) (v :: st)) : J l D G n k w lv pc (.ref a :: st) :=
  fun H locs ls hP hD hS hl => va_get (D := D) (cl := vwCl) (ws := w) (tys := kTY tA) X.1 X.2.1 X.2.2.2.2.1 hin X.2.2.2.1 X.2.2.2.2.2.1.1 hP q0 he hc k0 hk (X.2.2.2.2.1 _ hlink) (fun _ h => h) hv hdg (kk H locs ls hP hD hS hl)
theorem j_put (X : kX D tA G cc nL own fr lo) {C : String} {T : u_T} {N ci index a : Nat} (hin : ∀ w ∈ u_ws C T N, w ∈ kALL) (ty0 : Nat → FieldType) (hty : ∀ k, k < N → parseFieldDescriptor (T k).2.2.1 = some (ty0 k)) (hnm : ∀ a, a < N → ∀ b, b < N → a ≠ b → (T a).2.1 ≠ (T b).2.1) (q0 : Nat) {fs : List Value} (he : w[q0]? = some (a, .inr (ci, fs))) (hc : vwCl[ci]? = some (C, T, N)) (k0 : Nat) (hk : k0 < N) (hlink : Cond.fieldLink own index (T k0).1 (T k0).2.1 (T k0).2.2.1 ∈ kALL) (hfin : (T k0).2.2.2 = false) {v : Value} (hn : narrow (ty0 k0) v = v) (hfit : fits (ty0 k0) v = true) (hl0 : k0 < fs.length) {w' : va_W} (hw : w.set q0 (a, .inr (ci, fs.set k0 v)) = w') (hdg : decode cc pc = .ok (.putfield index, 3)) (kk : J l D G n k w' lv (pc + 3) st) : J l D G n k w lv pc (v :: .ref a :: st) :=
  fun H locs ls hP hD hS hl => va_put (D := D) (cl := vwCl) (ws := w) (tys := kTY tA) X.1 X.2.1 X.2.2.2.2.1 hin ty0 hty hnm X.2.2.2.1 X.2.2.2.2.2.1.1 hP hD hS q0 he hc k0 hk (X.2.2.2.2.1 _ hlink) (fun _ h => h) hfin (hty k0 hk) hn hfit hl0 hdg (fun H1 locs1 hP1 hD1 hS1 => kk H1 locs1 ls (hw ▸ hP1) (hw ▸ hD1) hS1 hl)
theorem j_iald (X : kX D tA G cc nL own fr lo) (q0 : Nat) {a N i : Nat} {f : Nat → Nat} (he : w[q0]? = some (a, .inl (tA 0, N, .inl (nF f)))) (hi : i < N) (hN : N < 65536) (hdg : decode cc pc = .ok (.iaload, 1)) (kk : J l D G n k w lv (pc + 1) (.int (nI (f i)) :: st)) : J l D G n k w lv pc (.int (nI i) :: .ref a :: st) :=
  fun H locs ls hP hD hS hl => va_iald (D := D) (cl := vwCl) (ws := w) (tys := kTY tA) X.1 X.2.1 X.2.2.2.2.2.1.1 hP q0 0 he rfl (vp_in_nI hi (by omega)) hdg (by rw [nI_clamp (by omega)]; exact kk H locs ls hP hD hS hl)
theorem j_cald (X : kX D tA G cc nL own fr lo) (q0 : Nat) {a N i : Nat} {f : Nat → Nat} (he : w[q0]? = some (a, .inl (tA 1, N, .inl (nF f)))) (hi : i < N) (hN : N < 65536) (hdg : decode cc pc = .ok (.caload, 1)) (kk : J l D G n k w lv (pc + 1) (.int (nI (f i)) :: st)) : J l D G n k w lv pc (.int (nI i) :: .ref a :: st) :=
  fun H locs ls hP hD hS hl => va_cald (D := D) (cl := vwCl) (ws := w) (tys := kTY tA) X.1 X.2.1 X.2.2.2.2.2.1.1 hP q0 1 he rfl (vp_in_nI hi (by omega)) hdg (by rw [nI_clamp (by omega)]; exact kk H locs ls hP hD hS hl)
theorem j_iast (X : kX D tA G cc nL own fr lo) (q0 : Nat) {a N i v : Nat} {f : Nat → Nat} (he : w[q0]? = some (a, .inl (tA 0, N, .inl (nF f)))) (hi : i < N) (hN : N < 65536) {w' : va_W} (hw : w.set q0 (a, .inl (tA 0, N, .inl (nF (va_up f i v)))) = w') (hdg : decode cc pc = .ok (.iastore, 1)) (kk : J l D G n k w' lv (pc + 1) st) : J l D G n k w lv pc (.int (nI v) :: .int (nI i) :: .ref a :: st) :=
  fun H locs ls hP hD hS hl => va_iast (D := D) (cl := vwCl) (ws := w) (tys := kTY tA) X.1 X.2.1 X.2.2.2.2.2.1.1 hP hD hS q0 0 he rfl (vp_in_nI hi (by omega)) hdg (fun H1 locs1 hP1 hD1 hS1 => by
    rw [nI_clamp (by omega), upd_nF, hw] at hP1 hD1
    exact kk H1 locs1 ls hP1 hD1 hS1 hl)
theorem j_alen (X : kX D tA G cc nL own fr lo) (q0 : Nat) (t0 : Nat) {a N : Nat} {cA : ClassId} {ty : FieldType} {x : (Nat → Int32) ⊕ (Nat → Int64) ⊕ (Nat → UInt32) ⊕ (Nat → UInt64) ⊕ (Nat → Option Nat)} (he : w[q0]? = some (a, .inl (cA, N, x))) (ht : (kTY tA)[t0]? = some (cA, ty)) (hdg : decode cc pc = .ok (.arraylength, 1)) (kk : J l D G n k w lv (pc + 1) (.int (nI N) :: st)) : J l D G n k w lv pc (.ref a :: st) :=
  fun H locs ls hP hD hS hl => va_alen (D := D) (cl := vwCl) (ws := w) (tys := kTY tA) X.1 X.2.1 X.2.2.2.2.2.1.1 hP q0 t0 he ht (v := nI N) rfl hdg (kk H locs ls hP hD hS hl)
theorem j_mmax (X : kX D tA G cc nL own fr lo) {index : Nat} {x y v : Int32} (hlink : Cond.methodLink own index Lib.Math.max.name ∈ kALL) (hfr : 1 ≤ fr) (hlo : (st.map fun v => v.category).sum + 13 ≤ lo) (h0 : n ≤ (gR G).cells ∧ k ≤ (gR G).slots) (hv : (if x < y then y else x) = v) (hdg : decode cc pc = .ok (.invokestatic index, 3)) (kk : J l D G n k w lv (pc + 3) (.int v :: st)) : J l D G n k w lv pc (.int y :: .int x :: st) :=
  fun H locs ls hP hD hS hl => va_mmax X.1 X.2.1 hl.1.symm X.2.2.2.1 (X.2.2.2.2.1 _ hlink) (X.2.2.2.2.1 _ wt_max) (X.2.2.2.2.1 _ wi_J9) (X.2.2.2.2.1 _ wc_max) (Nat.le_trans hfr X.2.2.2.2.2.2.2.1) (Nat.le_trans hlo X.2.2.2.2.2.2.2.2) h0.1 h0.2 hdg (by rw [hv]; exact kk H locs ls hP hD hS hl)
theorem j_mmin (X : kX D tA G cc nL own fr lo) {index : Nat} {x y v : Int32} (hlink : Cond.methodLink own index Lib.Math.min.name ∈ kALL) (hfr : 1 ≤ fr) (hlo : (st.map fun v => v.category).sum + 13 ≤ lo) (h0 : n ≤ (gR G).cells ∧ k ≤ (gR G).slots) (hv : (if y < x then y else x) = v) (hdg : decode cc pc = .ok (.invokestatic index, 3)) (kk : J l D G n k w lv (pc + 3) (.int v :: st)) : J l D G n k w lv pc (.int y :: .int x :: st) :=
  fun H locs ls hP hD hS hl => va_mmin X.1 X.2.1 hl.1.symm X.2.2.2.1 (X.2.2.2.2.1 _ hlink) (X.2.2.2.2.1 _ wt_min) (X.2.2.2.2.1 _ wi_J9) (X.2.2.2.2.1 _ wc_min) (Nat.le_trans hfr X.2.2.2.2.2.2.2.1) (Nat.le_trans hlo X.2.2.2.2.2.2.2.2) h0.1 h0.2 hdg (by rw [hv]; exact kk H locs ls hP hD hS hl)
end
/-- what a walk must come to: the end of its method, with this answer and these cells -/
def kE (l : Launch) (D : va_G) (G : kCx) (cc : ByteArray) (ins : Instr) (res : Option Value) (w : va_W) : Prop := ∀ (lv : List (Nat × Value)) (pc : Nat), decode cc pc = .ok (ins, 1) → J l D G 0 0 w lv pc res.toList
theorem j_end {l : Launch} {D : va_G} {G : kCx} {cc : ByteArray} {ins : Instr} {res : Option Value} {w w0 : va_W} {lv : List (Nat × Value)} {pc : Nat} {st : List Value} (E : kE l D G cc ins res w) (hdg : decode cc pc = .ok (ins, 1)) (hr : res.toList = st) (hw : w = w0) : J l D G 0 0 w0 lv pc st := by
  subst hr
  subst hw
  exact E lv pc hdg
theorem kx_body {l : Launch} {D : va_G} {tA : Nat → ClassId} {y : MethodName} {cc : ByteArray} {nL : Nat} {ret : Option FieldType} {fr lo : Nat} {av : List Value} {w : va_W} {res : Option Value} {w' : va_W} (ins : Instr) (hy : plainName y.cls = true) (hn : (lg_sl av).length ≤ nL)
    (hE : ∀ (p : Program) (e : Env) (R : Room) (s : State) (m : MethodId) (args : Array Value) (below : List Frame) (meth : Method) (c : Code) (A : Nat → Prop), p.tables.exec = Jvm.exec → c.code = cc → meth.sig.returnType = ret → meth.locks = false → ∀ (H : Heap) (locs : List Loc) (ls : Array Slot) (pc : Nat), decode cc pc = .ok (ins, 1) → va_P D vwCl w' H → va_S A s.heap H locs → W p l e R s m args below meth c H locs 0 0 (MQ below (kQ D res w' A) args s 0 0 A) (F0 m pc ls res.toList))
    (body : ∀ G : kCx, kX D tA G cc nL y.cls fr lo → kE l D G cc ins res w' → J l D G 0 0 w (lv_args 0 av) 0 []) : Kx l D tA y cc nL ret fr lo av w res w' := by
  intro sz
  refine Met.ofW (cc := cc) (maxL := nL) (ret := ret) hy rfl ?_
  intro p e s m args below meth c s₁ B hml hv
  obtain ⟨rfl, hsz, hP, hK, hD0⟩ := hv
  subst hsz
  have hts : ∀ w ∈ kALL, w.before av.toArray s = true := fun w hw => atoms_spec B.pre w (List.mem_cons_of_mem _ hw)
  have hown : s.vm.findClass y.cls = some m.cls := findClass_of_methodNamed B.named
  have hD := hD0.self (sz := s.heap.size)
  have hl := lv_entry av (n := nL) hn
  rw [lg_entry_eq]
  refine body (p, e, _, s, m, av.toArray, below, meth, c, _, va_A w s.heap.size) ⟨B.exec, B.bytes, hml, hown, hts, hK, fun q h => Or.inr h, Nat.le_refl _, Nat.le_refl _⟩ ?_ s.heap [] _ hP hD va_S.rf (by show lv_has _ c.maxLocals _; rw [hml]; exact hl)
  intro lv pc hdg H locs ls hP1 hD1 hS1 hl1
  exact hE p e _ s m av.toArray below meth c (va_A w s.heap.size) B.exec B.bytes B.returns B.notSynchronized H locs ls pc hdg hP1 hS1
theorem kx_int {l : Launch} {D : va_G} {tA : Nat → ClassId} {y : MethodName} {cc : ByteArray} {nL : Nat} {fr lo : Nat} {av : List Value} {w : va_W} {r : Int32} {w' : va_W} (hy : plainName y.cls = true) (hn : (lg_sl av).length ≤ nL)
    (body : ∀ G : kCx, kX D tA G cc nL y.cls fr lo → kE l D G cc .ireturn (some (.int r)) w' → J l D G 0 0 w (lv_args 0 av) 0 []) : Kx l D tA y cc nL (some .int) fr lo av w (some (.int r)) w' :=
  kx_body .ireturn hy hn (fun p e R s m args below meth c A hx hb hr hlk H locs ls pc hdg hP hS => W.iret hx hb hr (fun t ht hW => ⟨⟨rfl, by rw [ht]; exact hP⟩, hS.F ht⟩) hS.2.2 hdg hlk) body
theorem bI_narrow (b : Bool) : narrow .boolean (.int (bI b)) = .int (bI b) := by cases b <;> rfl
theorem kx_bool {l : Launch} {D : va_G} {tA : Nat → ClassId} {y : MethodName} {cc : ByteArray} {nL : Nat} {fr lo : Nat} {av : List Value} {w : va_W} {r : Bool} {w' : va_W} (hy : plainName y.cls = true) (hn : (lg_sl av).length ≤ nL)
    (body : ∀ G : kCx, kX D tA G cc nL y.cls fr lo → kE l D G cc .ireturn (some (.int (bI r))) w' → J l D G 0 0 w (lv_args 0 av) 0 []) : Kx l D tA y cc nL (some .boolean) fr lo av w (some (.int (bI r))) w' :=
  kx_body .ireturn hy hn (fun p e R s m args below meth c A hx hb hr hlk H locs ls pc hdg hP hS => W.zret hx hb hr (bI_narrow r) (fun t ht hW => ⟨⟨rfl, by rw [ht]; exact hP⟩, hS.F ht⟩) hS.2.2 hdg hlk) body
theorem kx_void {l : Launch} {D : va_G} {tA : Nat → ClassId} {y : MethodName} {cc : ByteArray} {nL : Nat} {fr lo : Nat} {av : List Value} {w : va_W} {w' : va_W} (hy : plainName y.cls = true) (hn : (lg_sl av).length ≤ nL)
    (body : ∀ G : kCx, kX D tA G cc nL y.cls fr lo → kE l D G cc .return_ none w' → J l D G 0 0 w (lv_args 0 av) 0 []) : Kx l D tA y cc nL none fr lo av w none w' :=
  kx_body .return_ hy hn (fun p e R s m args below meth c A hx hb hr hlk H locs ls pc hdg hP hS => W.vret hx hb hr (fun t ht hW => ⟨⟨rfl, by rw [ht]; exact hP⟩, hS.F ht⟩) hS.2.2 hdg hlk) body
theorem kx_ref {l : Launch} {D : va_G} {tA : Nat → ClassId} {y : MethodName} {cc : ByteArray} {nL : Nat} {C : String} {fr lo : Nat} {av : List Value} {w : va_W} {a : Nat} {w' : va_W} (hy : plainName y.cls = true) (hn : (lg_sl av).length ≤ nL)
    (body : ∀ G : kCx, kX D tA G cc nL y.cls fr lo → kE l D G cc .areturn (some (.ref a)) w' → J l D G 0 0 w (lv_args 0 av) 0 []) : Kx l D tA y cc nL (some (.object C)) fr lo av w (some (.ref a)) w' :=
  kx_body .areturn hy hn (fun p e R s m args below meth c A hx hb hr hlk H locs ls pc hdg hP hS => W.aret hx hb hr (Or.inl ⟨_, rfl⟩) (Or.inr ⟨_, rfl⟩) (fun t ht hW => ⟨⟨rfl, by rw [ht]; exact hP⟩, hS.F ht⟩) hS.2.2 hdg hlk) body

section
variable {p : Program} {l : Launch} {e : Env} {R : Room} {s : State} {m : MethodId} {args : Array Value} {below : List Frame} {meth : Method} {c : Code} {H : Heap} {locs : List Loc} {cells slots : Nat} {Q : State → Prop}
theorem k_call {pc : Nat} {ls : Array Slot} {rest st0 : List Value} {a : Array Value} {A0 A1 : Nat → Prop} {H0 : Heap} {free : Addr → Prop} {D : va_G} {res : Option Value} {w1 : va_W} (hr : va_Run p l e R s m args below meth c H locs cells slots 0 0 (F0 m pc ls st0) rest (kQ D res w1 A1 a) free) (hS : va_S A0 H0 H locs) (hA : ∀ q, q < H.size → A1 q → A0 q) (hf : ∀ q, free q → A0 q)
    (kk : ∀ (H1 : Heap) (locs1 : List Loc), va_P D vwCl w1 H1 → (∀ q : Nat, q < H.size → ¬ A1 q → H1[q]? = H[q]?) → va_S A0 H0 H1 locs1 → W p l e R s m args below meth c H1 locs1 cells slots Q (F0 m (pc + 3) ls (res.toList ++ rest))) : W p l e R s m args below meth c H locs cells slots Q (F0 m pc ls st0) := by
  intro T hT X
  obtain ⟨v, st₀, t, T', L, h0, X', hL, e1, e2, ⟨⟨hv, hb⟩, hz, hk⟩, st⟩ := hr T hT X
  cases hv
  rw [h0] at hz hk
  obtain ⟨t2, a1, b1⟩ := kk T'.heap (locs ++ L) (by rw [e1]; exact hb) (fun q h1 h2 => by rw [e1]; exact hk q h1 h2)
    ⟨Nat.le_trans hS.1 (by rw [e1]; exact hz), fun q h1 h2 => by rw [e1, hk q (Nat.lt_of_lt_of_le h1 hS.1) (fun z => h2 (hA q (Nat.lt_of_lt_of_le h1 hS.1) z))]; exact hS.2.1 q h1 h2, fun q hq => by
      rcases List.mem_append.mp hq with h | h
      · exact hS.2.2 q h
      · exact hf _ (hL q h)⟩ T' rfl X'
  exact ⟨t2, st t2 a1, b1⟩
end
/-- what the tables say of a method that is called on an object; and of a static one -/
def kCard (y : MethodName) (bytes : ByteArray) (maxL : Nat) (ret : Option FieldType) (n : Nat) : Prop := Cond.code y bytes maxL ret ∈ kALL ∧ Cond.initialized y.cls ∈ kALL ∧ (y.cls ≠ "java/lang/invoke/MethodHandle" ∧ y.cls ≠ "java/lang/invoke/VarHandle" ∧ (parseMethodDescriptor y.desc).map (fun d => d.parameters.length) = some n)
def kCardV (y : MethodName) (bytes : ByteArray) (maxL : Nat) (ret : Option FieldType) (n : Nat) : Prop := kCard y bytes maxL ret n ∧ Cond.instanceMethod y ∈ kALL ∧ Cond.selects y.cls y y ∈ kALL
def kCardS (y : MethodName) (bytes : ByteArray) (maxL : Nat) (ret : Option FieldType) (n : Nat) : Prop := kCard y bytes maxL ret n ∧ Cond.static y ∈ kALL
section
variable {l : Launch} {D : va_G} {tA : Nat → ClassId} {G : kCx} {cc : ByteArray} {nL : Nat} {own : String} {fr lo n k : Nat} {w : va_W} {lv : List (Nat × Value)} {pc : Nat} {st : List Value}
theorem kFree {A0 : Nat → Prop} {w wc : va_W} {H0 H : Heap} {locs : List Loc} (hD : va_D A0 w) (hS : va_S A0 H0 H locs) (hA : ∀ q, H0.size ≤ q → A0 q) (is : List Nat) (hC : is.map (fun i => w[i]?) = wc.map some) : ∀ q, va_A wc H.size q → A0 q := va_free hD hS hA is hC
theorem kPre {s : State} {H : Heap} {w wc : va_W} {A : Nat → Prop} {av : List Value} (hK : kK D tA s) (hP : va_P D vwCl w H) (hD : va_D A w) (is : List Nat) (hC : is.map (fun i => w[i]?) = wc.map some) (hn : va_nd is = true) :
    FrameBlind (va_Pc av (fun U => U.heap.size = H.size ∧ va_P D vwCl wc U.heap ∧ kK D tA U ∧ va_D (fun _ => True) wc)) ∧ ∀ U : State, U.heap = H → s.WarmedH U.vm → va_Pc av (fun U => U.heap.size = H.size ∧ va_P D vwCl wc U.heap ∧ kK D tA U ∧ va_D (fun _ => True) wc) av.toArray U := by
  refine ⟨fun a U g mk q => ?_, fun U hU hW => ⟨rfl, by rw [hU], ?_, hK.warm hW, (hD.sub is hn hC).weaken (fun _ _ _ _ => trivial)⟩⟩
  · obtain ⟨q0, q1, qP, qK, qD⟩ := q
    exact ⟨q0, q1, qP, kK.same (u := U) (U := U.calling g mk a) rfl qK, qD⟩
  · rw [hU]
    refine hP.sub is ?_
    have : ∀ (is : List Nat) (wc : va_W), is.map (fun i => w[i]?) = wc.map some → is.filterMap (fun i => w[i]?) = wc := by
      intro is
      induction is with
      | nil => intro wc h; cases wc with
        | nil => rfl
        | cons x xs => simp at h
      | cons i is ih => intro wc h; cases wc with
        | nil => simp at h
        | cons x xs =>
          simp only [List.map_cons, List.cons.injEq] at h
          rw [List.filterMap_cons, h.1]
          show x :: _ = _
          rw [ih xs h.2]
    exact this is wc hC
theorem j_callV (X : kX D tA G cc nL own fr lo) {y : MethodName} {bytes : ByteArray} {maxL : Nat} {ret : Option FieldType} {frc loc index b : Nat} {As : List Value} {wc wc' w' : va_W} {res : Option Value} {stk : List Value}
    (hM : Kx l D tA y bytes maxL ret frc loc (.ref b :: As) wc res wc') (hcd : kCardV y bytes maxL ret As.length) (hlink : Cond.methodLink own index y ∈ kALL)
    (q0 : Nat) {ci : Nat} {fs : List Value} {r : vw_C} (he : w[q0]? = some (b, .inr (ci, fs))) (hcl : vwCl[ci]? = some r) (hrc : r.1 = y.cls) (is : List Nat) (hC : is.map (fun i => w[i]?) = wc.map some) (hn : va_nd is = true) (hfc : wc'.map Prod.fst = wc.map Prod.fst) (hw : kPlug w is wc' = w')
    (hroom : frc + 1 ≤ fr ∧ 8 + (maxL + 11) + loc ≤ lo) (h0 : n ≤ (gR G).cells ∧ k ≤ (gR G).slots) (hstk : stk = As.reverse ++ .ref b :: st) (hcat : (st.map fun v => v.category).sum ≤ 8) (hdg : decode cc pc = .ok (.invokevirtual index, 3))
    (kk : J l D G n k w' lv (pc + 3) (res.toList ++ st)) : J l D G n k w lv pc stk := by
  subst hstk
  intro H locs ls hP hD hS hl
  obtain ⟨hx, hb, hml, hown, hts, hK, hA, hR⟩ := X
  obtain ⟨⟨hcode, hini, hd⟩, hinst, hsel⟩ := hcd
  have hpre := kPre (av := .ref b :: As) hK hP hD is hC hn
  refine k_call (va_runV (As := As) (rest := st) (nL := (gc G).maxLocals) (C := y.cls) (own := own) (Ts := kALL) (bytes := bytes) (maxL := maxL) (ret := ret) ⟨hx, hb, rfl, hown, hts⟩ (hM H.size) (cwV As.length hts (kGoodApp (fun z hz => ?_) (kGood hcode)) rfl rfl rfl ⟨rfl, hd⟩ ⟨Nat.le_trans hroom.1 hR.1, Nat.le_trans hroom.2 hR.2⟩) ⟨hpre.1, ?_, hpre.2⟩ rfl rfl hl.1 rfl (lv_room hcat) hdg h0) hS (fun q _ h => kFree hD hS hA is hC q h) (kFree hD hS hA is hC) (fun H1 locs1 hP1 hk1 hS1 => ?_)
  · rcases List.mem_cons.mp hz with rfl | hz
    · exact ⟨hlink, good_of_word (kALL_good _ hlink)⟩
    rcases List.mem_cons.mp hz with rfl | hz
    · exact ⟨hinst, good_of_word (kALL_good _ hinst)⟩
    rcases List.mem_cons.mp hz with rfl | hz
    · exact ⟨hsel, good_of_word (kALL_good _ hsel)⟩
    rcases List.mem_cons.mp hz with rfl | hz
    · exact ⟨hini, good_of_word (kALL_good _ hini)⟩
    · cases hz
  · have := va_recv hK.1 hP hcl he
    rw [hrc] at this
    exact this
  · exact kk H1 locs1 ls (hw ▸ kP_plug hP hD hC hn (by simpa using congrArg List.length hfc) hk1 hP1) (kD_same hD (hw ▸ kPlug_fst hC hn hfc)) hS1 hl
theorem j_callVR (X : kX D tA G cc nL own fr lo) {y : MethodName} {bytes : ByteArray} {maxL : Nat} {ret : Option FieldType} {frc loc index b : Nat} {As : List Value} {wc : va_W} {res : Option Value} {stk : List Value}
    (hM : Kx l D tA y bytes maxL ret frc loc (.ref b :: As) wc res wc) (hcd : kCardV y bytes maxL ret As.length) (hlink : Cond.methodLink own index y ∈ kALL)
    (q0 : Nat) {ci : Nat} {fs : List Value} {r : vw_C} (he : w[q0]? = some (b, .inr (ci, fs))) (hcl : vwCl[ci]? = some r) (hrc : r.1 = y.cls) (is : List Nat) (hC : is.map (fun i => w[i]?) = wc.map some) (hn : va_nd is = true)
    (hroom : frc + 1 ≤ fr ∧ 8 + (maxL + 11) + loc ≤ lo) (h0 : n ≤ (gR G).cells ∧ k ≤ (gR G).slots) (hstk : stk = As.reverse ++ .ref b :: st) (hcat : (st.map fun v => v.category).sum ≤ 8) (hdg : decode cc pc = .ok (.invokevirtual index, 3))
    (kk : J l D G n k w lv (pc + 3) (res.toList ++ st)) : J l D G n k w lv pc stk := by
  subst hstk
  intro H locs ls hP hD hS hl
  obtain ⟨hx, hb, hml, hown, hts, hK, hA, hR⟩ := X
  obtain ⟨⟨hcode, hini, hd⟩, hinst, hsel⟩ := hcd
  have hpre := kPre (av := .ref b :: As) hK hP hD is hC hn
  refine k_call (va_runV (As := As) (rest := st) (nL := (gc G).maxLocals) (C := y.cls) (own := own) (Ts := kALL) (bytes := bytes) (maxL := maxL) (ret := ret) ⟨hx, hb, rfl, hown, hts⟩ (hM H.size) (cwV As.length hts (kGoodApp (fun z hz => ?_) (kGood hcode)) rfl rfl rfl ⟨rfl, hd⟩ ⟨Nat.le_trans hroom.1 hR.1, Nat.le_trans hroom.2 hR.2⟩) ⟨hpre.1, ?_, hpre.2⟩ rfl rfl hl.1 rfl (lv_room hcat) hdg h0) hS (fun q _ h => kFree hD hS hA is hC q h) (kFree hD hS hA is hC) (fun H1 locs1 hP1 hk1 hS1 => ?_)
  · rcases List.mem_cons.mp hz with rfl | hz
    · exact ⟨hlink, good_of_word (kALL_good _ hlink)⟩
    rcases List.mem_cons.mp hz with rfl | hz
    · exact ⟨hinst, good_of_word (kALL_good _ hinst)⟩
    rcases List.mem_cons.mp hz with rfl | hz
    · exact ⟨hsel, good_of_word (kALL_good _ hsel)⟩
    rcases List.mem_cons.mp hz with rfl | hz
    · exact ⟨hini, good_of_word (kALL_good _ hini)⟩
    · cases hz
  · have := va_recv hK.1 hP hcl he
    rw [hrc] at this
    exact this
  · exact kk H1 locs1 ls (kP_read hP hD hC hk1 hP1) hD hS1 hl
theorem j_callVB (X : kX D tA G cc nL own fr lo) {y : MethodName} {bytes : ByteArray} {maxL : Nat} {ret : Option FieldType} {frc loc index b : Nat} {As : List Value} {wc wc' wr w' : va_W} {res : Option Value} {stk : List Value}
    (hM : Kx l D tA y bytes maxL ret frc loc (.ref b :: As) wc res wc') (hcd : kCardV y bytes maxL ret As.length) (hlink : Cond.methodLink own index y ∈ kALL)
    (q0 : Nat) {ci : Nat} {fs : List Value} {r : vw_C} (he : w[q0]? = some (b, .inr (ci, fs))) (hcl : vwCl[ci]? = some r) (hrc : r.1 = y.cls) (is : List Nat) (hC : is.map (fun i => w[i]?) = wc.map some) (hn : va_nd is = true) (js : List Nat) (hRr : js.map (fun i => w[i]?) = wr.map some) (hn2 : va_nd (is ++ js) = true) (hfc : wc'.map Prod.fst = wc.map Prod.fst) (ks : List Nat) (hB : ks.map (fun i => (wc' ++ wr)[i]?) = w'.map some) (hnk : va_nd ks = true)
    (hroom : frc + 1 ≤ fr ∧ 8 + (maxL + 11) + loc ≤ lo) (h0 : n ≤ (gR G).cells ∧ k ≤ (gR G).slots) (hstk : stk = As.reverse ++ .ref b :: st) (hcat : (st.map fun v => v.category).sum ≤ 8) (hdg : decode cc pc = .ok (.invokevirtual index, 3))
    (kk : J l D G n k w' lv (pc + 3) (res.toList ++ st)) : J l D G n k w lv pc stk := by
  subst hstk
  intro H locs ls hP hD hS hl
  obtain ⟨hx, hb, hml, hown, hts, hK, hA, hR⟩ := X
  obtain ⟨⟨hcode, hini, hd⟩, hinst, hsel⟩ := hcd
  have hpre := kPre (av := .ref b :: As) hK hP hD is hC hn
  refine k_call (va_runV (As := As) (rest := st) (nL := (gc G).maxLocals) (C := y.cls) (own := own) (Ts := kALL) (bytes := bytes) (maxL := maxL) (ret := ret) ⟨hx, hb, rfl, hown, hts⟩ (hM H.size) (cwV As.length hts (kGoodApp (fun z hz => ?_) (kGood hcode)) rfl rfl rfl ⟨rfl, hd⟩ ⟨Nat.le_trans hroom.1 hR.1, Nat.le_trans hroom.2 hR.2⟩) ⟨hpre.1, ?_, hpre.2⟩ rfl rfl hl.1 rfl (lv_room hcat) hdg h0) hS (fun q _ h => kFree hD hS hA is hC q h) (kFree hD hS hA is hC) (fun H1 locs1 hP1 hk1 hS1 => ?_)
  · rcases List.mem_cons.mp hz with rfl | hz
    · exact ⟨hlink, good_of_word (kALL_good _ hlink)⟩
    rcases List.mem_cons.mp hz with rfl | hz
    · exact ⟨hinst, good_of_word (kALL_good _ hinst)⟩
    rcases List.mem_cons.mp hz with rfl | hz
    · exact ⟨hsel, good_of_word (kALL_good _ hsel)⟩
    rcases List.mem_cons.mp hz with rfl | hz
    · exact ⟨hini, good_of_word (kALL_good _ hini)⟩
    · cases hz
  · have := va_recv hK.1 hP hcl he
    rw [hrc] at this
    exact this
  · exact kk H1 locs1 ls (kP_block hP hD hC hRr hn2 hfc hB hnk hk1 hP1).1 (kP_block hP hD hC hRr hn2 hfc hB hnk hk1 hP1).2 hS1 hl
theorem j_callS (X : kX D tA G cc nL own fr lo) {y : MethodName} {bytes : ByteArray} {maxL : Nat} {ret : Option FieldType} {frc loc index : Nat} {As : List Value} {wc wc' w' : va_W} {res : Option Value} {stk : List Value}
    (hM : Kx l D tA y bytes maxL ret frc loc As wc res wc') (hcd : kCardS y bytes maxL ret As.length) (hlink : Cond.methodLink own index y ∈ kALL) (hcls : y.cls = own)
    (is : List Nat) (hC : is.map (fun i => w[i]?) = wc.map some) (hn : va_nd is = true) (hfc : wc'.map Prod.fst = wc.map Prod.fst) (hw : kPlug w is wc' = w')
    (hroom : frc + 1 ≤ fr ∧ 8 + (maxL + 11) + loc ≤ lo) (h0 : n ≤ (gR G).cells ∧ k ≤ (gR G).slots) (hstk : stk = As.reverse ++ st) (hcat : (st.map fun v => v.category).sum ≤ 8) (hdg : decode cc pc = .ok (.invokestatic index, 3))
    (kk : J l D G n k w' lv (pc + 3) (res.toList ++ st)) : J l D G n k w lv pc stk := by
  subst hstk
  subst hcls
  intro H locs ls hP hD hS hl
  obtain ⟨hx, hb, hml, hown, hts, hK, hA, hR⟩ := X
  obtain ⟨⟨hcode, hini, hd⟩, hst⟩ := hcd
  have hpre := kPre (av := As) hK hP hD is hC hn
  refine k_call (va_runS (As := As) (rest := st) (nL := (gc G).maxLocals) (own := y.cls) (Ts := kALL) (bytes := bytes) (maxL := maxL) (ret := ret) ⟨hx, hb, rfl, hown, hts⟩ (hM H.size) (cwS As.length hts (kGoodApp (fun z hz => ?_) (kGood hcode)) rfl rfl rfl ⟨rfl, hd⟩ ⟨Nat.le_trans hroom.1 hR.1, Nat.le_trans hroom.2 hR.2⟩) hpre rfl rfl hl.1 rfl (lv_room hcat) hdg h0) hS (fun q _ h => kFree hD hS hA is hC q h) (kFree hD hS hA is hC) (fun H1 locs1 hP1 hk1 hS1 => ?_)
  · rcases List.mem_cons.mp hz with rfl | hz
    · exact ⟨hlink, good_of_word (kALL_good _ hlink)⟩
    rcases List.mem_cons.mp hz with rfl | hz
    · exact ⟨hst, good_of_word (kALL_good _ hst)⟩
    rcases List.mem_cons.mp hz with rfl | hz
    · exact ⟨hini, good_of_word (kALL_good _ hini)⟩
    · cases hz
  · exact kk H1 locs1 ls (hw ▸ kP_plug hP hD hC hn (by simpa using congrArg List.length hfc) hk1 hP1) (kD_same hD (hw ▸ kPlug_fst hC hn hfc)) hS1 hl
theorem j_callSR (X : kX D tA G cc nL own fr lo) {y : MethodName} {bytes : ByteArray} {maxL : Nat} {ret : Option FieldType} {frc loc index : Nat} {As : List Value} {wc : va_W} {res : Option Value} {stk : List Value}
    (hM : Kx l D tA y bytes maxL ret frc loc As wc res wc) (hcd : kCardS y bytes maxL ret As.length) (hlink : Cond.methodLink own index y ∈ kALL) (hcls : y.cls = own)
    (is : List Nat) (hC : is.map (fun i => w[i]?) = wc.map some) (hn : va_nd is = true)
    (hroom : frc + 1 ≤ fr ∧ 8 + (maxL + 11) + loc ≤ lo) (h0 : n ≤ (gR G).cells ∧ k ≤ (gR G).slots) (hstk : stk = As.reverse ++ st) (hcat : (st.map fun v => v.category).sum ≤ 8) (hdg : decode cc pc = .ok (.invokestatic index, 3))
    (kk : J l D G n k w lv (pc + 3) (res.toList ++ st)) : J l D G n k w lv pc stk := by
  subst hstk
  subst hcls
  intro H locs ls hP hD hS hl
  obtain ⟨hx, hb, hml, hown, hts, hK, hA, hR⟩ := X
  obtain ⟨⟨hcode, hini, hd⟩, hst⟩ := hcd
  have hpre := kPre (av := As) hK hP hD is hC hn
  refine k_call (va_runS (As := As) (rest := st) (nL := (gc G).maxLocals) (own := y.cls) (Ts := kALL) (bytes := bytes) (maxL := maxL) (ret := ret) ⟨hx, hb, rfl, hown, hts⟩ (hM H.size) (cwS As.length hts (kGoodApp (fun z hz => ?_) (kGood hcode)) rfl rfl rfl ⟨rfl, hd⟩ ⟨Nat.le_trans hroom.1 hR.1, Nat.le_trans hroom.2 hR.2⟩) hpre rfl rfl hl.1 rfl (lv_room hcat) hdg h0) hS (fun q _ h => kFree hD hS hA is hC q h) (kFree hD hS hA is hC) (fun H1 locs1 hP1 hk1 hS1 => ?_)
  · rcases List.mem_cons.mp hz with rfl | hz
    · exact ⟨hlink, good_of_word (kALL_good _ hlink)⟩
    rcases List.mem_cons.mp hz with rfl | hz
    · exact ⟨hst, good_of_word (kALL_good _ hst)⟩
    rcases List.mem_cons.mp hz with rfl | hz
    · exact ⟨hini, good_of_word (kALL_good _ hini)⟩
    · cases hz
  · exact kk H1 locs1 ls (kP_read hP hD hC hk1 hP1) hD hS1 hl
theorem j_callSB (X : kX D tA G cc nL own fr lo) {y : MethodName} {bytes : ByteArray} {maxL : Nat} {ret : Option FieldType} {frc loc index : Nat} {As : List Value} {wc wc' wr w' : va_W} {res : Option Value} {stk : List Value}
    (hM : Kx l D tA y bytes maxL ret frc loc As wc res wc') (hcd : kCardS y bytes maxL ret As.length) (hlink : Cond.methodLink own index y ∈ kALL) (hcls : y.cls = own)
    (is : List Nat) (hC : is.map (fun i => w[i]?) = wc.map some) (hn : va_nd is = true) (js : List Nat) (hRr : js.map (fun i => w[i]?) = wr.map some) (hn2 : va_nd (is ++ js) = true) (hfc : wc'.map Prod.fst = wc.map Prod.fst) (ks : List Nat) (hB : ks.map (fun i => (wc' ++ wr)[i]?) = w'.map some) (hnk : va_nd ks = true)
    (hroom : frc + 1 ≤ fr ∧ 8 + (maxL + 11) + loc ≤ lo) (h0 : n ≤ (gR G).cells ∧ k ≤ (gR G).slots) (hstk : stk = As.reverse ++ st) (hcat : (st.map fun v => v.category).sum ≤ 8) (hdg : decode cc pc = .ok (.invokestatic index, 3))
    (kk : J l D G n k w' lv (pc + 3) (res.toList ++ st)) : J l D G n k w lv pc stk := by
  subst hstk
  subst hcls
  intro H locs ls hP hD hS hl
  obtain ⟨hx, hb, hml, hown, hts, hK, hA, hR⟩ := X
  obtain ⟨⟨hcode, hini, hd⟩, hst⟩ := hcd
  have hpre := kPre (av := As) hK hP hD is hC hn
  refine k_call (va_runS (As := As) (rest := st) (nL := (gc G).maxLocals) (own := y.cls) (Ts := kALL) (bytes := bytes) (maxL := maxL) (ret := ret) ⟨hx, hb, rfl, hown, hts⟩ (hM H.size) (cwS As.length hts (kGoodApp (fun z hz => ?_) (kGood hcode)) rfl rfl rfl ⟨rfl, hd⟩ ⟨Nat.le_trans hroom.1 hR.1, Nat.le_trans hroom.2 hR.2⟩) hpre rfl rfl hl.1 rfl (lv_room hcat) hdg h0) hS (fun q _ h => kFree hD hS hA is hC q h) (kFree hD hS hA is hC) (fun H1 locs1 hP1 hk1 hS1 => ?_)
  · rcases List.mem_cons.mp hz with rfl | hz
    · exact ⟨hlink, good_of_word (kALL_good _ hlink)⟩
    rcases List.mem_cons.mp hz with rfl | hz
    · exact ⟨hst, good_of_word (kALL_good _ hst)⟩
    rcases List.mem_cons.mp hz with rfl | hz
    · exact ⟨hini, good_of_word (kALL_good _ hini)⟩
    · cases hz
  · exact kk H1 locs1 ls (kP_block hP hD hC hRr hn2 hfc hB hnk hk1 hP1).1 (kP_block hP hD hC hRr hn2 hfc hB hnk hk1 hP1).2 hS1 hl
theorem j_callN (X : kX D tA G cc nL own fr lo) {y : MethodName} {bytes : ByteArray} {maxL : Nat} {ret : Option FieldType} {frc loc index : Nat} {host : String} {As : List Value} {wc wc' w' : va_W} {res : Option Value} {stk : List Value}
    (hM : Kx l D tA y bytes maxL ret frc loc As wc res wc') (hcd : kCardS y bytes maxL ret As.length) (hlink : va_Nw (.methodLinkNest own index y host) (gs G))
    (is : List Nat) (hC : is.map (fun i => w[i]?) = wc.map some) (hn : va_nd is = true) (hfc : wc'.map Prod.fst = wc.map Prod.fst) (hw : kPlug w is wc' = w')
    (hroom : frc + 1 ≤ fr ∧ 8 + (maxL + 11) + loc ≤ lo) (h0 : n ≤ (gR G).cells ∧ k ≤ (gR G).slots) (hstk : stk = As.reverse ++ st) (hcat : (st.map fun v => v.category).sum ≤ 8) (hdg : decode cc pc = .ok (.invokestatic index, 3))
    (kk : J l D G n k w' lv (pc + 3) (res.toList ++ st)) : J l D G n k w lv pc stk := by
  subst hstk
  intro H locs ls hP hD hS hl
  obtain ⟨hx, hb, hml, hown, hts, hK, hA, hR⟩ := X
  obtain ⟨⟨hcode, hini, hd⟩, hst⟩ := hcd
  have hpre := kPre (av := As) hK hP hD is hC hn
  refine k_call (va_runSN (As := As) (rest := st) (nL := (gc G).maxLocals) (own := own) (Ts := kALL) (bytes := bytes) (maxL := maxL) (ret := ret) ⟨hx, hb, rfl, hown, hts⟩ (hM H.size) ⟨va_cnB As.length hts (kGood hcode) rfl rfl rfl hlink (hts _ hini) hd ⟨Nat.le_trans hroom.1 hR.1, Nat.le_trans hroom.2 hR.2⟩, hts _ hst, trivial⟩ hpre rfl rfl hl.1 rfl (lv_room hcat) hdg h0) hS (fun q _ h => kFree hD hS hA is hC q h) (kFree hD hS hA is hC) (fun H1 locs1 hP1 hk1 hS1 => ?_)
  exact kk H1 locs1 ls (hw ▸ kP_plug hP hD hC hn (by simpa using congrArg List.length hfc) hk1 hP1) (kD_same hD (hw ▸ kPlug_fst hC hn hfc)) hS1 hl
theorem j_callNR (X : kX D tA G cc nL own fr lo) {y : MethodName} {bytes : ByteArray} {maxL : Nat} {ret : Option FieldType} {frc loc index : Nat} {host : String} {As : List Value} {wc : va_W} {res : Option Value} {stk : List Value}
    (hM : Kx l D tA y bytes maxL ret frc loc As wc res wc) (hcd : kCardS y bytes maxL ret As.length) (hlink : va_Nw (.methodLinkNest own index y host) (gs G))
    (is : List Nat) (hC : is.map (fun i => w[i]?) = wc.map some) (hn : va_nd is = true)
    (hroom : frc + 1 ≤ fr ∧ 8 + (maxL + 11) + loc ≤ lo) (h0 : n ≤ (gR G).cells ∧ k ≤ (gR G).slots) (hstk : stk = As.reverse ++ st) (hcat : (st.map fun v => v.category).sum ≤ 8) (hdg : decode cc pc = .ok (.invokestatic index, 3))
    (kk : J l D G n k w lv (pc + 3) (res.toList ++ st)) : J l D G n k w lv pc stk := by
  subst hstk
  intro H locs ls hP hD hS hl
  obtain ⟨hx, hb, hml, hown, hts, hK, hA, hR⟩ := X
  obtain ⟨⟨hcode, hini, hd⟩, hst⟩ := hcd
  have hpre := kPre (av := As) hK hP hD is hC hn
  refine k_call (va_runSN (As := As) (rest := st) (nL := (gc G).maxLocals) (own := own) (Ts := kALL) (bytes := bytes) (maxL := maxL) (ret := ret) ⟨hx, hb, rfl, hown, hts⟩ (hM H.size) ⟨va_cnB As.length hts (kGood hcode) rfl rfl rfl hlink (hts _ hini) hd ⟨Nat.le_trans hroom.1 hR.1, Nat.le_trans hroom.2 hR.2⟩, hts _ hst, trivial⟩ hpre rfl rfl hl.1 rfl (lv_room hcat) hdg h0) hS (fun q _ h => kFree hD hS hA is hC q h) (kFree hD hS hA is hC) (fun H1 locs1 hP1 hk1 hS1 => ?_)
  exact kk H1 locs1 ls (kP_read hP hD hC hk1 hP1) hD hS1 hl
theorem j_callNB (X : kX D tA G cc nL own fr lo) {y : MethodName} {bytes : ByteArray} {maxL : Nat} {ret : Option FieldType} {frc loc index : Nat} {host : String} {As : List Value} {wc wc' wr w' : va_W} {res : Option Value} {stk : List Value}
    (hM : Kx l D tA y bytes maxL ret frc loc As wc res wc') (hcd : kCardS y bytes maxL ret As.length) (hlink : va_Nw (.methodLinkNest own index y host) (gs G))
    (is : List Nat) (hC : is.map (fun i => w[i]?) = wc.map some) (hn : va_nd is = true) (js : List Nat) (hRr : js.map (fun i => w[i]?) = wr.map some) (hn2 : va_nd (is ++ js) = true) (hfc : wc'.map Prod.fst = wc.map Prod.fst) (ks : List Nat) (hB : ks.map (fun i => (wc' ++ wr)[i]?) = w'.map some) (hnk : va_nd ks = true)
    (hroom : frc + 1 ≤ fr ∧ 8 + (maxL + 11) + loc ≤ lo) (h0 : n ≤ (gR G).cells ∧ k ≤ (gR G).slots) (hstk : stk = As.reverse ++ st) (hcat : (st.map fun v => v.category).sum ≤ 8) (hdg : decode cc pc = .ok (.invokestatic index, 3))
    (kk : J l D G n k w' lv (pc + 3) (res.toList ++ st)) : J l D G n k w lv pc stk := by
  subst hstk
  intro H locs ls hP hD hS hl
  obtain ⟨hx, hb, hml, hown, hts, hK, hA, hR⟩ := X
  obtain ⟨⟨hcode, hini, hd⟩, hst⟩ := hcd
  have hpre := kPre (av := As) hK hP hD is hC hn
  refine k_call (va_runSN (As := As) (rest := st) (nL := (gc G).maxLocals) (own := own) (Ts := kALL) (bytes := bytes) (maxL := maxL) (ret := ret) ⟨hx, hb, rfl, hown, hts⟩ (hM H.size) ⟨va_cnB As.length hts (kGood hcode) rfl rfl rfl hlink (hts _ hini) hd ⟨Nat.le_trans hroom.1 hR.1, Nat.le_trans hroom.2 hR.2⟩, hts _ hst, trivial⟩ hpre rfl rfl hl.1 rfl (lv_room hcat) hdg h0) hS (fun q _ h => kFree hD hS hA is hC q h) (kFree hD hS hA is hC) (fun H1 locs1 hP1 hk1 hS1 => ?_)
  exact kk H1 locs1 ls (kP_block hP hD hC hRr hn2 hfc hB hnk hk1 hP1).1 (kP_block hP hD hC hRr hn2 hfc hB hnk hk1 hP1).2 hS1 hl
end
end
section
/-! numbers -/
theorem nC_eq0 {a : Nat} (h : a < 2 ^ 31) : nI a = 0 ↔ a = 0 := by
  have e : nI a = nI 0 ↔ a = 0 := nI_eq h (by omega)
  rwa [nI_0] at e
theorem nC_le0 {a : Nat} (h : a < 2 ^ 31) : nI a ≤ 0 ↔ a = 0 := by
  have e : nI a ≤ nI 0 ↔ a ≤ 0 := nI_leI h (by omega)
  rw [nI_0] at e
  rw [e]; omega
theorem nC_gt0 {a : Nat} (h : a < 2 ^ 31) : 0 < nI a ↔ 0 < a := by
  have e : nI 0 < nI a ↔ 0 < a := nI_ltI (by omega) h
  rwa [nI_0] at e
theorem nC_lt0 {a : Nat} (h : a < 2 ^ 31) : nI a < 0 ↔ False := ⟨fun q => nI_pos h q, fun q => q.elim⟩
theorem nC_ge0 {a : Nat} (h : a < 2 ^ 31) : 0 ≤ nI a ↔ True := ⟨fun _ => trivial, fun _ => nI_pos' h⟩
theorem iC_lt0 (x : Int32) : x < 0 ↔ x.toInt < 0 := by rw [Int32.lt_iff_toInt_lt, Int32.toInt_zero]
theorem iC_ge0 (x : Int32) : 0 ≤ x ↔ 0 ≤ x.toInt := by rw [Int32.le_iff_toInt_le, Int32.toInt_zero]
theorem iC_le0 (x : Int32) : x ≤ 0 ↔ x.toInt ≤ 0 := by rw [Int32.le_iff_toInt_le, Int32.toInt_zero]
theorem iC_gt0 (x : Int32) : 0 < x ↔ 0 < x.toInt := by rw [Int32.lt_iff_toInt_lt, Int32.toInt_zero]
theorem iC_eqn {x : Int32} {b : Nat} (h : b < 2 ^ 31) : x = nI b ↔ x.toInt = ((b : Nat) : Int) := by rw [← Int32.toInt_inj, nI_toInt h]
theorem iC_ltn {x : Int32} {b : Nat} (h : b < 2 ^ 31) : x < nI b ↔ x.toInt < ((b : Nat) : Int) := by rw [Int32.lt_iff_toInt_lt, nI_toInt h]
theorem iC_len {x : Int32} {b : Nat} (h : b < 2 ^ 31) : x ≤ nI b ↔ x.toInt ≤ ((b : Nat) : Int) := by rw [Int32.le_iff_toInt_le, nI_toInt h]
theorem iC_gen {x : Int32} {b : Nat} (h : b < 2 ^ 31) : nI b ≤ x ↔ ((b : Nat) : Int) ≤ x.toInt := by rw [Int32.le_iff_toInt_le, nI_toInt h]
theorem iC_gtn {x : Int32} {b : Nat} (h : b < 2 ^ 31) : nI b < x ↔ ((b : Nat) : Int) < x.toInt := by rw [Int32.lt_iff_toInt_lt, nI_toInt h]
def rO : Option Nat → Int32
  | some b => nI b
  | none => (-5)
theorem rO_none {o : Option Nat} (h : ∀ b, o = some b → b < 2 ^ 31) : rO o = (-5) ↔ o = none := by
  cases o with
  | none => exact ⟨fun _ => rfl, fun _ => rfl⟩
  | some b =>
    refine ⟨fun q => ?_, fun q => (by cases q)⟩
    have h1 : nI b = (-5) := q
    have h2 := nI_toInt (h b rfl)
    rw [h1] at h2
    have h3 : ((-5 : Int32)).toInt = -5 := by decide
    omega
theorem nI_max {a b : Nat} (ha : a < 2 ^ 31) (hb : b < 2 ^ 31) : (if nI a < nI b then nI b else nI a) = nI (max a b) := by
  by_cases h : a < b
  · rw [if_pos ((nI_ltI ha hb).mpr h), Nat.max_eq_right (by omega)]
  · rw [if_neg (fun q => h ((nI_ltI ha hb).mp q)), Nat.max_eq_left (by omega)]
theorem nI_min {a b : Nat} (ha : a < 2 ^ 31) (hb : b < 2 ^ 31) : (if nI b < nI a then nI b else nI a) = nI (min a b) := by
  by_cases h : b < a
  · rw [if_pos ((nI_ltI hb ha).mpr h), Nat.min_eq_right (by omega)]
  · rw [if_neg (fun q => h ((nI_ltI hb ha).mp q)), Nat.min_eq_left (by omega)]
/-- an argument that lies in a range is a number -/
theorem i_in {x : Int32} {n : Nat} (h0 : 0 ≤ x.toInt) (h1 : x.toInt < n) : ∃ k : Nat, k < n ∧ x = nI k := by
  refine ⟨x.toInt.toNat, by omega, ?_⟩
  have hx : x.toInt < 2 ^ 31 := Int32.toInt_lt x
  rw [iC_eqn (by omega)]
  omega
section
variable {l : Launch} {D : va_G} {G : kCx} {cc : ByteArray} {w w0 : va_W} {lv : List (Nat × Value)} {pc : Nat}
theorem j_endI {r v : Int32} (E : kE l D G cc .ireturn (some (.int r)) w) (hdg : decode cc pc = .ok (.ireturn, 1)) (hr : r = v) (hw : w = w0) : J l D G 0 0 w0 lv pc [.int v] := by
  subst hr; subst hw; exact E lv pc hdg
theorem j_endV (E : kE l D G cc .return_ none w) (hdg : decode cc pc = .ok (.return_, 1)) (hw : w = w0) : J l D G 0 0 w0 lv pc [] := by
  subst hw; exact E lv pc hdg
theorem j_endA {a b : Nat} (E : kE l D G cc .areturn (some (.ref a)) w) (hdg : decode cc pc = .ok (.areturn, 1)) (hr : a = b) (hw : w = w0) : J l D G 0 0 w0 lv pc [.ref b] := by
  subst hr; subst hw; exact E lv pc hdg
end
theorem up_same {α : Type} (f : Nat → α) (k : Nat) (v : α) : va_up f k v k = v := by simp [va_up]
theorem up_ne {α : Type} (f : Nat → α) {k j : Nat} (v : α) (h : j ≠ k) : va_up f k v j = f j := by simp [va_up, h]
end
section
/-- a table's contents: how many rows, and the cells -/
abbrev Tb : Type := Nat × (Nat → Nat)
def tbW (tA : Nat → ClassId) (h q most cols : Nat) (t : Tb) : va_W := [(h, .inr (2, [.ref q, .int (nI most), .int (nI cols), .int (nI t.1)])), (q, .inl (tA 0, most * cols, .inl (nF t.2)))]
theorem tb_fst {tA : Nat → ClassId} {h q most cols : Nat} {t : Tb} : (tbW tA h q most cols t).map Prod.fst = [h, q] := rfl
def inR (x : Int32) (n : Nat) : Bool := decide (0 ≤ x.toInt ∧ x.toInt < (n : Int))
theorem inR_nI {k n : Nat} (h : k < n) (hn : n < 2 ^ 31) : inR (nI k) n = true := by
  have := nI_toInt (show k < 2 ^ 31 by omega)
  simp only [inR, decide_eq_true_eq]
  omega
theorem inR_t {x : Int32} {n : Nat} (h : inR x n = true) : ∃ k : Nat, k < n ∧ x = nI k := by
  simp only [inR, decide_eq_true_eq] at h
  exact i_in h.1 h.2
theorem cell_lt {r n most cols c : Nat} (hr : r < n) (hn : n ≤ most) (hc : c < cols) : r * cols + c < most * cols := by
  have h1 : r * cols + cols ≤ n * cols := by
    have := Nat.mul_le_mul_right cols (show r + 1 ≤ n from hr)
    rwa [Nat.succ_mul] at this
  have h2 : n * cols ≤ most * cols := Nat.mul_le_mul_right _ hn
  omega
def tGet (cols : Nat) (t : Tb) (r c : Nat) : Nat := t.2 (r * cols + c)
def tSet (cols : Nat) (t : Tb) (r c v : Nat) : Tb := (t.1, va_up t.2 (r * cols + c) v)
/-- a new row, whose cells are 0 -/
def tAdd (cols : Nat) (t : Tb) : Tb := (t.1 + 1, fun j => if t.1 * cols ≤ j ∧ j < t.1 * cols + cols then 0 else t.2 j)
/-- the rows behind come one number earlier -/
def tDel (cols : Nat) (t : Tb) (r : Nat) : Tb := (t.1 - 1, fun j => if r * cols ≤ j ∧ j < (t.1 - 1) * cols then t.2 (j + cols) else t.2 j)
def cntN (p : Nat → Bool) : Nat → Nat
  | 0 => 0
  | n + 1 => cntN p n + (if p n = true then 1 else 0)
def sumN (f : Nat → Nat) : Nat → Nat
  | 0 => 0
  | n + 1 => sumN f n + f n
/-- the same cells, said otherwise -/
theorem j_world {l : Launch} {D : va_G} {G : kCx} {n k : Nat} {w w2 : va_W} {lv : List (Nat × Value)} {pc : Nat} {st : List Value} (h : ∀ H, va_P D vwCl w H → va_P D vwCl w2 H) (hf : w2.map Prod.fst = w.map Prod.fst) (kk : J l D G n k w2 lv pc st) : J l D G n k w lv pc st :=
  fun H locs ls hP hD hS hl => kk H locs ls (h H hP) (kD_same hD hf) hS hl
theorem arr_same {D : va_G} {cA : ClassId} {n a : Nat} {f g : Nat → Int32} {H : Heap} (h : ∀ j, j < n → f j = g j) (hP : va_at D vwCl (a, .inl (cA, n, .inl f)) H) : va_at D vwCl (a, .inl (cA, n, .inl g)) H := by
  show H[a]? = some (vp_cell cA (n, .inl g))
  have h0 : H[a]? = some (vp_cell cA (n, .inl f)) := hP
  rw [h0]
  congr 1
  simp only [vp_cell_i]
  show arrV cA n _ = arrV cA n _
  unfold arrV
  congr 1
  apply Array.ext
  · simp
  · intro i h1 h2
    have hi : i < n := by simpa using h1
    simp [h i hi]
theorem P_arr {D : va_G} {w : va_W} {q a n : Nat} {cA : ClassId} {f g : Nat → Int32} {H : Heap} (hq : q < w.length) (h : ∀ j, j < n → f j = g j) (hP : va_P D vwCl (w.set q (a, .inl (cA, n, .inl f))) H) : va_P D vwCl (w.set q (a, .inl (cA, n, .inl g))) H := by
  intro k x hk
  by_cases e : k = q
  · subst e
    rw [List.getElem?_set_self hq] at hk
    cases hk
    exact arr_same h (hP k _ (List.getElem?_set_self hq))
  · rw [List.getElem?_set_ne (Ne.symm e)] at hk
    exact hP k x (by rw [List.getElem?_set_ne (Ne.symm e)]; exact hk)
theorem j_copy {l : Launch} {D : va_G} {tA : Nat → ClassId} {G : kCx} {cc : ByteArray} {nL : Nat} {own : String} {fr lo n k : Nat} {w : va_W} {lv : List (Nat × Value)} {pc : Nat} {st : List Value} (X : kX D tA G cc nL own fr lo) (q0 q1 : Nat) {a0 a N index : Nat} {f g : Nat → Nat} (he0 : w[q0]? = some (a0, .inl (tA 0, N, .inl (nF f)))) (he1 : w[q1]? = some (a, .inl (tA 0, N, .inl (nF g)))) (hN : N < 65536)
    (hlink : Cond.methodLink own index arraycopyName ∈ kALL) (hfr : 1 ≤ fr) (hlo : (st.map fun v => v.category).sum + (nativeFrameWords "java/lang/System" "arraycopy" 5 + 11) ≤ lo) {w' : va_W} (hw : w.set q1 (a, .inl (tA 0, N, .inl (nF f))) = w') (hdg : decode cc pc = .ok (.invokestatic index, 3))
    (kk : J l D G n k w' lv (pc + 3) st) : J l D G n k w lv pc (.int (nI N) :: .int (nI 0) :: .ref a :: .int (nI 0) :: .ref a0 :: st) := by
  intro H locs ls hP hD hS hl
  have hq : q1 < w.length := (List.getElem?_eq_some_iff.mp he1).1
  have c0 : (nI 0).toNatClampNeg = 0 := nI_clamp (by omega)
  have cN : (nI N).toNatClampNeg = N := nI_clamp (by omega)
  refine va_copyi (D := D) (cl := vwCl) (ws := w) (tys := kTY tA) X.1 X.2.1 hl.1.symm X.2.2.2.1 (X.2.2.2.2.1 _ hlink) (X.2.2.2.2.1 _ wx_acopy) (X.2.2.2.2.1 _ wt_acopy) (X.2.2.2.2.1 _ wi_J10) X.2.2.2.2.2.1.1 hP hD hS q0 q1 0 0 he0 he1 rfl rfl rfl (nI_pos (by omega)) (nI_pos (by omega)) (nI_pos (by omega)) (by rw [c0, cN]; omega) (by rw [c0, cN]; omega) (fun i _ => rfl) (Nat.le_trans hfr X.2.2.2.2.2.2.2.1) (Nat.le_trans hlo X.2.2.2.2.2.2.2.2) hdg (fun H1 locs1 hP1 hD1 hS1 => ?_)
  rw [c0, cN] at hP1 hD1
  refine kk H1 locs1 ls ?_ ?_ hS1 hl
  · rw [← hw]
    exact P_arr hq (fun j hj => by simp [va_cpy, hj]) hP1
  · rw [← hw]
    exact kD_same hD1 (by rw [List.map_set, List.map_set])
theorem cd_X2_size : kCardV yX2_size cX2_size 1 (some .int) 0 := ⟨⟨wc_X2_size, wi_X2, by decide +kernel, by decide +kernel, rfl⟩, wk_X2_size, ws_X2_size⟩
set_option maxHeartbeats 4000000 in
set_option maxRecDepth 100000 in
theorem c_X2_size (l : Launch) (D : va_G) (tA : Nat → ClassId) (h q most cols : Nat) (t : Tb)   : Kx l D tA yX2_size cX2_size 1 (some .int) 0 0 [.ref h] (tbW tA h q most cols t) (some (.int (nI t.1))) (tbW tA h q most cols t) := by
  refine kx_int rfl (Nat.le_of_ble_eq_true rfl) (fun G X E => ?_)
  show J l D G 0 0 (tbW tA h q most cols t) [(0, .ref h)] 0 []
  refine j_aload_n (pc := 0) X dX2_size_0 rfl (q := 0) rfl ?_
  refine j_get (pc := 1) X (C := RX2) (T := TX2) (N := 4) wz_X2 0 rfl rfl 3 (by decide) wf_X2_28 rfl dX2_size_1 ?_
  exact j_endI (pc := 4) E dX2_size_4 rfl rfl
theorem cd_X2_has : kCardV yX2_has cX2_has 2 (some .boolean) 1 := ⟨⟨wc_X2_has, wi_X2, by decide +kernel, by decide +kernel, rfl⟩, wk_X2_has, ws_X2_has⟩
set_option maxHeartbeats 4000000 in
set_option maxRecDepth 100000 in
theorem c_X2_has (l : Launch) (D : va_G) (tA : Nat → ClassId) (h q most cols : Nat) (t : Tb) (x : Int32) (hm : most < 65536) (hz : most * cols < 65536) (ht : t.1 ≤ most) : Kx l D tA yX2_has cX2_has 2 (some .boolean) 0 0 [.ref h, .int x] (tbW tA h q most cols t) (some (.int (bI (inR x t.1)))) (tbW tA h q most cols t) := by
  refine kx_bool rfl (Nat.le_of_ble_eq_true rfl) (fun G X E => ?_)
  show J l D G 0 0 (tbW tA h q most cols t) [(0, .ref h), (1, .int x)] 0 []
  refine j_iload_n (pc := 0) X dX2_has_0 rfl (q := 1) rfl ?_
  refine j_if_lt (pc := 1) X (tgt := 16) (P := x.toInt < 0) dX2_has_1 (by decide) (iC_lt0 _) (fun h1 => ?_) (fun h1 => ?_)
  · skip
    refine j_iconst (pc := 16) X (v := (nI 0)) dX2_has_16 (by decide) ?_
    exact j_endI (pc := 17) E dX2_has_17 (bI_f (by simp only [inR, decide_eq_false_iff_not]; omega)) rfl
  · skip
    refine j_iload_n (pc := 4) X dX2_has_4 rfl (q := 1) rfl ?_
    refine j_aload_n (pc := 5) X dX2_has_5 rfl (q := 0) rfl ?_
    refine j_get (pc := 6) X (C := RX2) (T := TX2) (N := 4) wz_X2 0 rfl rfl 3 (by decide) wf_X2_28 rfl dX2_has_6 ?_
    refine j_icmp_ge (pc := 9) X (tgt := 16) (P := ((t.1 : Nat) : Int) ≤ x.toInt) dX2_has_9 (by decide) (iC_gen (by omega)) (fun h9 => ?_) (fun h9 => ?_)
    · skip
      refine j_iconst (pc := 16) X (v := (nI 0)) dX2_has_16 (by decide) ?_
      exact j_endI (pc := 17) E dX2_has_17 (bI_f (by simp only [inR, decide_eq_false_iff_not]; omega)) rfl
    · skip
      refine j_iconst (pc := 12) X (v := (nI 1)) dX2_has_12 (by decide) ?_
      refine j_goto (pc := 13) X (tgt := 17) dX2_has_13 (by decide) ?_
      exact j_endI (pc := 17) E dX2_has_17 (bI_t (by simp only [inR, decide_eq_true_eq]; omega)) rfl
theorem cd_X2_isFull : kCardV yX2_isFull cX2_isFull 1 (some .boolean) 0 := ⟨⟨wc_X2_isFull, wi_X2, by decide +kernel, by decide +kernel, rfl⟩, wk_X2_isFull, ws_X2_isFull⟩
set_option maxHeartbeats 4000000 in
set_option maxRecDepth 100000 in
theorem c_X2_isFull (l : Launch) (D : va_G) (tA : Nat → ClassId) (h q most cols : Nat) (t : Tb)  (hm : most < 65536) (hz : most * cols < 65536) (ht : t.1 ≤ most) : Kx l D tA yX2_isFull cX2_isFull 1 (some .boolean) 0 0 [.ref h] (tbW tA h q most cols t) (some (.int (bI (decide (most ≤ t.1))))) (tbW tA h q most cols t) := by
  refine kx_bool rfl (Nat.le_of_ble_eq_true rfl) (fun G X E => ?_)
  show J l D G 0 0 (tbW tA h q most cols t) [(0, .ref h)] 0 []
  refine j_aload_n (pc := 0) X dX2_isFull_0 rfl (q := 0) rfl ?_
  refine j_get (pc := 1) X (C := RX2) (T := TX2) (N := 4) wz_X2 0 rfl rfl 3 (by decide) wf_X2_28 rfl dX2_isFull_1 ?_
  refine j_aload_n (pc := 4) X dX2_isFull_4 rfl (q := 0) rfl ?_
  refine j_get (pc := 5) X (C := RX2) (T := TX2) (N := 4) wz_X2 0 rfl rfl 1 (by decide) wf_X2_9 rfl dX2_isFull_5 ?_
  refine j_icmp_lt (pc := 8) X (tgt := 15) (P := t.1 < most) dX2_isFull_8 (by decide) (nI_ltI (by omega) (by omega)) (fun h8 => ?_) (fun h8 => ?_)
  · skip
    refine j_iconst (pc := 15) X (v := (nI 0)) dX2_isFull_15 (by decide) ?_
    exact j_endI (pc := 16) E dX2_isFull_16 (bI_f (by simp only [decide_eq_false_iff_not]; omega)) rfl
  · skip
    refine j_iconst (pc := 11) X (v := (nI 1)) dX2_isFull_11 (by decide) ?_
    refine j_goto (pc := 12) X (tgt := 16) dX2_isFull_12 (by decide) ?_
    exact j_endI (pc := 16) E dX2_isFull_16 (bI_t (by simp only [decide_eq_true_eq]; omega)) rfl
theorem cd_X2_get : kCardV yX2_get cX2_get 4 (some .int) 2 := ⟨⟨wc_X2_get, wi_X2, by decide +kernel, by decide +kernel, rfl⟩, wk_X2_get, ws_X2_get⟩
set_option maxHeartbeats 4000000 in
set_option maxRecDepth 100000 in
theorem c_X2_get (l : Launch) (D : va_G) (tA : Nat → ClassId) (h q most cols : Nat) (t : Tb) (r c : Nat) (hm : most < 65536) (hz : most * cols < 65536) (ht : t.1 ≤ most) (hr : r < t.1) (hc : c < cols) (hcl : cols < 65536) : Kx l D tA yX2_get cX2_get 4 (some .int) 0 0 [.ref h, .int (nI r), .int (nI c)] (tbW tA h q most cols t) (some (.int (nI (tGet cols t r c)))) (tbW tA h q most cols t) := by
  refine kx_int rfl (Nat.le_of_ble_eq_true rfl) (fun G X E => ?_)
  show J l D G 0 0 (tbW tA h q most cols t) [(0, .ref h), (1, .int (nI r)), (2, .int (nI c))] 0 []
  have hx : r * cols + c < most * cols := cell_lt hr ht hc
  refine j_iload_n (pc := 0) X dX2_get_0 rfl (q := 1) rfl ?_
  refine j_aload_n (pc := 1) X dX2_get_1 rfl (q := 0) rfl ?_
  refine j_get (pc := 2) X (C := RX2) (T := TX2) (N := 4) wz_X2 0 rfl rfl 2 (by decide) wf_X2_15 rfl dX2_get_2 ?_
  refine j_imul (pc := 5) X (v := (nI (r * cols))) dX2_get_5 (pk_mul _ _) ?_
  refine j_iload_n (pc := 6) X dX2_get_6 rfl (q := 2) rfl ?_
  refine j_iadd (pc := 7) X (v := (nI ((r * cols) + c))) dX2_get_7 (nI_add _ _) ?_
  refine j_istore_n (pc := 8) X (lv' := [(3, .int (nI ((r * cols) + c))), (0, .ref h), (1, .int (nI r)), (2, .int (nI c))]) dX2_get_8 rfl (by decide) rfl ?_
  refine j_iload_n (pc := 9) X dX2_get_9 rfl (q := 2) rfl ?_
  refine j_if_lt_f (pc := 10) X (tgt := 46) dX2_get_10 (by decide) (nI_pos (by omega)) ?_
  refine j_iload_n (pc := 13) X dX2_get_13 rfl (q := 2) rfl ?_
  refine j_aload_n (pc := 14) X dX2_get_14 rfl (q := 1) rfl ?_
  refine j_get (pc := 15) X (C := RX2) (T := TX2) (N := 4) wz_X2 0 rfl rfl 3 (by decide) wf_X2_28 rfl dX2_get_15 ?_
  refine j_icmp_ge_f (pc := 18) X (tgt := 46) dX2_get_18 (by decide) (nI_ge hr (by omega)) ?_
  refine j_iload_n (pc := 21) X dX2_get_21 rfl (q := 3) rfl ?_
  refine j_if_lt_f (pc := 22) X (tgt := 46) dX2_get_22 (by decide) (nI_pos (by omega)) ?_
  refine j_iload_n (pc := 25) X dX2_get_25 rfl (q := 3) rfl ?_
  refine j_aload_n (pc := 26) X dX2_get_26 rfl (q := 1) rfl ?_
  refine j_get (pc := 27) X (C := RX2) (T := TX2) (N := 4) wz_X2 0 rfl rfl 2 (by decide) wf_X2_15 rfl dX2_get_27 ?_
  refine j_icmp_ge_f (pc := 30) X (tgt := 46) dX2_get_30 (by decide) (nI_ge hc (by omega)) ?_
  refine j_iload_n (pc := 33) X dX2_get_33 rfl (q := 0) rfl ?_
  refine j_if_lt_f (pc := 34) X (tgt := 46) dX2_get_34 (by decide) (nI_pos (by omega)) ?_
  refine j_iload_n (pc := 37) X dX2_get_37 rfl (q := 0) rfl ?_
  refine j_aload_n (pc := 38) X dX2_get_38 rfl (q := 1) rfl ?_
  refine j_get (pc := 39) X (C := RX2) (T := TX2) (N := 4) wz_X2 0 rfl rfl 0 (by decide) wf_X2_24 rfl dX2_get_39 ?_
  refine j_alen (pc := 42) X 1 0 rfl rfl dX2_get_42 ?_
  refine j_icmp_lt_t (pc := 43) X (tgt := 48) dX2_get_43 (by decide) (nI_lt hx (by omega)) ?_
  refine j_aload_n (pc := 48) X dX2_get_48 rfl (q := 1) rfl ?_
  refine j_get (pc := 49) X (C := RX2) (T := TX2) (N := 4) wz_X2 0 rfl rfl 0 (by decide) wf_X2_24 rfl dX2_get_49 ?_
  refine j_iload_n (pc := 52) X dX2_get_52 rfl (q := 0) rfl ?_
  refine j_iald (pc := 53) X 1 (i := ((r * cols) + c)) rfl (by omega) (by omega) dX2_get_53 ?_
  exact j_endI (pc := 54) E dX2_get_54 rfl rfl
theorem cd_X2_set : kCardV yX2_set cX2_set 5 none 3 := ⟨⟨wc_X2_set, wi_X2, by decide +kernel, by decide +kernel, rfl⟩, wk_X2_set, ws_X2_set⟩
set_option maxHeartbeats 4000000 in
set_option maxRecDepth 100000 in
theorem c_X2_set (l : Launch) (D : va_G) (tA : Nat → ClassId) (h q most cols : Nat) (t : Tb) (r c v : Nat) (hm : most < 65536) (hz : most * cols < 65536) (ht : t.1 ≤ most) (hr : r < t.1) (hc : c < cols) (hcl : cols < 65536) : Kx l D tA yX2_set cX2_set 5 none 0 0 [.ref h, .int (nI r), .int (nI c), .int (nI v)] (tbW tA h q most cols t) none (tbW tA h q most cols (tSet cols t r c v)) := by
  refine kx_void rfl (Nat.le_of_ble_eq_true rfl) (fun G X E => ?_)
  show J l D G 0 0 (tbW tA h q most cols t) [(0, .ref h), (1, .int (nI r)), (2, .int (nI c)), (3, .int (nI v))] 0 []
  have hx : r * cols + c < most * cols := cell_lt hr ht hc
  refine j_iload_n (pc := 0) X dX2_set_0 rfl (q := 1) rfl ?_
  refine j_aload_n (pc := 1) X dX2_set_1 rfl (q := 0) rfl ?_
  refine j_get (pc := 2) X (C := RX2) (T := TX2) (N := 4) wz_X2 0 rfl rfl 2 (by decide) wf_X2_15 rfl dX2_set_2 ?_
  refine j_imul (pc := 5) X (v := (nI (r * cols))) dX2_set_5 (pk_mul _ _) ?_
  refine j_iload_n (pc := 6) X dX2_set_6 rfl (q := 2) rfl ?_
  refine j_iadd (pc := 7) X (v := (nI ((r * cols) + c))) dX2_set_7 (nI_add _ _) ?_
  refine j_istore (pc := 8) X (lv' := [(4, .int (nI ((r * cols) + c))), (0, .ref h), (1, .int (nI r)), (2, .int (nI c)), (3, .int (nI v))]) dX2_set_8 (by decide) rfl ?_
  refine j_iload_n (pc := 10) X dX2_set_10 rfl (q := 2) rfl ?_
  refine j_if_lt_f (pc := 11) X (tgt := 49) dX2_set_11 (by decide) (nI_pos (by omega)) ?_
  refine j_iload_n (pc := 14) X dX2_set_14 rfl (q := 2) rfl ?_
  refine j_aload_n (pc := 15) X dX2_set_15 rfl (q := 1) rfl ?_
  refine j_get (pc := 16) X (C := RX2) (T := TX2) (N := 4) wz_X2 0 rfl rfl 3 (by decide) wf_X2_28 rfl dX2_set_16 ?_
  refine j_icmp_ge_f (pc := 19) X (tgt := 49) dX2_set_19 (by decide) (nI_ge hr (by omega)) ?_
  refine j_iload_n (pc := 22) X dX2_set_22 rfl (q := 3) rfl ?_
  refine j_if_lt_f (pc := 23) X (tgt := 49) dX2_set_23 (by decide) (nI_pos (by omega)) ?_
  refine j_iload_n (pc := 26) X dX2_set_26 rfl (q := 3) rfl ?_
  refine j_aload_n (pc := 27) X dX2_set_27 rfl (q := 1) rfl ?_
  refine j_get (pc := 28) X (C := RX2) (T := TX2) (N := 4) wz_X2 0 rfl rfl 2 (by decide) wf_X2_15 rfl dX2_set_28 ?_
  refine j_icmp_ge_f (pc := 31) X (tgt := 49) dX2_set_31 (by decide) (nI_ge hc (by omega)) ?_
  refine j_iload (pc := 34) X dX2_set_34 (q := 0) rfl ?_
  refine j_if_lt_f (pc := 36) X (tgt := 49) dX2_set_36 (by decide) (nI_pos (by omega)) ?_
  refine j_iload (pc := 39) X dX2_set_39 (q := 0) rfl ?_
  refine j_aload_n (pc := 41) X dX2_set_41 rfl (q := 1) rfl ?_
  refine j_get (pc := 42) X (C := RX2) (T := TX2) (N := 4) wz_X2 0 rfl rfl 0 (by decide) wf_X2_24 rfl dX2_set_42 ?_
  refine j_alen (pc := 45) X 1 0 rfl rfl dX2_set_45 ?_
  refine j_icmp_lt_t (pc := 46) X (tgt := 50) dX2_set_46 (by decide) (nI_lt hx (by omega)) ?_
  refine j_aload_n (pc := 50) X dX2_set_50 rfl (q := 1) rfl ?_
  refine j_get (pc := 51) X (C := RX2) (T := TX2) (N := 4) wz_X2 0 rfl rfl 0 (by decide) wf_X2_24 rfl dX2_set_51 ?_
  refine j_iload (pc := 54) X dX2_set_54 (q := 0) rfl ?_
  refine j_iload_n (pc := 56) X dX2_set_56 rfl (q := 4) rfl ?_
  refine j_iast (pc := 57) X 1 (i := ((r * cols) + c)) (v := v) rfl (by omega) (by omega) (w' := (tbW tA h q most cols (t.1, va_up t.2 ((r * cols) + c) v))) rfl dX2_set_57 ?_
  exact j_endV (pc := 58) E dX2_set_58 rfl
theorem zr_step (cols : Nat) (t : Tb) {c : Nat} {f : Nat → Nat} (hf : f = fun j => if t.1 * cols ≤ j ∧ j < t.1 * cols + c then 0 else t.2 j) : va_up f (t.1 * cols + c) 0 = fun j => if t.1 * cols ≤ j ∧ j < t.1 * cols + (c + 1) then 0 else t.2 j := by
  funext j
  by_cases h : j = t.1 * cols + c
  · subst h
    rw [up_same, if_pos ⟨by omega, by omega⟩]
  · rw [up_ne _ _ h, hf]
    show (if t.1 * cols ≤ j ∧ j < t.1 * cols + c then 0 else t.2 j) = _
    by_cases h2 : t.1 * cols ≤ j ∧ j < t.1 * cols + c
    · rw [if_pos h2, if_pos ⟨h2.1, by omega⟩]
    · rw [if_neg h2, if_neg (fun q => h2 ⟨q.1, by omega⟩)]
def sR (cols r : Nat) (f : Nat → Nat) (m : Nat) : Nat → Nat := fun j => if r * cols ≤ j ∧ j < m then f (j + cols) else f j
theorem sr_step {cols r : Nat} {f g : Nat → Nat} {m : Nat} (hg : g = sR cols r f m) (hm : r * cols ≤ m) : va_up g m (g (m + cols)) = sR cols r f (m + 1) := by
  subst hg
  funext j
  by_cases h : j = m
  · subst h
    rw [up_same]
    simp only [sR]
    rw [if_pos (show r * cols ≤ j ∧ j < j + 1 from ⟨hm, by omega⟩)]
    by_cases h2 : r * cols ≤ j + cols ∧ j + cols < j
    · omega
    · rw [if_neg h2]
  · rw [up_ne _ _ h]
    simp only [sR]
    by_cases h2 : r * cols ≤ j ∧ j < m
    · rw [if_pos h2, if_pos ⟨h2.1, by omega⟩]
    · rw [if_neg h2, if_neg (fun q => h2 ⟨q.1, by omega⟩)]
theorem sr_0 {cols r : Nat} {f : Nat → Nat} : sR cols r f (r * cols) = f := by
  funext j
  simp only [sR]
  rw [if_neg (by omega)]
theorem cnt_t {p : Nat → Bool} {i k : Nat} (hk : k = cntN p i) (h : p i = true) : k + 1 = cntN p (i + 1) := by rw [cntN, if_pos h, hk]
theorem cnt_f {p : Nat → Bool} {i k : Nat} (hk : k = cntN p i) (h : ¬ p i = true) : k = cntN p (i + 1) := by rw [cntN, if_neg h, hk]; rfl
theorem cd_X2_increase : kCardV yX2_increase cX2_increase 4 none 3 := ⟨⟨wc_X2_increase, wi_X2, by decide +kernel, by decide +kernel, rfl⟩, wk_X2_increase, ws_X2_increase⟩
set_option maxHeartbeats 4000000 in
set_option maxRecDepth 100000 in
theorem c_X2_increase (l : Launch) (D : va_G) (tA : Nat → ClassId) (h q most cols : Nat) (t : Tb) (r c : Nat) (d : Int32) (v : Nat) (hm : most < 65536) (hz : most * cols < 65536) (ht : t.1 ≤ most) (hr : r < t.1) (hc : c < cols) (hcl : cols < 65536) (hd : nI (tGet cols t r c) + d = nI v) : Kx l D tA yX2_increase cX2_increase 4 none 1 24 [.ref h, .int (nI r), .int (nI c), .int d] (tbW tA h q most cols t) none (tbW tA h q most cols (tSet cols t r c v)) := by
  refine kx_void rfl (Nat.le_of_ble_eq_true rfl) (fun G X E => ?_)
  show J l D G 0 0 (tbW tA h q most cols t) [(0, .ref h), (1, .int (nI r)), (2, .int (nI c)), (3, .int d)] 0 []
  refine j_aload_n (pc := 0) X dX2_increase_0 rfl (q := 0) rfl ?_
  refine j_iload_n (pc := 1) X dX2_increase_1 rfl (q := 1) rfl ?_
  refine j_iload_n (pc := 2) X dX2_increase_2 rfl (q := 2) rfl ?_
  refine j_aload_n (pc := 3) X dX2_increase_3 rfl (q := 0) rfl ?_
  refine j_iload_n (pc := 4) X dX2_increase_4 rfl (q := 1) rfl ?_
  refine j_iload_n (pc := 5) X dX2_increase_5 rfl (q := 2) rfl ?_
  refine j_callVR (pc := 6) X (st := [.int (nI c), .int (nI r), .ref h])  (c_X2_get l D tA h q most cols t r c (by first | assumption | omega | decide) (by first | assumption | omega | decide) (by first | assumption | omega | decide) (by first | assumption | omega | decide) (by first | assumption | omega | decide) (by first | assumption | omega | decide)) cd_X2_get wm_X2_31 0 rfl rfl rfl [0, 1] rfl rfl ⟨Nat.le_of_ble_eq_true rfl, Nat.le_of_ble_eq_true rfl⟩ ⟨Nat.zero_le _, Nat.zero_le _⟩ rfl (Nat.le_of_ble_eq_true rfl) dX2_increase_6 ?_
  refine j_iload_n (pc := 9) X dX2_increase_9 rfl (q := 3) rfl ?_
  refine j_iadd (pc := 10) X (v := (nI v)) dX2_increase_10 hd ?_
  refine j_callV (pc := 11) X (st := []) (w' := (tbW tA h q most cols (tSet cols t r c v))) (c_X2_set l D tA h q most cols t r c v (by first | assumption | omega | decide) (by first | assumption | omega | decide) (by first | assumption | omega | decide) (by first | assumption | omega | decide) (by first | assumption | omega | decide) (by first | assumption | omega | decide)) cd_X2_set wm_X2_34 0 rfl rfl rfl [0, 1] rfl rfl (tb_fst.trans tb_fst.symm) rfl ⟨Nat.le_of_ble_eq_true rfl, Nat.le_of_ble_eq_true rfl⟩ ⟨Nat.zero_le _, Nat.zero_le _⟩ rfl (Nat.le_of_ble_eq_true rfl) dX2_increase_11 ?_
  exact j_endV (pc := 14) E dX2_increase_14 rfl
theorem cd_X2_addRow : kCardV yX2_addRow cX2_addRow 3 (some .int) 0 := ⟨⟨wc_X2_addRow, wi_X2, by decide +kernel, by decide +kernel, rfl⟩, wk_X2_addRow, ws_X2_addRow⟩
set_option maxHeartbeats 4000000 in
set_option maxRecDepth 100000 in
theorem c_X2_addRow (l : Launch) (D : va_G) (tA : Nat → ClassId) (h q most cols : Nat) (t : Tb)  (hm : most < 65536) (hz : most * cols < 65536) (ht : t.1 ≤ most) (hcl : cols < 65536) (hlt : t.1 < most) : Kx l D tA yX2_addRow cX2_addRow 3 (some .int) 1 24 [.ref h] (tbW tA h q most cols t) (some (.int (nI t.1))) (tbW tA h q most cols (tAdd cols t)) := by
  refine kx_int rfl (Nat.le_of_ble_eq_true rfl) (fun G X E => ?_)
  show J l D G 0 0 (tbW tA h q most cols t) [(0, .ref h)] 0 []
  refine j_aload_n (pc := 0) X dX2_addRow_0 rfl (q := 0) rfl ?_
  refine j_callVR (pc := 1) X (st := [])  (c_X2_isFull l D tA h q most cols t  (by first | assumption | omega | decide) (by first | assumption | omega | decide) (by first | assumption | omega | decide)) cd_X2_isFull wm_X2_38 0 rfl rfl rfl [0, 1] rfl rfl ⟨Nat.le_of_ble_eq_true rfl, Nat.le_of_ble_eq_true rfl⟩ ⟨Nat.zero_le _, Nat.zero_le _⟩ rfl (Nat.le_of_ble_eq_true rfl) dX2_addRow_1 ?_
  refine j_if_eq_t (pc := 4) X (tgt := 10) dX2_addRow_4 (by decide) ((bI_0 _).mpr (by simp only [decide_eq_false_iff_not]; omega)) ?_
  refine j_aload_n (pc := 10) X dX2_addRow_10 rfl (q := 0) rfl ?_
  refine j_get (pc := 11) X (C := RX2) (T := TX2) (N := 4) wz_X2 0 rfl rfl 3 (by decide) wf_X2_28 rfl dX2_addRow_11 ?_
  refine j_istore_n (pc := 14) X (lv' := [(1, .int (nI t.1)), (0, .ref h)]) dX2_addRow_14 rfl (by decide) rfl ?_
  refine j_aload_n (pc := 15) X dX2_addRow_15 rfl (q := 1) rfl ?_
  refine j_dup (pc := 16) X dX2_addRow_16 rfl ?_
  refine j_get (pc := 17) X (C := RX2) (T := TX2) (N := 4) wz_X2 0 rfl rfl 3 (by decide) wf_X2_28 rfl dX2_addRow_17 ?_
  refine j_iconst (pc := 20) X (v := (nI 1)) dX2_addRow_20 (by decide) ?_
  refine j_iadd (pc := 21) X (v := (nI (t.1 + 1))) dX2_addRow_21 (nI_add _ _) ?_
  refine j_put (pc := 22) X (C := RX2) (T := TX2) (N := 4) wz_X2 tyX2 tyX2_ok nmX2 0 rfl rfl 3 (by decide) wf_X2_28 rfl rfl rfl (Nat.le_of_ble_eq_true rfl) (w' := (tbW tA h q most cols (t.1 + 1, t.2))) rfl dX2_addRow_22 ?_
  refine j_iconst (pc := 25) X (v := (nI 0)) dX2_addRow_25 (by decide) ?_
  refine j_istore_n (pc := 26) X (lv' := [(2, .int (nI 0)), (1, .int (nI t.1)), (0, .ref h)]) dX2_addRow_26 rfl (by decide) rfl ?_
  have L_27 : ∀ (fu : Nat) (c : Nat) (f : Nat → Nat), c ≤ cols → f = (fun j => if t.1 * cols ≤ j ∧ j < t.1 * cols + c then 0 else t.2 j) → cols - c < fu → J l D G 0 0 (tbW tA h q most cols (t.1 + 1, f)) [(0, .ref h), (1, .int (nI t.1)), (2, .int (nI c))] 27 [] := by
    intro fu
    induction fu with
    | zero => intro c f hi hf hfu; exact absurd hfu (Nat.not_lt_zero _)
    | succ fu ih_27 =>
      intro c f hi hf hfu
      refine j_iload_n (pc := 27) X dX2_addRow_27 rfl (q := 2) rfl ?_
      refine j_aload_n (pc := 28) X dX2_addRow_28 rfl (q := 0) rfl ?_
      refine j_get (pc := 29) X (C := RX2) (T := TX2) (N := 4) wz_X2 0 rfl rfl 2 (by decide) wf_X2_15 rfl dX2_addRow_29 ?_
      refine j_icmp_ge (pc := 32) X (tgt := 48) (P := cols ≤ c) dX2_addRow_32 (by decide) (nI_leI (by omega) (by omega)) (fun h32 => ?_) (fun h32 => ?_)
      · skip
        refine j_iload_n (pc := 48) X dX2_addRow_48 rfl (q := 1) rfl ?_
        exact j_endI (pc := 49) E dX2_addRow_49 rfl (by show tbW tA h q most cols (tAdd cols t) = _; rw [tAdd, hf, show c = cols by omega])
      · skip
        refine j_aload_n (pc := 35) X dX2_addRow_35 rfl (q := 0) rfl ?_
        refine j_iload_n (pc := 36) X dX2_addRow_36 rfl (q := 1) rfl ?_
        refine j_iload_n (pc := 37) X dX2_addRow_37 rfl (q := 2) rfl ?_
        refine j_iconst (pc := 38) X (v := (nI 0)) dX2_addRow_38 (by decide) ?_
        refine j_callV (pc := 39) X (st := []) (w' := (tbW tA h q most cols (tSet cols (t.1 + 1, f) t.1 c 0))) (c_X2_set l D tA h q most cols (t.1 + 1, f) t.1 c 0 hm hz (show t.1 + 1 ≤ most by omega) (show t.1 < t.1 + 1 by omega) (show c < cols by omega) hcl) cd_X2_set wm_X2_34 0 rfl rfl rfl [0, 1] rfl rfl (tb_fst.trans tb_fst.symm) rfl ⟨Nat.le_of_ble_eq_true rfl, Nat.le_of_ble_eq_true rfl⟩ ⟨Nat.zero_le _, Nat.zero_le _⟩ rfl (Nat.le_of_ble_eq_true rfl) dX2_addRow_39 ?_
        refine j_iinc (pc := 42) X (v := (nI (c + 1))) (lv' := [(2, .int (nI (c + 1))), (0, .ref h), (1, .int (nI t.1))]) dX2_addRow_42 (q := 2) rfl (nI_add _ _) (by decide) rfl ?_
        refine j_goto (pc := 45) X (tgt := 27) dX2_addRow_45 (by decide) ?_
        refine j_lv X (lv' := [(0, .ref h), (1, .int (nI t.1)), (2, .int (nI (c + 1)))]) [1, 2, 0] rfl ?_
        exact ih_27 (c + 1) (va_up f (t.1 * cols + c) 0) (by omega) (zr_step cols t hf) (by omega)
  refine j_lv X (lv' := [(0, .ref h), (1, .int (nI t.1)), (2, .int (nI 0))]) [2, 1, 0] rfl ?_
  exact L_27 _ 0 t.2 (Nat.zero_le _) (by funext j; rw [if_neg (by omega)]) (Nat.lt_succ_self _)
theorem cd_X2_removeRow : kCardV yX2_removeRow cX2_removeRow 4 none 1 := ⟨⟨wc_X2_removeRow, wi_X2, by decide +kernel, by decide +kernel, rfl⟩, wk_X2_removeRow, ws_X2_removeRow⟩
set_option maxHeartbeats 4000000 in
set_option maxRecDepth 100000 in
theorem c_X2_removeRow (l : Launch) (D : va_G) (tA : Nat → ClassId) (h q most cols : Nat) (t : Tb) (r : Nat) (hm : most < 65536) (hz : most * cols < 65536) (ht : t.1 ≤ most) (hcl : cols < 65536) (hr : r < t.1) : Kx l D tA yX2_removeRow cX2_removeRow 4 none 1 24 [.ref h, .int (nI r)] (tbW tA h q most cols t) none (tbW tA h q most cols (tDel cols t r)) := by
  refine kx_void rfl (Nat.le_of_ble_eq_true rfl) (fun G X E => ?_)
  show J l D G 0 0 (tbW tA h q most cols t) [(0, .ref h), (1, .int (nI r))] 0 []
  refine j_aload_n (pc := 0) X dX2_removeRow_0 rfl (q := 0) rfl ?_
  refine j_iload_n (pc := 1) X dX2_removeRow_1 rfl (q := 1) rfl ?_
  refine j_callVR (pc := 2) X (st := [])  (c_X2_has l D tA h q most cols t (nI r) hm hz ht) cd_X2_has wm_X2_42 0 rfl rfl rfl [0, 1] rfl rfl ⟨Nat.le_of_ble_eq_true rfl, Nat.le_of_ble_eq_true rfl⟩ ⟨Nat.zero_le _, Nat.zero_le _⟩ rfl (Nat.le_of_ble_eq_true rfl) dX2_removeRow_2 ?_
  refine j_if_ne_t (pc := 5) X (tgt := 9) dX2_removeRow_5 (by decide) ((bI_n0 _).mpr (inR_nI hr (by omega))) ?_
  refine j_iload_n (pc := 9) X dX2_removeRow_9 rfl (q := 1) rfl ?_
  refine j_iconst (pc := 10) X (v := (nI 1)) dX2_removeRow_10 (by decide) ?_
  refine j_iadd (pc := 11) X (v := (nI (r + 1))) dX2_removeRow_11 (nI_add _ _) ?_
  refine j_istore_n (pc := 12) X (lv' := [(2, .int (nI (r + 1))), (0, .ref h), (1, .int (nI r))]) dX2_removeRow_12 rfl (by decide) rfl ?_
  have L_13 : ∀ (fu : Nat) (L : Nat) (f : Nat → Nat), r + 1 ≤ L → L ≤ t.1 → f = sR cols r t.2 ((L - 1) * cols) → t.1 - L < fu → J l D G 0 0 (tbW tA h q most cols (t.1, f)) [(0, .ref h), (1, .int (nI r)), (2, .int (nI L))] 13 [] := by
    intro fu
    induction fu with
    | zero => intro L f hL hL2 hf hfu; exact absurd hfu (Nat.not_lt_zero _)
    | succ fu ih_13 =>
      intro L f hL hL2 hf hfu
      refine j_iload_n (pc := 13) X dX2_removeRow_13 rfl (q := 2) rfl ?_
      refine j_aload_n (pc := 14) X dX2_removeRow_14 rfl (q := 0) rfl ?_
      refine j_get (pc := 15) X (C := RX2) (T := TX2) (N := 4) wz_X2 0 rfl rfl 3 (by decide) wf_X2_28 rfl dX2_removeRow_15 ?_
      refine j_icmp_ge (pc := 18) X (tgt := 57) (P := ((t.1, f).1) ≤ L) dX2_removeRow_18 (by decide) (nI_leI (by omega) (by omega)) (fun h18 => ?_) (fun h18 => ?_)
      · skip
        refine j_aload_n (pc := 57) X dX2_removeRow_57 rfl (q := 0) rfl ?_
        refine j_dup (pc := 58) X dX2_removeRow_58 rfl ?_
        refine j_get (pc := 59) X (C := RX2) (T := TX2) (N := 4) wz_X2 0 rfl rfl 3 (by decide) wf_X2_28 rfl dX2_removeRow_59 ?_
        refine j_iconst (pc := 62) X (v := (nI 1)) dX2_removeRow_62 (by decide) ?_
        refine j_isub (pc := 63) X (v := (nI (((t.1, f).1) - 1))) dX2_removeRow_63 (pk_sub (by omega)) ?_
        refine j_put (pc := 64) X (C := RX2) (T := TX2) (N := 4) wz_X2 tyX2 tyX2_ok nmX2 0 rfl rfl 3 (by decide) wf_X2_28 rfl rfl rfl (Nat.le_of_ble_eq_true rfl) (w' := (tbW tA h q most cols (((t.1, f).1) - 1, (t.1, f).2))) rfl dX2_removeRow_64 ?_
        exact j_endV (pc := 67) E dX2_removeRow_67 (by show tbW tA h q most cols (tDel cols t r) = _; rw [tDel, hf, show L = t.1 by omega]; rfl)
      · skip
        refine j_iconst (pc := 21) X (v := (nI 0)) dX2_removeRow_21 (by decide) ?_
        refine j_istore_n (pc := 22) X (lv' := [(3, .int (nI 0)), (0, .ref h), (1, .int (nI r)), (2, .int (nI L))]) dX2_removeRow_22 rfl (by decide) rfl ?_
        have L_23 : ∀ (fu : Nat) (c : Nat) (g : Nat → Nat), c ≤ cols → g = sR cols r t.2 ((L - 1) * cols + c) → cols - c < fu → J l D G 0 0 (tbW tA h q most cols (t.1, g)) [(0, .ref h), (1, .int (nI r)), (2, .int (nI L)), (3, .int (nI c))] 23 [] := by
          intro fu
          induction fu with
          | zero => intro c g hc hg hfu; exact absurd hfu (Nat.not_lt_zero _)
          | succ fu ih_23 =>
            intro c g hc hg hfu
            refine j_iload_n (pc := 23) X dX2_removeRow_23 rfl (q := 3) rfl ?_
            refine j_aload_n (pc := 24) X dX2_removeRow_24 rfl (q := 0) rfl ?_
            refine j_get (pc := 25) X (C := RX2) (T := TX2) (N := 4) wz_X2 0 rfl rfl 2 (by decide) wf_X2_15 rfl dX2_removeRow_25 ?_
            refine j_icmp_ge (pc := 28) X (tgt := 51) (P := cols ≤ c) dX2_removeRow_28 (by decide) (nI_leI (by omega) (by omega)) (fun h28 => ?_) (fun h28 => ?_)
            · skip
              refine j_iinc (pc := 51) X (v := (nI (L + 1))) (lv' := [(2, .int (nI (L + 1))), (0, .ref h), (1, .int (nI r)), (3, .int (nI c))]) dX2_removeRow_51 (q := 2) rfl (nI_add _ _) (by decide) rfl ?_
              refine j_goto (pc := 54) X (tgt := 13) dX2_removeRow_54 (by decide) ?_
              refine j_lv X (lv' := [(0, .ref h), (1, .int (nI r)), (2, .int (nI (L + 1)))]) [1, 2, 0] rfl ?_
              exact ih_13 (L + 1) g (by omega) (by omega) (by rw [hg, Nat.add_sub_cancel, show c = cols by omega]; congr 1; have := Nat.succ_mul (L - 1) cols; rw [show (L - 1).succ = L by omega] at this; omega) (by omega)
            · skip
              refine j_aload_n (pc := 31) X dX2_removeRow_31 rfl (q := 0) rfl ?_
              refine j_iload_n (pc := 32) X dX2_removeRow_32 rfl (q := 2) rfl ?_
              refine j_iconst (pc := 33) X (v := (nI 1)) dX2_removeRow_33 (by decide) ?_
              refine j_isub (pc := 34) X (v := (nI (L - 1))) dX2_removeRow_34 (pk_sub (by omega)) ?_
              refine j_iload_n (pc := 35) X dX2_removeRow_35 rfl (q := 3) rfl ?_
              refine j_aload_n (pc := 36) X dX2_removeRow_36 rfl (q := 0) rfl ?_
              refine j_iload_n (pc := 37) X dX2_removeRow_37 rfl (q := 2) rfl ?_
              refine j_iload_n (pc := 38) X dX2_removeRow_38 rfl (q := 3) rfl ?_
              refine j_callVR (pc := 39) X (st := [.int (nI c), .int (nI (L - 1)), .ref h])  (c_X2_get l D tA h q most cols (t.1, g) L c hm hz ht (show L < t.1 by omega) (show c < cols by omega) hcl) cd_X2_get wm_X2_31 0 rfl rfl rfl [0, 1] rfl rfl ⟨Nat.le_of_ble_eq_true rfl, Nat.le_of_ble_eq_true rfl⟩ ⟨Nat.zero_le _, Nat.zero_le _⟩ rfl (Nat.le_of_ble_eq_true rfl) dX2_removeRow_39 ?_
              refine j_callV (pc := 42) X (st := []) (w' := (tbW tA h q most cols (tSet cols (t.1, g) (L - 1) c (tGet cols (t.1, g) L c)))) (c_X2_set l D tA h q most cols (t.1, g) (L - 1) c (tGet cols (t.1, g) L c) hm hz ht (show L - 1 < t.1 by omega) (show c < cols by omega) hcl) cd_X2_set wm_X2_34 0 rfl rfl rfl [0, 1] rfl rfl (tb_fst.trans tb_fst.symm) rfl ⟨Nat.le_of_ble_eq_true rfl, Nat.le_of_ble_eq_true rfl⟩ ⟨Nat.zero_le _, Nat.zero_le _⟩ rfl (Nat.le_of_ble_eq_true rfl) dX2_removeRow_42 ?_
              refine j_iinc (pc := 45) X (v := (nI (c + 1))) (lv' := [(3, .int (nI (c + 1))), (0, .ref h), (1, .int (nI r)), (2, .int (nI L))]) dX2_removeRow_45 (q := 3) rfl (nI_add _ _) (by decide) rfl ?_
              refine j_goto (pc := 48) X (tgt := 23) dX2_removeRow_48 (by decide) ?_
              refine j_lv X (lv' := [(0, .ref h), (1, .int (nI r)), (2, .int (nI L)), (3, .int (nI (c + 1)))]) [1, 2, 3, 0] rfl ?_
              exact ih_23 (c + 1) (va_up g ((L - 1) * cols + c) (g (L * cols + c))) (by omega) (by rw [show L * cols + c = ((L - 1) * cols + c) + cols by (have := Nat.succ_mul (L - 1) cols; rw [show (L - 1).succ = L by omega] at this; omega)]; exact sr_step hg (Nat.le_trans (Nat.mul_le_mul_right cols (show r ≤ L - 1 by omega)) (Nat.le_add_right _ _))) (by omega)
        refine j_lv X (lv' := [(0, .ref h), (1, .int (nI r)), (2, .int (nI L)), (3, .int (nI 0))]) [1, 2, 3, 0] rfl ?_
        exact L_23 _ 0 f (Nat.zero_le _) hf (Nat.lt_succ_self _)
  refine j_lv X (lv' := [(0, .ref h), (1, .int (nI r)), (2, .int (nI (r + 1)))]) [1, 2, 0] rfl ?_
  exact L_13 _ (r + 1) t.2 (Nat.le_refl _) (by omega) (by rw [Nat.add_sub_cancel]; exact sr_0.symm) (Nat.lt_succ_self _)
theorem cd_X2_removeAll : kCardV yX2_removeAll cX2_removeAll 1 none 0 := ⟨⟨wc_X2_removeAll, wi_X2, by decide +kernel, by decide +kernel, rfl⟩, wk_X2_removeAll, ws_X2_removeAll⟩
set_option maxHeartbeats 4000000 in
set_option maxRecDepth 100000 in
theorem c_X2_removeAll (l : Launch) (D : va_G) (tA : Nat → ClassId) (h q most cols : Nat) (t : Tb)   : Kx l D tA yX2_removeAll cX2_removeAll 1 none 0 0 [.ref h] (tbW tA h q most cols t) none (tbW tA h q most cols (0, t.2)) := by
  refine kx_void rfl (Nat.le_of_ble_eq_true rfl) (fun G X E => ?_)
  show J l D G 0 0 (tbW tA h q most cols t) [(0, .ref h)] 0 []
  refine j_aload_n (pc := 0) X dX2_removeAll_0 rfl (q := 0) rfl ?_
  refine j_iconst (pc := 1) X (v := (nI 0)) dX2_removeAll_1 (by decide) ?_
  refine j_put (pc := 2) X (C := RX2) (T := TX2) (N := 4) wz_X2 tyX2 tyX2_ok nmX2 0 rfl rfl 3 (by decide) wf_X2_28 rfl rfl rfl (Nat.le_of_ble_eq_true rfl) (w' := (tbW tA h q most cols (0, t.2))) rfl dX2_removeAll_2 ?_
  exact j_endV (pc := 5) E dX2_removeAll_5 rfl
theorem cd_X2_countOf : kCardV yX2_countOf cX2_countOf 5 (some .int) 2 := ⟨⟨wc_X2_countOf, wi_X2, by decide +kernel, by decide +kernel, rfl⟩, wk_X2_countOf, ws_X2_countOf⟩
set_option maxHeartbeats 4000000 in
set_option maxRecDepth 100000 in
theorem c_X2_countOf (l : Launch) (D : va_G) (tA : Nat → ClassId) (h q most cols : Nat) (t : Tb) (c v : Nat) (hm : most < 65536) (hz : most * cols < 65536) (ht : t.1 ≤ most) (hcl : cols < 65536) (hc : c < cols) (hb : ∀ r, r < t.1 → tGet cols t r c < 2 ^ 31) (hv : v < 2 ^ 31) : Kx l D tA yX2_countOf cX2_countOf 5 (some .int) 1 23 [.ref h, .int (nI c), .int (nI v)] (tbW tA h q most cols t) (some (.int (nI (cntN (fun r => decide (tGet cols t r c = v)) t.1)))) (tbW tA h q most cols t) := by
  refine kx_int rfl (Nat.le_of_ble_eq_true rfl) (fun G X E => ?_)
  show J l D G 0 0 (tbW tA h q most cols t) [(0, .ref h), (1, .int (nI c)), (2, .int (nI v))] 0 []
  refine j_iconst (pc := 0) X (v := (nI 0)) dX2_countOf_0 (by decide) ?_
  refine j_istore_n (pc := 1) X (lv' := [(3, .int (nI 0)), (0, .ref h), (1, .int (nI c)), (2, .int (nI v))]) dX2_countOf_1 rfl (by decide) rfl ?_
  refine j_iconst (pc := 2) X (v := (nI 0)) dX2_countOf_2 (by decide) ?_
  refine j_istore (pc := 3) X (lv' := [(4, .int (nI 0)), (3, .int (nI 0)), (0, .ref h), (1, .int (nI c)), (2, .int (nI v))]) dX2_countOf_3 (by decide) rfl ?_
  have L_5 : ∀ (fu : Nat) (i k : Nat), i ≤ t.1 → k = cntN (fun r => decide (tGet cols t r c = v)) i → t.1 - i < fu → J l D G 0 0 (tbW tA h q most cols t) [(0, .ref h), (1, .int (nI c)), (2, .int (nI v)), (3, .int (nI k)), (4, .int (nI i))] 5 [] := by
    intro fu
    induction fu with
    | zero => intro i k hi hk hfu; exact absurd hfu (Nat.not_lt_zero _)
    | succ fu ih_5 =>
      intro i k hi hk hfu
      refine j_iload (pc := 5) X dX2_countOf_5 (q := 4) rfl ?_
      refine j_aload_n (pc := 7) X dX2_countOf_7 rfl (q := 0) rfl ?_
      refine j_get (pc := 8) X (C := RX2) (T := TX2) (N := 4) wz_X2 0 rfl rfl 3 (by decide) wf_X2_28 rfl dX2_countOf_8 ?_
      refine j_icmp_ge (pc := 11) X (tgt := 34) (P := t.1 ≤ i) dX2_countOf_11 (by decide) (nI_leI (by omega) (by omega)) (fun h11 => ?_) (fun h11 => ?_)
      · skip
        refine j_iload_n (pc := 34) X dX2_countOf_34 rfl (q := 3) rfl ?_
        exact j_endI (pc := 35) E dX2_countOf_35 (by rw [hk, show i = t.1 by omega]) rfl
      · skip
        refine j_aload_n (pc := 14) X dX2_countOf_14 rfl (q := 0) rfl ?_
        refine j_iload (pc := 15) X dX2_countOf_15 (q := 4) rfl ?_
        refine j_iload_n (pc := 17) X dX2_countOf_17 rfl (q := 1) rfl ?_
        refine j_callVR (pc := 18) X (st := [])  (c_X2_get l D tA h q most cols t i c hm hz ht (show i < t.1 by omega) hc hcl) cd_X2_get wm_X2_31 0 rfl rfl rfl [0, 1] rfl rfl ⟨Nat.le_of_ble_eq_true rfl, Nat.le_of_ble_eq_true rfl⟩ ⟨Nat.zero_le _, Nat.zero_le _⟩ rfl (Nat.le_of_ble_eq_true rfl) dX2_countOf_18 ?_
        have hbi := hb i (by omega)
        refine j_iload_n (pc := 21) X dX2_countOf_21 rfl (q := 2) rfl ?_
        refine j_icmp_ne (pc := 22) X (tgt := 28) (P := ¬ (tGet cols t i c) = v) dX2_countOf_22 (by decide) (not_congr (nI_eq (by omega) (by omega))) (fun h22 => ?_) (fun h22 => ?_)
        · skip
          refine j_iinc (pc := 28) X (v := (nI (i + 1))) (lv' := [(4, .int (nI (i + 1))), (0, .ref h), (1, .int (nI c)), (2, .int (nI v)), (3, .int (nI k))]) dX2_countOf_28 (q := 4) rfl (nI_add _ _) (by decide) rfl ?_
          refine j_goto (pc := 31) X (tgt := 5) dX2_countOf_31 (by decide) ?_
          refine j_lv X (lv' := [(0, .ref h), (1, .int (nI c)), (2, .int (nI v)), (3, .int (nI k)), (4, .int (nI (i + 1)))]) [1, 2, 3, 4, 0] rfl ?_
          exact ih_5 (i + 1) k (by omega) (cnt_f hk (by simpa using h22)) (by omega)
        · skip
          refine j_iinc (pc := 25) X (v := (nI (k + 1))) (lv' := [(3, .int (nI (k + 1))), (0, .ref h), (1, .int (nI c)), (2, .int (nI v)), (4, .int (nI i))]) dX2_countOf_25 (q := 3) rfl (nI_add _ _) (by decide) rfl ?_
          refine j_iinc (pc := 28) X (v := (nI (i + 1))) (lv' := [(4, .int (nI (i + 1))), (3, .int (nI (k + 1))), (0, .ref h), (1, .int (nI c)), (2, .int (nI v))]) dX2_countOf_28 (q := 4) rfl (nI_add _ _) (by decide) rfl ?_
          refine j_goto (pc := 31) X (tgt := 5) dX2_countOf_31 (by decide) ?_
          refine j_lv X (lv' := [(0, .ref h), (1, .int (nI c)), (2, .int (nI v)), (3, .int (nI (k + 1))), (4, .int (nI (i + 1)))]) [2, 3, 4, 1, 0] rfl ?_
          exact ih_5 (i + 1) (k + 1) (by omega) (cnt_t hk (by simpa using h22)) (by omega)
  refine j_lv X (lv' := [(0, .ref h), (1, .int (nI c)), (2, .int (nI v)), (3, .int (nI 0)), (4, .int (nI 0))]) [2, 3, 4, 1, 0] rfl ?_
  exact L_5 _ 0 0 (Nat.zero_le _) rfl (Nat.lt_succ_self _)
theorem cd_X2_countBoth : kCardV yX2_countBoth cX2_countBoth 7 (some .int) 4 := ⟨⟨wc_X2_countBoth, wi_X2, by decide +kernel, by decide +kernel, rfl⟩, wk_X2_countBoth, ws_X2_countBoth⟩
set_option maxHeartbeats 4000000 in
set_option maxRecDepth 100000 in
theorem c_X2_countBoth (l : Launch) (D : va_G) (tA : Nat → ClassId) (h q most cols : Nat) (t : Tb) (c v c2 v2 : Nat) (hm : most < 65536) (hz : most * cols < 65536) (ht : t.1 ≤ most) (hcl : cols < 65536) (hc : c < cols) (hb : ∀ r, r < t.1 → tGet cols t r c < 2 ^ 31) (hv : v < 2 ^ 31) (hc2 : c2 < cols) (hb2 : ∀ r, r < t.1 → tGet cols t r c2 < 2 ^ 31) (hv2 : v2 < 2 ^ 31) : Kx l D tA yX2_countBoth cX2_countBoth 7 (some .int) 1 23 [.ref h, .int (nI c), .int (nI v), .int (nI c2), .int (nI v2)] (tbW tA h q most cols t) (some (.int (nI (cntN (fun r => decide (tGet cols t r c = v ∧ tGet cols t r c2 = v2)) t.1)))) (tbW tA h q most cols t) := by
  refine kx_int rfl (Nat.le_of_ble_eq_true rfl) (fun G X E => ?_)
  show J l D G 0 0 (tbW tA h q most cols t) [(0, .ref h), (1, .int (nI c)), (2, .int (nI v)), (3, .int (nI c2)), (4, .int (nI v2))] 0 []
  refine j_iconst (pc := 0) X (v := (nI 0)) dX2_countBoth_0 (by decide) ?_
  refine j_istore (pc := 1) X (lv' := [(5, .int (nI 0)), (0, .ref h), (1, .int (nI c)), (2, .int (nI v)), (3, .int (nI c2)), (4, .int (nI v2))]) dX2_countBoth_1 (by decide) rfl ?_
  refine j_iconst (pc := 3) X (v := (nI 0)) dX2_countBoth_3 (by decide) ?_
  refine j_istore (pc := 4) X (lv' := [(6, .int (nI 0)), (5, .int (nI 0)), (0, .ref h), (1, .int (nI c)), (2, .int (nI v)), (3, .int (nI c2)), (4, .int (nI v2))]) dX2_countBoth_4 (by decide) rfl ?_
  have L_6 : ∀ (fu : Nat) (i k : Nat), i ≤ t.1 → k = cntN (fun r => decide (tGet cols t r c = v ∧ tGet cols t r c2 = v2)) i → t.1 - i < fu → J l D G 0 0 (tbW tA h q most cols t) [(0, .ref h), (1, .int (nI c)), (2, .int (nI v)), (3, .int (nI c2)), (4, .int (nI v2)), (5, .int (nI k)), (6, .int (nI i))] 6 [] := by
    intro fu
    induction fu with
    | zero => intro i k hi hk hfu; exact absurd hfu (Nat.not_lt_zero _)
    | succ fu ih_6 =>
      intro i k hi hk hfu
      refine j_iload (pc := 6) X dX2_countBoth_6 (q := 6) rfl ?_
      refine j_aload_n (pc := 8) X dX2_countBoth_8 rfl (q := 0) rfl ?_
      refine j_get (pc := 9) X (C := RX2) (T := TX2) (N := 4) wz_X2 0 rfl rfl 3 (by decide) wf_X2_28 rfl dX2_countBoth_9 ?_
      refine j_icmp_ge (pc := 12) X (tgt := 47) (P := t.1 ≤ i) dX2_countBoth_12 (by decide) (nI_leI (by omega) (by omega)) (fun h12 => ?_) (fun h12 => ?_)
      · skip
        refine j_iload (pc := 47) X dX2_countBoth_47 (q := 5) rfl ?_
        exact j_endI (pc := 49) E dX2_countBoth_49 (by rw [hk, show i = t.1 by omega]) rfl
      · skip
        refine j_aload_n (pc := 15) X dX2_countBoth_15 rfl (q := 0) rfl ?_
        refine j_iload (pc := 16) X dX2_countBoth_16 (q := 6) rfl ?_
        refine j_iload_n (pc := 18) X dX2_countBoth_18 rfl (q := 1) rfl ?_
        refine j_callVR (pc := 19) X (st := [])  (c_X2_get l D tA h q most cols t i c hm hz ht (show i < t.1 by omega) hc hcl) cd_X2_get wm_X2_31 0 rfl rfl rfl [0, 1] rfl rfl ⟨Nat.le_of_ble_eq_true rfl, Nat.le_of_ble_eq_true rfl⟩ ⟨Nat.zero_le _, Nat.zero_le _⟩ rfl (Nat.le_of_ble_eq_true rfl) dX2_countBoth_19 ?_
        have hbi := hb i (by omega)
        refine j_iload_n (pc := 22) X dX2_countBoth_22 rfl (q := 2) rfl ?_
        refine j_icmp_ne (pc := 23) X (tgt := 41) (P := ¬ (tGet cols t i c) = v) dX2_countBoth_23 (by decide) (not_congr (nI_eq (by omega) (by omega))) (fun h23 => ?_) (fun h23 => ?_)
        · skip
          refine j_iinc (pc := 41) X (v := (nI (i + 1))) (lv' := [(6, .int (nI (i + 1))), (0, .ref h), (1, .int (nI c)), (2, .int (nI v)), (3, .int (nI c2)), (4, .int (nI v2)), (5, .int (nI k))]) dX2_countBoth_41 (q := 6) rfl (nI_add _ _) (by decide) rfl ?_
          refine j_goto (pc := 44) X (tgt := 6) dX2_countBoth_44 (by decide) ?_
          refine j_lv X (lv' := [(0, .ref h), (1, .int (nI c)), (2, .int (nI v)), (3, .int (nI c2)), (4, .int (nI v2)), (5, .int (nI k)), (6, .int (nI (i + 1)))]) [1, 2, 3, 4, 5, 6, 0] rfl ?_
          exact ih_6 (i + 1) k (by omega) (cnt_f hk (by simp only [decide_eq_true_eq]; exact fun q => h23 q.1)) (by omega)
        · skip
          refine j_aload_n (pc := 26) X dX2_countBoth_26 rfl (q := 0) rfl ?_
          refine j_iload (pc := 27) X dX2_countBoth_27 (q := 6) rfl ?_
          refine j_iload_n (pc := 29) X dX2_countBoth_29 rfl (q := 3) rfl ?_
          refine j_callVR (pc := 30) X (st := [])  (c_X2_get l D tA h q most cols t i c2 hm hz ht (show i < t.1 by omega) hc2 hcl) cd_X2_get wm_X2_31 0 rfl rfl rfl [0, 1] rfl rfl ⟨Nat.le_of_ble_eq_true rfl, Nat.le_of_ble_eq_true rfl⟩ ⟨Nat.zero_le _, Nat.zero_le _⟩ rfl (Nat.le_of_ble_eq_true rfl) dX2_countBoth_30 ?_
          have hbi2 := hb2 i (by omega)
          refine j_iload (pc := 33) X dX2_countBoth_33 (q := 4) rfl ?_
          refine j_icmp_ne (pc := 35) X (tgt := 41) (P := ¬ (tGet cols t i c2) = v2) dX2_countBoth_35 (by decide) (not_congr (nI_eq (by omega) (by omega))) (fun h35 => ?_) (fun h35 => ?_)
          · skip
            refine j_iinc (pc := 41) X (v := (nI (i + 1))) (lv' := [(6, .int (nI (i + 1))), (0, .ref h), (1, .int (nI c)), (2, .int (nI v)), (3, .int (nI c2)), (4, .int (nI v2)), (5, .int (nI k))]) dX2_countBoth_41 (q := 6) rfl (nI_add _ _) (by decide) rfl ?_
            refine j_goto (pc := 44) X (tgt := 6) dX2_countBoth_44 (by decide) ?_
            refine j_lv X (lv' := [(0, .ref h), (1, .int (nI c)), (2, .int (nI v)), (3, .int (nI c2)), (4, .int (nI v2)), (5, .int (nI k)), (6, .int (nI (i + 1)))]) [1, 2, 3, 4, 5, 6, 0] rfl ?_
            exact ih_6 (i + 1) k (by omega) (cnt_f hk (by simp only [decide_eq_true_eq]; exact fun q => h35 q.2)) (by omega)
          · skip
            refine j_iinc (pc := 38) X (v := (nI (k + 1))) (lv' := [(5, .int (nI (k + 1))), (0, .ref h), (1, .int (nI c)), (2, .int (nI v)), (3, .int (nI c2)), (4, .int (nI v2)), (6, .int (nI i))]) dX2_countBoth_38 (q := 5) rfl (nI_add _ _) (by decide) rfl ?_
            refine j_iinc (pc := 41) X (v := (nI (i + 1))) (lv' := [(6, .int (nI (i + 1))), (5, .int (nI (k + 1))), (0, .ref h), (1, .int (nI c)), (2, .int (nI v)), (3, .int (nI c2)), (4, .int (nI v2))]) dX2_countBoth_41 (q := 6) rfl (nI_add _ _) (by decide) rfl ?_
            refine j_goto (pc := 44) X (tgt := 6) dX2_countBoth_44 (by decide) ?_
            refine j_lv X (lv' := [(0, .ref h), (1, .int (nI c)), (2, .int (nI v)), (3, .int (nI c2)), (4, .int (nI v2)), (5, .int (nI (k + 1))), (6, .int (nI (i + 1)))]) [2, 3, 4, 5, 6, 1, 0] rfl ?_
            exact ih_6 (i + 1) (k + 1) (by omega) (cnt_t hk (by simp only [decide_eq_true_eq]; exact ⟨Decidable.not_not.mp h23, Decidable.not_not.mp h35⟩)) (by omega)
  refine j_lv X (lv' := [(0, .ref h), (1, .int (nI c)), (2, .int (nI v)), (3, .int (nI c2)), (4, .int (nI v2)), (5, .int (nI 0)), (6, .int (nI 0))]) [2, 3, 4, 5, 6, 1, 0] rfl ?_
  exact L_6 _ 0 0 (Nat.zero_le _) rfl (Nat.lt_succ_self _)
theorem cd_X2_sumOf : kCardV yX2_sumOf cX2_sumOf 4 (some .int) 1 := ⟨⟨wc_X2_sumOf, wi_X2, by decide +kernel, by decide +kernel, rfl⟩, wk_X2_sumOf, ws_X2_sumOf⟩
set_option maxHeartbeats 4000000 in
set_option maxRecDepth 100000 in
theorem c_X2_sumOf (l : Launch) (D : va_G) (tA : Nat → ClassId) (h q most cols : Nat) (t : Tb) (c : Nat) (hm : most < 65536) (hz : most * cols < 65536) (ht : t.1 ≤ most) (hcl : cols < 65536) (hc : c < cols) : Kx l D tA yX2_sumOf cX2_sumOf 4 (some .int) 1 23 [.ref h, .int (nI c)] (tbW tA h q most cols t) (some (.int (nI (sumN (fun r => tGet cols t r c) t.1)))) (tbW tA h q most cols t) := by
  refine kx_int rfl (Nat.le_of_ble_eq_true rfl) (fun G X E => ?_)
  show J l D G 0 0 (tbW tA h q most cols t) [(0, .ref h), (1, .int (nI c))] 0 []
  refine j_iconst (pc := 0) X (v := (nI 0)) dX2_sumOf_0 (by decide) ?_
  refine j_istore_n (pc := 1) X (lv' := [(2, .int (nI 0)), (0, .ref h), (1, .int (nI c))]) dX2_sumOf_1 rfl (by decide) rfl ?_
  refine j_iconst (pc := 2) X (v := (nI 0)) dX2_sumOf_2 (by decide) ?_
  refine j_istore_n (pc := 3) X (lv' := [(3, .int (nI 0)), (2, .int (nI 0)), (0, .ref h), (1, .int (nI c))]) dX2_sumOf_3 rfl (by decide) rfl ?_
  have L_4 : ∀ (fu : Nat) (i k : Nat), i ≤ t.1 → k = sumN (fun r => tGet cols t r c) i → t.1 - i < fu → J l D G 0 0 (tbW tA h q most cols t) [(0, .ref h), (1, .int (nI c)), (2, .int (nI k)), (3, .int (nI i))] 4 [] := by
    intro fu
    induction fu with
    | zero => intro i k hi hk hfu; exact absurd hfu (Nat.not_lt_zero _)
    | succ fu ih_4 =>
      intro i k hi hk hfu
      refine j_iload_n (pc := 4) X dX2_sumOf_4 rfl (q := 3) rfl ?_
      refine j_aload_n (pc := 5) X dX2_sumOf_5 rfl (q := 0) rfl ?_
      refine j_get (pc := 6) X (C := RX2) (T := TX2) (N := 4) wz_X2 0 rfl rfl 3 (by decide) wf_X2_28 rfl dX2_sumOf_6 ?_
      refine j_icmp_ge (pc := 9) X (tgt := 27) (P := t.1 ≤ i) dX2_sumOf_9 (by decide) (nI_leI (by omega) (by omega)) (fun h9 => ?_) (fun h9 => ?_)
      · skip
        refine j_iload_n (pc := 27) X dX2_sumOf_27 rfl (q := 2) rfl ?_
        exact j_endI (pc := 28) E dX2_sumOf_28 (by rw [hk, show i = t.1 by omega]) rfl
      · skip
        refine j_iload_n (pc := 12) X dX2_sumOf_12 rfl (q := 2) rfl ?_
        refine j_aload_n (pc := 13) X dX2_sumOf_13 rfl (q := 0) rfl ?_
        refine j_iload_n (pc := 14) X dX2_sumOf_14 rfl (q := 3) rfl ?_
        refine j_iload_n (pc := 15) X dX2_sumOf_15 rfl (q := 1) rfl ?_
        refine j_callVR (pc := 16) X (st := [.int (nI k)])  (c_X2_get l D tA h q most cols t i c hm hz ht (show i < t.1 by omega) hc hcl) cd_X2_get wm_X2_31 0 rfl rfl rfl [0, 1] rfl rfl ⟨Nat.le_of_ble_eq_true rfl, Nat.le_of_ble_eq_true rfl⟩ ⟨Nat.zero_le _, Nat.zero_le _⟩ rfl (Nat.le_of_ble_eq_true rfl) dX2_sumOf_16 ?_
        refine j_iadd (pc := 19) X (v := (nI (k + (tGet cols t i c)))) dX2_sumOf_19 (nI_add _ _) ?_
        refine j_istore_n (pc := 20) X (lv' := [(2, .int (nI (k + (tGet cols t i c)))), (0, .ref h), (1, .int (nI c)), (3, .int (nI i))]) dX2_sumOf_20 rfl (by decide) rfl ?_
        refine j_iinc (pc := 21) X (v := (nI (i + 1))) (lv' := [(3, .int (nI (i + 1))), (2, .int (nI (k + (tGet cols t i c)))), (0, .ref h), (1, .int (nI c))]) dX2_sumOf_21 (q := 3) rfl (nI_add _ _) (by decide) rfl ?_
        refine j_goto (pc := 24) X (tgt := 4) dX2_sumOf_24 (by decide) ?_
        refine j_lv X (lv' := [(0, .ref h), (1, .int (nI c)), (2, .int (nI (k + (tGet cols t i c)))), (3, .int (nI (i + 1)))]) [2, 3, 1, 0] rfl ?_
        exact ih_4 (i + 1) (k + tGet cols t i c) (by omega) (by rw [hk]; rfl) (by omega)
  refine j_lv X (lv' := [(0, .ref h), (1, .int (nI c)), (2, .int (nI 0)), (3, .int (nI 0))]) [2, 3, 1, 0] rfl ?_
  exact L_4 _ 0 0 (Nat.zero_le _) rfl (Nat.lt_succ_self _)
theorem cd_X2_copyFrom : kCardV yX2_copyFrom cX2_copyFrom 2 none 1 := ⟨⟨wc_X2_copyFrom, wi_X2, by decide +kernel, by decide +kernel, rfl⟩, wk_X2_copyFrom, ws_X2_copyFrom⟩
set_option maxHeartbeats 4000000 in
set_option maxRecDepth 100000 in
theorem c_X2_copyFrom (l : Launch) (D : va_G) (tA : Nat → ClassId) (h q most cols : Nat) (t : Tb) (h2 q2 : Nat) (t2 : Tb) (hm : most < 65536) (hz : most * cols < 65536) (ht : t.1 ≤ most) (ht2 : t2.1 ≤ most) : Kx l D tA yX2_copyFrom cX2_copyFrom 2 none 1 18 [.ref h, .ref h2] (tbW tA h q most cols t ++ tbW tA h2 q2 most cols t2) none (tbW tA h q most cols t2 ++ tbW tA h2 q2 most cols t2) := by
  refine kx_void rfl (Nat.le_of_ble_eq_true rfl) (fun G X E => ?_)
  show J l D G 0 0 (tbW tA h q most cols t ++ tbW tA h2 q2 most cols t2) [(0, .ref h), (1, .ref h2)] 0 []
  refine j_aload_n (pc := 0) X dX2_copyFrom_0 rfl (q := 0) rfl ?_
  refine j_aload_n (pc := 1) X dX2_copyFrom_1 rfl (q := 1) rfl ?_
  refine j_get (pc := 2) X (C := RX2) (T := TX2) (N := 4) wz_X2 2 rfl rfl 3 (by decide) wf_X2_28 rfl dX2_copyFrom_2 ?_
  refine j_aload_n (pc := 5) X dX2_copyFrom_5 rfl (q := 0) rfl ?_
  refine j_get (pc := 6) X (C := RX2) (T := TX2) (N := 4) wz_X2 0 rfl rfl 1 (by decide) wf_X2_9 rfl dX2_copyFrom_6 ?_
  refine j_mmin (pc := 9) X wm_X2_46 (Nat.le_of_ble_eq_true rfl) (Nat.le_of_ble_eq_true rfl) ⟨Nat.zero_le _, Nat.zero_le _⟩ (v := (nI t2.1)) (by rw [nI_min (by omega) (by omega), Nat.min_eq_left ht2]) dX2_copyFrom_9 ?_
  refine j_put (pc := 12) X (C := RX2) (T := TX2) (N := 4) wz_X2 tyX2 tyX2_ok nmX2 0 rfl rfl 3 (by decide) wf_X2_28 rfl rfl rfl (Nat.le_of_ble_eq_true rfl) (w' := (tbW tA h q most cols (t2.1, t.2) ++ tbW tA h2 q2 most cols t2)) rfl dX2_copyFrom_12 ?_
  refine j_aload_n (pc := 15) X dX2_copyFrom_15 rfl (q := 1) rfl ?_
  refine j_get (pc := 16) X (C := RX2) (T := TX2) (N := 4) wz_X2 2 rfl rfl 0 (by decide) wf_X2_24 rfl dX2_copyFrom_16 ?_
  refine j_iconst (pc := 19) X (v := (nI 0)) dX2_copyFrom_19 (by decide) ?_
  refine j_aload_n (pc := 20) X dX2_copyFrom_20 rfl (q := 0) rfl ?_
  refine j_get (pc := 21) X (C := RX2) (T := TX2) (N := 4) wz_X2 0 rfl rfl 0 (by decide) wf_X2_24 rfl dX2_copyFrom_21 ?_
  refine j_iconst (pc := 24) X (v := (nI 0)) dX2_copyFrom_24 (by decide) ?_
  refine j_aload_n (pc := 25) X dX2_copyFrom_25 rfl (q := 1) rfl ?_
  refine j_get (pc := 26) X (C := RX2) (T := TX2) (N := 4) wz_X2 2 rfl rfl 0 (by decide) wf_X2_24 rfl dX2_copyFrom_26 ?_
  refine j_alen (pc := 29) X 3 0 rfl rfl dX2_copyFrom_29 ?_
  refine j_aload_n (pc := 30) X dX2_copyFrom_30 rfl (q := 0) rfl ?_
  refine j_get (pc := 31) X (C := RX2) (T := TX2) (N := 4) wz_X2 0 rfl rfl 0 (by decide) wf_X2_24 rfl dX2_copyFrom_31 ?_
  refine j_alen (pc := 34) X 1 0 rfl rfl dX2_copyFrom_34 ?_
  refine j_mmin (pc := 35) X wm_X2_46 (Nat.le_of_ble_eq_true rfl) (Nat.le_of_ble_eq_true rfl) ⟨Nat.zero_le _, Nat.zero_le _⟩ (v := (nI (most * cols))) (by rw [nI_min (by omega) (by omega), Nat.min_self]) dX2_copyFrom_35 ?_
  refine j_copy (pc := 38) X 3 1 rfl rfl (by omega) wm_X2_49 (Nat.le_of_ble_eq_true rfl) (Nat.le_of_ble_eq_true rfl) (w' := (tbW tA h q most cols (t2.1, t2.2) ++ tbW tA h2 q2 most cols t2)) rfl dX2_copyFrom_38 ?_
  exact j_endV (pc := 41) E dX2_copyFrom_41 rfl
end
section
/-! the club's state as numbers, and what its methods do to it -/
abbrev Sg : Type := Tb × Tb × Tb × Tb × (Nat → Nat) × Nat × Nat × Nat × Nat
abbrev sM (s : Sg) : Tb := s.1
abbrev sP (s : Sg) : Tb := s.2.1
abbrev sB (s : Sg) : Tb := s.2.2.1
abbrev sV (s : Sg) : Tb := s.2.2.2.1
abbrev sW (s : Sg) : Nat → Nat := s.2.2.2.2.1
abbrev sN (s : Sg) : Nat := s.2.2.2.2.2.1
abbrev sD (s : Sg) : Nat := s.2.2.2.2.2.2.1
abbrev sF (s : Sg) : Nat := s.2.2.2.2.2.2.2.1
abbrev sX (s : Sg) : Nat := s.2.2.2.2.2.2.2.2
def uM (s : Sg) (t : Tb) : Sg := (t, sP s, sB s, sV s, sW s, sN s, sD s, sF s, sX s)
def uP (s : Sg) (t : Tb) : Sg := (sM s, t, sB s, sV s, sW s, sN s, sD s, sF s, sX s)
def uB (s : Sg) (t : Tb) : Sg := (sM s, sP s, t, sV s, sW s, sN s, sD s, sF s, sX s)
def uV (s : Sg) (t : Tb) : Sg := (sM s, sP s, sB s, t, sW s, sN s, sD s, sF s, sX s)
def uW (s : Sg) (f : Nat → Nat) : Sg := (sM s, sP s, sB s, sV s, f, sN s, sD s, sF s, sX s)
def uN (s : Sg) (n : Nat) : Sg := (sM s, sP s, sB s, sV s, sW s, n, sD s, sF s, sX s)
def uD (s : Sg) (n : Nat) : Sg := (sM s, sP s, sB s, sV s, sW s, sN s, n, sF s, sX s)
def uF (s : Sg) (n : Nat) : Sg := (sM s, sP s, sB s, sV s, sW s, sN s, sD s, n, sX s)
def uX (s : Sg) (n : Nat) : Sg := (sM s, sP s, sB s, sV s, sW s, sN s, sD s, sF s, n)
/-- the cells of a state, at the addresses a -/
def stW (tA : Nat → ClassId) (a : Nat → Nat) (s : Sg) : va_W :=
  [(a 0, .inr (1, [.ref (a 1), .ref (a 2), .ref (a 3), .ref (a 4), .ref (a 5), .int (nI (sN s)), .int (nI (sD s)), .int (nI (sF s)), .int (nI (sX s))])), (a 5, .inl (tA 0, 200, .inl (nF (sW s)))), (a 1, .inr (2, [.ref (a 6), .int (nI 5), .int (nI 3), .int (nI (sM s).1)])), (a 6, .inl (tA 0, 5 * 3, .inl (nF (sM s).2))), (a 2, .inr (2, [.ref (a 7), .int (nI 8), .int (nI 2), .int (nI (sP s).1)])), (a 7, .inl (tA 0, 8 * 2, .inl (nF (sP s).2))), (a 3, .inr (2, [.ref (a 8), .int (nI 30), .int (nI 8), .int (nI (sB s).1)])), (a 8, .inl (tA 0, 30 * 8, .inl (nF (sB s).2))), (a 4, .inr (2, [.ref (a 9), .int (nI 10), .int (nI 5), .int (nI (sV s).1)])), (a 9, .inl (tA 0, 10 * 5, .inl (nF (sV s).2)))]
def stA (a : Nat → Nat) : List Nat := [a 0, a 5, a 1, a 6, a 2, a 7, a 3, a 8, a 4, a 9]
theorem st_fst {tA : Nat → ClassId} {a : Nat → Nat} {s : Sg} : (stW tA a s).map Prod.fst = stA a := rfl
/-- NONE, as it stands in a cell -/
def NN : Nat := 4294967291
def noO (v : Nat) : Option Nat := if v = NN then none else some v
theorem rO_noO (v : Nat) : rO (noO v) = nI v := by
  by_cases h : v = NN
  · subst h; decide +kernel
  · simp [noO, h, rO]
def fndN (p : Nat → Bool) : Nat → Option Nat
  | 0 => none
  | n + 1 => match fndN p n with
    | some i => some i
    | none => if p n = true then some n else none
theorem fnd_at {p : Nat → Bool} {i : Nat} (h : fndN p i = none) (hp : p i = true) : fndN p (i + 1) = some i := by simp [fndN, h, hp]
theorem fnd_no {p : Nat → Bool} {i : Nat} (h : fndN p i = none) (hp : ¬ p i = true) : fndN p (i + 1) = none := by simp [fndN, h, hp]
theorem fnd_up {p : Nat → Bool} {i j : Nat} (h : fndN p j = some i) : ∀ n, j ≤ n → fndN p n = some i := by
  intro n hn
  induction n with
  | zero => rw [show j = 0 by omega] at h; exact h
  | succ n ih =>
    rcases Nat.lt_or_ge j (n + 1) with q | q
    · simp [fndN, ih (by omega)]
    · rw [show n + 1 = j by omega]; exact h
theorem fnd_lt {p : Nat → Bool} {i : Nat} : ∀ n, fndN p n = some i → i < n ∧ p i = true
  | 0, h => by simp [fndN] at h
  | n + 1, h => by
    cases e : fndN p n with
    | some j =>
      simp only [fndN, e] at h
      cases h
      have := fnd_lt n e
      exact ⟨by omega, this.2⟩
    | none =>
      simp only [fndN, e] at h
      by_cases hp : p n = true
      · rw [if_pos hp] at h; cases h; exact ⟨Nat.lt_succ_self _, hp⟩
      · rw [if_neg hp] at h; cases h
def limN (ld r : Nat) : Nat := max 10 (60 - ld / 20 - r / 2)
def brn (M : Tb) (m r : Nat) : Nat := min ((tGet 3 M m 0 * 100 + tGet 3 M m 1 * 150) / max r 2) (tGet 3 M m 0 * 10)
def bkF (B : Tb) (m h : Nat) : Option Nat := fndN (fun b => decide (tGet 8 B b 5 = 0 ∧ tGet 8 B b 1 = m ∧ tGet 8 B b 2 = h)) B.1
def canT (s : Sg) (m h ld r : Nat) : Bool := decide (ld ≤ brn (sM s) m r ∧ bkF (sB s) m h = none)
def brsB (s : Sg) (m b : Nat) : Bool := decide (tGet 8 (sB s) b 3 ≤ brn (sM s) m (tGet 8 (sB s) b 4))
def limO (B : Tb) (b : Nat) : Nat := limN (tGet 8 B b 3) (tGet 8 B b 4)
def must (s : Sg) (b : Nat) : Bool := decide (brsB s (tGet 8 (sB s) b 1) b = false ∨ limO (sB s) b < sW s (tGet 8 (sB s) b 2))
def caus (s : Sg) (b : Nat) : Option Nat :=
  if brsB s (tGet 8 (sB s) b 1) b = true then (if limO (sB s) b < tGet 8 (sB s) b 6 then some (tGet 8 (sB s) b 0) else none) else noO (tGet 3 (sM s) (tGet 8 (sB s) b 1) 2)
def nxA (V : Tb) (h : Nat) : Nat → Option Nat × Nat
  | 0 => (none, h + 1)
  | i + 1 => if tGet 5 V i 4 < (nxA V h i).2 then (some i, tGet 5 V i 4) else nxA V h i
def nxt (V : Tb) (h : Nat) : Option Nat := (nxA V h V.1).1
def payS (s : Sg) (p c : Nat) : Sg := uP s (tSet 2 (sP s) p 0 (tGet 2 (sP s) p 0 + c))
/-- the blocks go, and the member is noted -/
def mvM (M : Tb) (fr to mu who : Nat) : Tb :=
  tSet 3 (tSet 3 (tSet 3 M fr 1 (tGet 3 M fr 1 - mu)) to 1 (tGet 3 (tSet 3 M fr 1 (tGet 3 M fr 1 - mu)) to 1 + mu)) fr 2 who
def clM (s : Sg) (v : Nat) : Sg :=
  if tGet 3 (sM s) (tGet 5 (sV s) v 1) 1 < tGet 5 (sV s) v 3 ∨ 12 < tGet 3 (sM s) (tGet 5 (sV s) v 2) 1 + tGet 5 (sV s) v 3
  then uF (payS (uV s (tDel 5 (sV s) v)) (tGet 5 (sV s) v 0) 5) (sF s + 1)
  else uD (payS (uM (uV s (tDel 5 (sV s) v)) (mvM (sM s) (tGet 5 (sV s) v 1) (tGet 5 (sV s) v 2) (tGet 5 (sV s) v 3) (tGet 5 (sV s) v 0))) (tGet 5 (sV s) v 0) (5 + 2 * tGet 5 (sV s) v 3)) (sD s + 1)
def clo : Nat → Sg → Nat → Sg
  | 0, s, _ => s
  | n + 1, s, h => match nxt (sV s) h with
    | none => s
    | some v => clo n (clM s v) h
def placeS (s : Sg) (b m h : Nat) : Sg := uB s (tSet 8 (tSet 8 (tSet 8 (sB s) b 1 m) b 2 h) b 6 (sW s h))
def lftS (s : Sg) (b : Nat) : Sg := payS (uB s (tSet 8 (sB s) b 5 1)) (tGet 8 (tSet 8 (sB s) b 5 1) b 0) 30
def fre (B : Tb) (m : Nat) : Nat → Nat → Option Nat
  | 0, _ => none
  | n + 1, h => if bkF B m h = none then some h else fre B m n (h + 1)
def cryS (s : Sg) (b : Nat) : Sg := match fre (sB s) (tGet 8 (sB s) b 1) (min (sN s + 9) 199 - sN s) (sN s + 1) with
  | some h => placeS s b (tGet 8 (sB s) b 1) h
  | none => uB s (tSet 8 (sB s) b 5 2)
def cauS (s : Sg) (b : Nat) : Sg := match caus s b with
  | none => uX s (sX s + 1)
  | some p => payS (uP s (tSet 2 (sP s) p 1 (tGet 2 (sP s) p 1 + 1))) p 8
def incB (s : Sg) (b : Nat) : Sg := uB s (tSet 8 (sB s) b 7 (tGet 8 (sB s) b 7 + 1))
def stbS (s : Sg) (b : Nat) : Sg := cryS (incB (cauS s b) b) b
def stpB (q : Sg × Nat) (b : Nat) : Sg × Nat :=
  if tGet 8 (sB q.1) b 5 = 0 ∧ tGet 8 (sB q.1) b 2 = sN q.1 then (if must q.1 b = true then (stbS q.1 b, q.2) else (lftS q.1 b, q.2 + 1)) else q
def psB : Nat → Sg → Sg × Nat
  | 0, s => (s, 0)
  | n + 1, s => stpB (psB n s) n
def psC (s : Sg) : Sg × Nat := psB (sB (clo 10 s (sN s))).1 (clo 10 s (sN s))
def psH (s : Sg) : Sg × Nat := (uN (psC s).1 (sN (psC s).1 + 1), (psC s).2)
def pMach (s : Sg) (st bl : Nat) : Sg := uM s (tSet 3 (tSet 3 (tSet 3 (tAdd 3 (sM s)) (sM s).1 0 st) (sM s).1 1 bl) (sM s).1 2 NN)
def pBook (s : Sg) (p ld r : Nat) : Sg := uB s (tSet 8 (tSet 8 (tSet 8 (tSet 8 (tAdd 8 (sB s)) (sB s).1 0 p) (sB s).1 3 ld) (sB s).1 4 r) (sB s).1 5 0)
def pMove (s : Sg) (p fr to mu h : Nat) : Sg := uV s (tSet 5 (tSet 5 (tSet 5 (tSet 5 (tSet 5 (tAdd 5 (sV s)) (sV s).1 0 p) (sV s).1 1 fr) (sV s).1 2 to) (sV s).1 3 mu) (sV s).1 4 h)
def toCome (s : Sg) (x : Int32) : Bool := decide ((sN s : Int) ≤ x.toInt ∧ x.toInt < 200)
def allB (p : Nat → Bool) : Nat → Bool
  | 0 => true
  | n + 1 => allB p n && p n
def allTo (s : Sg) (t : Tb) : Bool := allB (fun r => toCome s (nI (tGet 2 t r 0))) t.1
def telW (f : Nat → Nat) (t : Tb) : Nat → (Nat → Nat)
  | 0 => f
  | n + 1 => va_up (telW f t n) (tGet 2 t n 0) (tGet 2 t n 1)
/-! what holds of every state -/
def WfT (cols most : Nat) (ok : Nat → Nat → Prop) (t : Tb) : Prop := t.1 ≤ most ∧ ∀ r, r < t.1 → ∀ c, c < cols → ok c (tGet cols t r c)
def okM (nP : Nat) : Nat → Nat → Prop
  | 0, v => 10 ≤ v ∧ v ≤ 200
  | 1, v => v ≤ 12
  | _, v => v = NN ∨ v < nP
def okB (nP nM : Nat) : Nat → Nat → Prop
  | 0, v => v < nP
  | 1, v => v < nM
  | 2, v => v < 200
  | 3, v => 1 ≤ v ∧ v ≤ 2000
  | 4, v => 2 ≤ v ∧ v ≤ 60
  | 5, v => v ≤ 3
  | 6, v => v ≤ 99
  | _, _ => True
def okV (nP nM : Nat) : Nat → Nat → Prop
  | 0, v => v < nP
  | 1, v => v < nM
  | 2, v => v < nM
  | 3, v => 1 ≤ v ∧ v ≤ 12
  | _, v => v < 200
def Wf (s : Sg) : Prop := WfT 3 5 (okM (sP s).1) (sM s) ∧ (sP s).1 ≤ 8 ∧ WfT 8 30 (okB (sP s).1 (sM s).1) (sB s) ∧ WfT 5 10 (okV (sP s).1 (sM s).1) (sV s) ∧ (∀ h, h < 200 → sW s h ≤ 99) ∧ sN s ≤ 199
theorem cell_inj {cols r c r' c' : Nat} (hc : c < cols) (hc' : c' < cols) (h : r * cols + c = r' * cols + c') : r = r' ∧ c = c' := by
  have h1 : (r * cols + c) / cols = r := by
    rw [Nat.mul_comm, Nat.mul_add_div (by omega), Nat.div_eq_of_lt hc, Nat.add_zero]
  have h2 : (r' * cols + c') / cols = r' := by
    rw [Nat.mul_comm, Nat.mul_add_div (by omega), Nat.div_eq_of_lt hc', Nat.add_zero]
  have h3 : r = r' := by rw [← h1, ← h2, h]
  subst h3
  exact ⟨rfl, by omega⟩
theorem get_set {cols r c r' c' v : Nat} {t : Tb} (hc : c < cols) (hc' : c' < cols) : tGet cols (tSet cols t r c v) r' c' = if r' = r ∧ c' = c then v else tGet cols t r' c' := by
  show va_up t.2 (r * cols + c) v (r' * cols + c') = _
  by_cases h : r' = r ∧ c' = c
  · rw [if_pos h, h.1, h.2, up_same]
  · rw [if_neg h, up_ne]
    · rfl
    · exact fun q => h (cell_inj hc' hc q)
theorem get_set_c {cols r c r' c' v : Nat} {t : Tb} (hc : c < cols) (hc' : c' < cols) (h : c' ≠ c) : tGet cols (tSet cols t r c v) r' c' = tGet cols t r' c' := by
  rw [get_set hc hc', if_neg (fun q => h q.2)]
theorem get_set_r {cols r c r' c' v : Nat} {t : Tb} (hc : c < cols) (hc' : c' < cols) (h : r' ≠ r) : tGet cols (tSet cols t r c v) r' c' = tGet cols t r' c' := by
  rw [get_set hc hc', if_neg (fun q => h q.1)]
theorem get_set_s {cols r c v : Nat} {t : Tb} (hc : c < cols) : tGet cols (tSet cols t r c v) r c = v := by
  rw [get_set hc hc, if_pos ⟨rfl, rfl⟩]
theorem get_add_o {cols r c : Nat} {t : Tb} (hr : r < t.1) (hc : c < cols) : tGet cols (tAdd cols t) r c = tGet cols t r c := by
  show (if t.1 * cols ≤ r * cols + c ∧ r * cols + c < t.1 * cols + cols then 0 else t.2 (r * cols + c)) = _
  have : r * cols + c < t.1 * cols := cell_lt hr (Nat.le_refl _) hc
  rw [if_neg (by omega)]
  rfl
theorem get_add_n {cols c : Nat} {t : Tb} (hc : c < cols) : tGet cols (tAdd cols t) t.1 c = 0 := by
  show (if t.1 * cols ≤ t.1 * cols + c ∧ t.1 * cols + c < t.1 * cols + cols then 0 else _) = 0
  rw [if_pos (by omega)]
theorem get_del {cols r r' c : Nat} {t : Tb} (hr : r' < t.1 - 1) (hc : c < cols) : tGet cols (tDel cols t r) r' c = if r ≤ r' then tGet cols t (r' + 1) c else tGet cols t r' c := by
  show (if r * cols ≤ r' * cols + c ∧ r' * cols + c < (t.1 - 1) * cols then t.2 (r' * cols + c + cols) else t.2 (r' * cols + c)) = _
  have h1 : r' * cols + c < (t.1 - 1) * cols := cell_lt hr (Nat.le_refl _) hc
  by_cases h : r ≤ r'
  · rw [if_pos h, if_pos ⟨Nat.le_trans (Nat.mul_le_mul_right cols h) (Nat.le_add_right _ _), h1⟩]
    show _ = t.2 ((r' + 1) * cols + c)
    rw [Nat.succ_mul]
    exact congrArg t.2 (by omega)
  · rw [if_neg h, if_neg]
    · rfl
    · intro q
      have : r' * cols + c < r * cols := cell_lt (show r' < r by omega) (Nat.le_refl _) hc
      omega
theorem WfT.set {cols most : Nat} {ok : Nat → Nat → Prop} {t : Tb} {r c v : Nat} (h : WfT cols most ok t) (hc : c < cols) (hv : ok c v) : WfT cols most ok (tSet cols t r c v) := by
  refine ⟨h.1, fun r' hr' c' hc' => ?_⟩
  rw [get_set hc hc']
  by_cases q : r' = r ∧ c' = c
  · rw [if_pos q, q.2]; exact hv
  · rw [if_neg q]; exact h.2 r' hr' c' hc'
theorem WfT.del {cols most : Nat} {ok : Nat → Nat → Prop} {t : Tb} {r : Nat} (h : WfT cols most ok t) : WfT cols most ok (tDel cols t r) := by
  refine ⟨Nat.le_trans (Nat.sub_le _ _) h.1, fun r' hr' c' hc' => ?_⟩
  have hr2 : r' < t.1 - 1 := hr'
  rw [get_del hr2 hc']
  by_cases q : r ≤ r'
  · rw [if_pos q]; exact h.2 (r' + 1) (by omega) c' hc'
  · rw [if_neg q]; exact h.2 r' (by omega) c' hc'
theorem WfT.imp {cols most : Nat} {ok ok' : Nat → Nat → Prop} {t : Tb} (h : WfT cols most ok t) (hi : ∀ c v, c < cols → ok c v → ok' c v) : WfT cols most ok' t := ⟨h.1, fun r hr c hc => hi c _ hc (h.2 r hr c hc)⟩
/-- what is known of a machine, a booking, a move -/
theorem Wf.m {s : Sg} (h : Wf s) {m : Nat} (hm : m < (sM s).1) : (10 ≤ tGet 3 (sM s) m 0 ∧ tGet 3 (sM s) m 0 ≤ 200) ∧ tGet 3 (sM s) m 1 ≤ 12 ∧ (tGet 3 (sM s) m 2 = NN ∨ tGet 3 (sM s) m 2 < (sP s).1) :=
  ⟨h.1.2 m hm 0 (by decide), h.1.2 m hm 1 (by decide), h.1.2 m hm 2 (by decide)⟩
theorem Wf.b {s : Sg} (h : Wf s) {b : Nat} (hb : b < (sB s).1) : tGet 8 (sB s) b 0 < (sP s).1 ∧ tGet 8 (sB s) b 1 < (sM s).1 ∧ tGet 8 (sB s) b 2 < 200 ∧ (1 ≤ tGet 8 (sB s) b 3 ∧ tGet 8 (sB s) b 3 ≤ 2000) ∧ (2 ≤ tGet 8 (sB s) b 4 ∧ tGet 8 (sB s) b 4 ≤ 60) ∧ tGet 8 (sB s) b 5 ≤ 3 ∧ tGet 8 (sB s) b 6 ≤ 99 :=
  ⟨h.2.2.1.2 b hb 0 (by decide), h.2.2.1.2 b hb 1 (by decide), h.2.2.1.2 b hb 2 (by decide), h.2.2.1.2 b hb 3 (by decide), h.2.2.1.2 b hb 4 (by decide), h.2.2.1.2 b hb 5 (by decide), h.2.2.1.2 b hb 6 (by decide)⟩
theorem Wf.v {s : Sg} (h : Wf s) {v : Nat} (hv : v < (sV s).1) : tGet 5 (sV s) v 0 < (sP s).1 ∧ tGet 5 (sV s) v 1 < (sM s).1 ∧ tGet 5 (sV s) v 2 < (sM s).1 ∧ (1 ≤ tGet 5 (sV s) v 3 ∧ tGet 5 (sV s) v 3 ≤ 12) ∧ tGet 5 (sV s) v 4 < 200 :=
  ⟨h.2.2.2.1.2 v hv 0 (by decide), h.2.2.2.1.2 v hv 1 (by decide), h.2.2.2.1.2 v hv 2 (by decide), h.2.2.2.1.2 v hv 3 (by decide), h.2.2.2.1.2 v hv 4 (by decide)⟩
theorem Wf.n {s : Sg} (h : Wf s) : (sM s).1 ≤ 5 ∧ (sP s).1 ≤ 8 ∧ (sB s).1 ≤ 30 ∧ (sV s).1 ≤ 10 ∧ sN s ≤ 199 := ⟨h.1.1, h.2.1, h.2.2.1.1, h.2.2.2.1.1, h.2.2.2.2.2⟩
theorem Wf.w {s : Sg} (h : Wf s) {i : Nat} (hi : i < 200) : sW s i ≤ 99 := h.2.2.2.2.1 i hi
theorem Wf.setB {s : Sg} (h : Wf s) {b c v : Nat} (hc : c < 8) (hv : okB (sP s).1 (sM s).1 c v) : Wf (uB s (tSet 8 (sB s) b c v)) := ⟨h.1, h.2.1, h.2.2.1.set hc hv, h.2.2.2.1, h.2.2.2.2.1, h.2.2.2.2.2⟩
theorem Wf.setP {s : Sg} (h : Wf s) {p c v : Nat} : Wf (uP s (tSet 2 (sP s) p c v)) := ⟨h.1, h.2.1, h.2.2.1, h.2.2.2.1, h.2.2.2.2.1, h.2.2.2.2.2⟩
theorem Wf.pay {s : Sg} (h : Wf s) {p c : Nat} : Wf (payS s p c) := h.setP
theorem Wf.place {s : Sg} (h : Wf s) {b m i : Nat} (hm : m < (sM s).1) (hi : i < 200) : Wf (placeS s b m i) := by
  have h1 := h.setB (b := b) (c := 1) (v := m) (by decide) hm
  have h2 := h1.setB (b := b) (c := 2) (v := i) (by decide) hi
  exact h2.setB (b := b) (c := 6) (v := sW s i) (by decide) (h.w hi)
theorem Wf.lft {s : Sg} (h : Wf s) {b : Nat} : Wf (lftS s b) := Wf.pay (h.setB (c := 5) (v := 1) (by decide) (show 1 ≤ 3 by decide))
theorem bkF_lt {B : Tb} {m h b : Nat} (e : bkF B m h = some b) : b < B.1 := (fnd_lt _ e).1
theorem fre_in {B : Tb} {m : Nat} : ∀ (n h i : Nat), fre B m n h = some i → h ≤ i ∧ i < h + n
  | 0, h, i, e => by simp [fre] at e
  | n + 1, h, i, e => by
    by_cases q : bkF B m h = none
    · simp only [fre, q, if_true] at e; cases e; omega
    · simp only [fre, if_neg q] at e
      have := fre_in n (h + 1) i e
      omega
theorem Wf.cry {s : Sg} (h : Wf s) {b : Nat} (hb : b < (sB s).1) : Wf (cryS s b) := by
  unfold cryS
  have hn := h.n
  cases e : fre (sB s) (tGet 8 (sB s) b 1) (min (sN s + 9) 199 - sN s) (sN s + 1) with
  | none => exact h.setB (c := 5) (v := 2) (by decide) (show 2 ≤ 3 by decide)
  | some i =>
    have := fre_in _ _ _ e
    exact h.place (h.b hb).2.1 (by omega)
theorem Wf.inc {s : Sg} (h : Wf s) {b : Nat} : Wf (incB s b) := h.setB (c := 7) (by decide) trivial
theorem Wf.cau {s : Sg} (h : Wf s) {b : Nat} : Wf (cauS s b) := by
  unfold cauS
  cases caus s b with
  | none => exact ⟨h.1, h.2.1, h.2.2.1, h.2.2.2.1, h.2.2.2.2.1, h.2.2.2.2.2⟩
  | some p => exact Wf.pay h.setP
theorem cau_B (s : Sg) (b : Nat) : sB (cauS s b) = sB s ∧ sN (cauS s b) = sN s ∧ sM (cauS s b) = sM s ∧ sW (cauS s b) = sW s ∧ sV (cauS s b) = sV s := by
  unfold cauS
  cases caus s b <;> exact ⟨rfl, rfl, rfl, rfl, rfl⟩
theorem cry_B (s : Sg) (b : Nat) : (sB (cryS s b)).1 = (sB s).1 ∧ sN (cryS s b) = sN s ∧ sM (cryS s b) = sM s ∧ sW (cryS s b) = sW s ∧ sV (cryS s b) = sV s := by
  unfold cryS
  cases fre (sB s) (tGet 8 (sB s) b 1) (min (sN s + 9) 199 - sN s) (sN s + 1) <;> exact ⟨rfl, rfl, rfl, rfl, rfl⟩
theorem Wf.stb {s : Sg} (h : Wf s) {b : Nat} (hb : b < (sB s).1) : Wf (stbS s b) := Wf.cry (Wf.inc h.cau) (by show b < (sB (cauS s b)).1; rw [(cau_B s b).1]; exact hb)
theorem stb_B (s : Sg) (b : Nat) : (sB (stbS s b)).1 = (sB s).1 ∧ sN (stbS s b) = sN s ∧ sM (stbS s b) = sM s ∧ sW (stbS s b) = sW s ∧ sV (stbS s b) = sV s := by
  have h1 := cry_B (incB (cauS s b) b) b
  have h2 := cau_B s b
  refine ⟨h1.1.trans (by show (sB (cauS s b)).1 = _; rw [h2.1]), h1.2.1.trans h2.2.1, h1.2.2.1.trans h2.2.2.1, h1.2.2.2.1.trans h2.2.2.2.1, h1.2.2.2.2.trans h2.2.2.2.2⟩
theorem stp_B (q : Sg × Nat) (b : Nat) : (sB (stpB q b).1).1 = (sB q.1).1 ∧ sN (stpB q b).1 = sN q.1 ∧ sM (stpB q b).1 = sM q.1 ∧ sW (stpB q b).1 = sW q.1 ∧ sV (stpB q b).1 = sV q.1 := by
  unfold stpB
  split
  · split
    · exact stb_B q.1 b
    · exact ⟨rfl, rfl, rfl, rfl, rfl⟩
  · exact ⟨rfl, rfl, rfl, rfl, rfl⟩
theorem Wf.stp {q : Sg × Nat} (h : Wf q.1) {b : Nat} (hb : b < (sB q.1).1) : Wf (stpB q b).1 := by
  unfold stpB
  split
  · split
    · exact h.stb hb
    · exact h.lft
  · exact h
theorem psB_B (s : Sg) : ∀ n, (sB (psB n s).1).1 = (sB s).1 ∧ sN (psB n s).1 = sN s ∧ sM (psB n s).1 = sM s ∧ sW (psB n s).1 = sW s ∧ sV (psB n s).1 = sV s
  | 0 => ⟨rfl, rfl, rfl, rfl, rfl⟩
  | n + 1 => by
    have h1 := psB_B s n
    have h2 := stp_B (psB n s) n
    exact ⟨h2.1.trans h1.1, h2.2.1.trans h1.2.1, h2.2.2.1.trans h1.2.2.1, h2.2.2.2.1.trans h1.2.2.2.1, h2.2.2.2.2.trans h1.2.2.2.2⟩
theorem Wf.xpsB {s : Sg} (h : Wf s) : ∀ n, n ≤ (sB s).1 → Wf (psB n s).1
  | 0, _ => h
  | n + 1, hn => Wf.stp (Wf.xpsB h n (by omega)) (by rw [(psB_B s n).1]; omega)
theorem nxA_lt (V : Tb) (h : Nat) : ∀ n v, (nxA V h n).1 = some v → v < n
  | 0, v, e => by simp [nxA] at e
  | n + 1, v, e => by
    unfold nxA at e
    split at e
    · cases e; omega
    · have := nxA_lt V h n v e; omega
theorem nxA_le (V : Tb) (h : Nat) : ∀ n, (nxA V h n).2 ≤ h + 1
  | 0 => Nat.le_refl _
  | n + 1 => by
    have := nxA_le V h n
    unfold nxA
    split
    · show tGet 5 V n 4 ≤ h + 1
      omega
    · exact this
theorem nxt_lt {V : Tb} {h v : Nat} (e : nxt V h = some v) : v < V.1 := nxA_lt V h _ v e
theorem Wf.mv {M : Tb} {nP fr to mu who : Nat} (h : WfT 3 5 (okM nP) M) (hf : fr < M.1) (ht : to < M.1) (hw : who < nP) (h1 : tGet 3 M to 1 + mu ≤ 12) (h2 : mu ≤ tGet 3 M fr 1) : WfT 3 5 (okM nP) (mvM M fr to mu who) := by
  unfold mvM
  have hfr : tGet 3 M fr 1 ≤ 12 := h.2 fr hf 1 (by decide)
  refine WfT.set (WfT.set (WfT.set h (by decide) (show _ ≤ 12 by omega)) (by decide) (show _ ≤ 12 from ?_)) (by decide) (show _ ∨ _ from Or.inr hw)
  rw [get_set (by decide) (by decide)]
  split
  · omega
  · exact h1
theorem Wf.xclM {s : Sg} (h : Wf s) {v : Nat} (hv : v < (sV s).1) : Wf (clM s v) := by
  have hw := h.v hv
  unfold clM
  split
  · exact ⟨h.1, h.2.1, h.2.2.1, h.2.2.2.1.del, h.2.2.2.2.1, h.2.2.2.2.2⟩
  · next q =>
    exact ⟨Wf.mv h.1 hw.2.1 hw.2.2.1 hw.1 (by omega) (by omega), h.2.1, h.2.2.1, h.2.2.2.1.del, h.2.2.2.2.1, h.2.2.2.2.2⟩
theorem clM_B (s : Sg) (v : Nat) : sB (clM s v) = sB s ∧ sN (clM s v) = sN s ∧ sW (clM s v) = sW s ∧ sV (clM s v) = tDel 5 (sV s) v ∧ sX (clM s v) = sX s := by
  unfold clM
  split <;> exact ⟨rfl, rfl, rfl, rfl, rfl⟩
theorem Wf.xclo : ∀ (n : Nat) {s : Sg} (_ : Wf s) (h : Nat), Wf (clo n s h)
  | 0, s, hs, h => hs
  | n + 1, s, hs, h => by
    unfold clo
    cases e : nxt (sV s) h with
    | none => exact hs
    | some v => exact Wf.xclo n (hs.xclM (nxt_lt e)) h
theorem clo_B : ∀ (n : Nat) (s : Sg) (h : Nat), sB (clo n s h) = sB s ∧ sN (clo n s h) = sN s ∧ sW (clo n s h) = sW s ∧ sX (clo n s h) = sX s
  | 0, s, h => ⟨rfl, rfl, rfl, rfl⟩
  | n + 1, s, h => by
    unfold clo
    cases e : nxt (sV s) h with
    | none => exact ⟨rfl, rfl, rfl, rfl⟩
    | some v =>
      have h1 := clo_B n (clM s v) h
      have h2 := clM_B s v
      exact ⟨h1.1.trans h2.1, h1.2.1.trans h2.2.1, h1.2.2.1.trans h2.2.2.1, h1.2.2.2.trans h2.2.2.2.2⟩
theorem psC_N (s : Sg) : sN (psC s).1 = sN s := (psB_B _ _).2.1.trans (clo_B 10 s (sN s)).2.1
theorem Wf.xpsC {s : Sg} (h : Wf s) : Wf (psC s).1 := Wf.xpsB (Wf.xclo 10 h (sN s)) _ (Nat.le_refl _)
theorem Wf.xpsH {s : Sg} (h : Wf s) (hn : sN s < 199) : Wf (psH s).1 := by
  have h1 := Wf.xpsC h
  refine ⟨h1.1, h1.2.1, h1.2.2.1, h1.2.2.2.1, h1.2.2.2.2.1, ?_⟩
  show sN (psC s).1 + 1 ≤ 199
  rw [psC_N]; omega
theorem caus_lt {s : Sg} (h : Wf s) {b p : Nat} (hb : b < (sB s).1) (e : caus s b = some p) : p < (sP s).1 := by
  have hw := h.b hb
  have hm := h.m hw.2.1
  unfold caus at e
  split at e
  · split at e
    · cases e; exact hw.1
    · cases e
  · unfold noO at e
    split at e
    · cases e
    · next q => cases e; exact hm.2.2.resolve_left q
theorem brn_lt {s : Sg} (h : Wf s) {m r : Nat} (hm : m < (sM s).1) : brn (sM s) m r ≤ 2000 := by
  have := (h.m hm).1
  unfold brn
  have := Nat.min_le_right ((tGet 3 (sM s) m 0 * 100 + tGet 3 (sM s) m 1 * 150) / max r 2) (tGet 3 (sM s) m 0 * 10)
  omega
theorem lim_i {ld r : Nat} (hl : ld ≤ 2000) (hr : r ≤ 60) : (if nI 60 - nI (ld / 20) - nI (r / 2) < nI 10 then nI 10 else nI 60 - nI (ld / 20) - nI (r / 2)) = nI (limN ld r) := by
  have e1 : (nI 60 - nI (ld / 20)).toInt = (60 : Int) - ((ld / 20 : Nat) : Int) := by
    have := pk_sub_toInt (a := 60) (b := ld / 20) (by omega) (by omega)
    simpa using this
  have e2 : (nI 60 - nI (ld / 20) - nI (r / 2)).toInt = (60 : Int) - ((ld / 20 : Nat) : Int) - ((r / 2 : Nat) : Int) := by
    have hb : (nI (r / 2)).toInt = ((r / 2 : Nat) : Int) := nI_toInt (by omega)
    rw [Int32.toInt_sub, e1, hb, Int.bmod_eq_of_le (by omega) (by omega)]
  by_cases q : 60 - ld / 20 - r / 2 < 10
  · rw [if_pos]
    · rw [limN, Nat.max_eq_left (by omega)]
    · rw [iC_ltn (by omega), e2]; omega
  · rw [if_neg]
    · rw [limN, Nat.max_eq_right (by omega), ← Int32.toInt_inj, e2, nI_toInt (by omega)]; omega
    · rw [iC_ltn (by omega), e2]; omega
theorem limN_le (ld r : Nat) : limN ld r ≤ 60 := by
  unfold limN
  have : max 10 (60 - ld / 20 - r / 2) ≤ 60 := Nat.max_le.mpr ⟨by omega, by omega⟩
  exact this
end
section
theorem allB_f {p : Nat → Bool} {i : Nat} (h : p i = false) : ∀ n, i < n → allB p n = false
  | 0, q => absurd q (Nat.not_lt_zero _)
  | n + 1, q => by
    rcases Nat.lt_or_ge i n with q1 | q1
    · simp [allB, allB_f h n q1]
    · rw [show n = i by omega]; simp [allB, h]
theorem allB_s {p : Nat → Bool} {i : Nat} (h : allB p i = true) (hp : p i = true) : allB p (i + 1) = true := by simp [allB, h, hp]
theorem nI_neg {a b : Nat} (h : b ≤ a) : nI a + -nI b = nI (a - b) := by rw [← Int32.sub_eq_add_neg]; exact pk_sub h
theorem clo_none {s : Sg} {h : Nat} (e : nxt (sV s) h = none) : ∀ n, clo n s h = s
  | 0 => rfl
  | n + 1 => by simp [clo, e]
theorem clo_some {s : Sg} {h v : Nat} (e : nxt (sV s) h = some v) (n : Nat) : clo (n + 1) s h = clo n (clM s v) h := by simp [clo, e]
def isW (x a b : Int32) : Bool := decide (a.toInt ≤ x.toInt ∧ x.toInt ≤ b.toInt)
def isRad (x : Int32) : Bool := decide (2 ≤ x.toInt ∧ x.toInt ≤ 60)
def isLft (x r : Int32) : Bool := decide ((1 ≤ x.toInt ∧ x.toInt ≤ 2000) ∧ 2 ≤ r.toInt ∧ r.toInt ≤ 60)
theorem t5 {x : Bool} (h : ¬ x = false) : x = true := by cases x <;> simp_all
theorem f5 {x : Bool} (h : ¬ x = true) : x = false := by cases x <;> simp_all
theorem cd_X4_isWithin : kCardS yX4_isWithin cX4_isWithin 3 (some .boolean) 3 := ⟨⟨wc_X4_isWithin, wi_X4, by decide +kernel, by decide +kernel, rfl⟩, wt_X4_isWithin⟩
set_option maxHeartbeats 4000000 in
set_option maxRecDepth 100000 in
theorem c_X4_isWithin (l : Launch) (D : va_G) (tA : Nat → ClassId) (x a b : Int32)  : Kx l D tA yX4_isWithin cX4_isWithin 3 (some .boolean) 0 0 [.int x, .int a, .int b] ([] : va_W) (some (.int (bI (isW x a b)))) ([] : va_W) := by
  refine kx_bool rfl (Nat.le_of_ble_eq_true rfl) (fun G X E => ?_)
  show J l D G 0 0 ([] : va_W) [(0, .int x), (1, .int a), (2, .int b)] 0 []
  refine j_iload_n (pc := 0) X dX4_isWithin_0 rfl (q := 0) rfl ?_
  refine j_iload_n (pc := 1) X dX4_isWithin_1 rfl (q := 1) rfl ?_
  refine j_icmp_lt (pc := 2) X (tgt := 14) (P := x.toInt < a.toInt) dX4_isWithin_2 (by decide) Int32.lt_iff_toInt_lt (fun h2 => ?_) (fun h2 => ?_)
  · skip
    refine j_iconst (pc := 14) X (v := (nI 0)) dX4_isWithin_14 (by decide) ?_
    exact j_endI (pc := 15) E dX4_isWithin_15 (bI_f (by simp only [isW, decide_eq_false_iff_not]; omega)) rfl
  · skip
    refine j_iload_n (pc := 5) X dX4_isWithin_5 rfl (q := 0) rfl ?_
    refine j_iload_n (pc := 6) X dX4_isWithin_6 rfl (q := 2) rfl ?_
    refine j_icmp_gt (pc := 7) X (tgt := 14) (P := b.toInt < x.toInt) dX4_isWithin_7 (by decide) Int32.lt_iff_toInt_lt (fun h7 => ?_) (fun h7 => ?_)
    · skip
      refine j_iconst (pc := 14) X (v := (nI 0)) dX4_isWithin_14 (by decide) ?_
      exact j_endI (pc := 15) E dX4_isWithin_15 (bI_f (by simp only [isW, decide_eq_false_iff_not]; omega)) rfl
    · skip
      refine j_iconst (pc := 10) X (v := (nI 1)) dX4_isWithin_10 (by decide) ?_
      refine j_goto (pc := 11) X (tgt := 15) dX4_isWithin_11 (by decide) ?_
      exact j_endI (pc := 15) E dX4_isWithin_15 (bI_t (by simp only [isW, decide_eq_true_eq]; omega)) rfl
theorem cd_X4_isHalfDay : kCardS yX4_isHalfDay cX4_isHalfDay 1 (some .boolean) 1 := ⟨⟨wc_X4_isHalfDay, wi_X4, by decide +kernel, by decide +kernel, rfl⟩, wt_X4_isHalfDay⟩
set_option maxHeartbeats 4000000 in
set_option maxRecDepth 100000 in
theorem c_X4_isHalfDay (l : Launch) (D : va_G) (tA : Nat → ClassId) (x : Int32)  : Kx l D tA yX4_isHalfDay cX4_isHalfDay 1 (some .boolean) 1 22 [.int x] ([] : va_W) (some (.int (bI (inR x 200)))) ([] : va_W) := by
  refine kx_bool rfl (Nat.le_of_ble_eq_true rfl) (fun G X E => ?_)
  show J l D G 0 0 ([] : va_W) [(0, .int x)] 0 []
  refine j_iload_n (pc := 0) X dX4_isHalfDay_0 rfl (q := 0) rfl ?_
  refine j_iconst (pc := 1) X (v := (nI 0)) dX4_isHalfDay_1 (by decide) ?_
  refine j_sipush (pc := 2) X (v := (nI 199)) dX4_isHalfDay_2 (by decide) ?_
  refine j_callSR (pc := 5) X (st := [])  (c_X4_isWithin l D tA x (nI 0) (nI 199) ) cd_X4_isWithin wm_X4_40 rfl [] rfl rfl ⟨Nat.le_of_ble_eq_true rfl, Nat.le_of_ble_eq_true rfl⟩ ⟨Nat.zero_le _, Nat.zero_le _⟩ rfl (Nat.le_of_ble_eq_true rfl) dX4_isHalfDay_5 ?_
  exact j_endI (pc := 8) E dX4_isHalfDay_8 (congrArg bI (by have e1 := nI_toInt (show 199 < 2 ^ 31 by decide); have e0 := nI_toInt (show 0 < 2 ^ 31 by decide); simp only [inR, isW, e1, e0, decide_eq_decide]; omega)) rfl
theorem cd_X4_isRadius : kCardS yX4_isRadius cX4_isRadius 1 (some .boolean) 1 := ⟨⟨wc_X4_isRadius, wi_X4, by decide +kernel, by decide +kernel, rfl⟩, wt_X4_isRadius⟩
set_option maxHeartbeats 4000000 in
set_option maxRecDepth 100000 in
theorem c_X4_isRadius (l : Launch) (D : va_G) (tA : Nat → ClassId) (x : Int32)  : Kx l D tA yX4_isRadius cX4_isRadius 1 (some .boolean) 1 22 [.int x] ([] : va_W) (some (.int (bI (isRad x)))) ([] : va_W) := by
  refine kx_bool rfl (Nat.le_of_ble_eq_true rfl) (fun G X E => ?_)
  show J l D G 0 0 ([] : va_W) [(0, .int x)] 0 []
  refine j_iload_n (pc := 0) X dX4_isRadius_0 rfl (q := 0) rfl ?_
  refine j_iconst (pc := 1) X (v := (nI 2)) dX4_isRadius_1 (by decide) ?_
  refine j_bipush (pc := 2) X (v := (nI 60)) dX4_isRadius_2 (by decide) ?_
  refine j_callSR (pc := 4) X (st := [])  (c_X4_isWithin l D tA x (nI 2) (nI 60) ) cd_X4_isWithin wm_X4_40 rfl [] rfl rfl ⟨Nat.le_of_ble_eq_true rfl, Nat.le_of_ble_eq_true rfl⟩ ⟨Nat.zero_le _, Nat.zero_le _⟩ rfl (Nat.le_of_ble_eq_true rfl) dX4_isRadius_4 ?_
  exact j_endI (pc := 7) E dX4_isRadius_7 (congrArg bI (by have e1 := nI_toInt (show 60 < 2 ^ 31 by decide); have e0 := nI_toInt (show 2 < 2 ^ 31 by decide); simp only [isRad, isW, e1, e0, decide_eq_decide]; omega)) rfl
theorem cd_X4_isLift : kCardS yX4_isLift cX4_isLift 2 (some .boolean) 2 := ⟨⟨wc_X4_isLift, wi_X4, by decide +kernel, by decide +kernel, rfl⟩, wt_X4_isLift⟩
set_option maxHeartbeats 4000000 in
set_option maxRecDepth 100000 in
theorem c_X4_isLift (l : Launch) (D : va_G) (tA : Nat → ClassId) (x r : Int32)  : Kx l D tA yX4_isLift cX4_isLift 2 (some .boolean) 2 42 [.int x, .int r] ([] : va_W) (some (.int (bI (isLft x r)))) ([] : va_W) := by
  refine kx_bool rfl (Nat.le_of_ble_eq_true rfl) (fun G X E => ?_)
  show J l D G 0 0 ([] : va_W) [(0, .int x), (1, .int r)] 0 []
  have e1 := nI_toInt (show 1 < 2 ^ 31 by decide)
  have e2 := nI_toInt (show 2000 < 2 ^ 31 by decide)
  refine j_iload_n (pc := 0) X dX4_isLift_0 rfl (q := 0) rfl ?_
  refine j_iconst (pc := 1) X (v := (nI 1)) dX4_isLift_1 (by decide) ?_
  refine j_sipush (pc := 2) X (v := (nI 2000)) dX4_isLift_2 (by decide) ?_
  refine j_callSR (pc := 5) X (st := [])  (c_X4_isWithin l D tA x (nI 1) (nI 2000) ) cd_X4_isWithin wm_X4_40 rfl [] rfl rfl ⟨Nat.le_of_ble_eq_true rfl, Nat.le_of_ble_eq_true rfl⟩ ⟨Nat.zero_le _, Nat.zero_le _⟩ rfl (Nat.le_of_ble_eq_true rfl) dX4_isLift_5 ?_
  refine j_if_eq (pc := 8) X (tgt := 22) (P := (isW x (nI 1) (nI 2000)) = false) dX4_isLift_8 (by decide) (bI_0 _) (fun h8 => ?_) (fun h8 => ?_)
  · skip
    refine j_iconst (pc := 22) X (v := (nI 0)) dX4_isLift_22 (by decide) ?_
    exact j_endI (pc := 23) E dX4_isLift_23 (bI_f (by have a1 := h8; simp only [isW, isRad, isLft, e1, e2, decide_eq_false_iff_not] at a1 ⊢; omega)) rfl
  · skip
    refine j_iload_n (pc := 11) X dX4_isLift_11 rfl (q := 1) rfl ?_
    refine j_callSR (pc := 12) X (st := [])  (c_X4_isRadius l D tA r ) cd_X4_isRadius wm_X4_170 rfl [] rfl rfl ⟨Nat.le_of_ble_eq_true rfl, Nat.le_of_ble_eq_true rfl⟩ ⟨Nat.zero_le _, Nat.zero_le _⟩ rfl (Nat.le_of_ble_eq_true rfl) dX4_isLift_12 ?_
    refine j_if_eq (pc := 15) X (tgt := 22) (P := (isRad r) = false) dX4_isLift_15 (by decide) (bI_0 _) (fun h15 => ?_) (fun h15 => ?_)
    · skip
      refine j_iconst (pc := 22) X (v := (nI 0)) dX4_isLift_22 (by decide) ?_
      exact j_endI (pc := 23) E dX4_isLift_23 (bI_f (by have a1 := h15; simp only [isW, isRad, isLft, e1, e2, decide_eq_false_iff_not] at a1 ⊢; omega)) rfl
    · skip
      refine j_iconst (pc := 18) X (v := (nI 1)) dX4_isLift_18 (by decide) ?_
      refine j_goto (pc := 19) X (tgt := 23) dX4_isLift_19 (by decide) ?_
      exact j_endI (pc := 23) E dX4_isLift_23 (bI_t (by have a1 := t5 h8; have a2 := t5 h15; simp only [isW, isRad, isLft, e1, e2, decide_eq_true_eq] at a1 a2 ⊢; omega)) rfl
theorem cd_X4_limitFor : kCardS yX4_limitFor cX4_limitFor 2 (some .int) 2 := ⟨⟨wc_X4_limitFor, wi_X4, by decide +kernel, by decide +kernel, rfl⟩, wt_X4_limitFor⟩
set_option maxHeartbeats 4000000 in
set_option maxRecDepth 100000 in
theorem c_X4_limitFor (l : Launch) (D : va_G) (tA : Nat → ClassId) (ld r : Nat) (hl : ld ≤ 2000) (hr : r ≤ 60) : Kx l D tA yX4_limitFor cX4_limitFor 2 (some .int) 1 13 [.int (nI ld), .int (nI r)] ([] : va_W) (some (.int (nI (limN ld r)))) ([] : va_W) := by
  refine kx_int rfl (Nat.le_of_ble_eq_true rfl) (fun G X E => ?_)
  show J l D G 0 0 ([] : va_W) [(0, .int (nI ld)), (1, .int (nI r))] 0 []
  refine j_bipush (pc := 0) X (v := (nI 60)) dX4_limitFor_0 (by decide) ?_
  refine j_iload_n (pc := 2) X dX4_limitFor_2 rfl (q := 0) rfl ?_
  refine j_bipush (pc := 3) X (v := (nI 20)) dX4_limitFor_3 (by decide) ?_
  refine j_idiv (pc := 5) X (v := (nI (ld / 20))) dX4_limitFor_5 (nI_ne0 (by omega) (by omega)) (pk_div (by omega) (by omega) (by omega)) ?_
  refine j_isub (pc := 6) X (v := (nI 60 - nI (ld / 20))) dX4_limitFor_6 rfl ?_
  refine j_iload_n (pc := 7) X dX4_limitFor_7 rfl (q := 1) rfl ?_
  refine j_iconst (pc := 8) X (v := (nI 2)) dX4_limitFor_8 (by decide) ?_
  refine j_idiv (pc := 9) X (v := (nI (r / 2))) dX4_limitFor_9 (nI_ne0 (by omega) (by omega)) (pk_div (by omega) (by omega) (by omega)) ?_
  refine j_isub (pc := 10) X (v := (nI 60 - nI (ld / 20) - nI (r / 2))) dX4_limitFor_10 rfl ?_
  refine j_bipush (pc := 11) X (v := (nI 10)) dX4_limitFor_11 (by decide) ?_
  refine j_mmax (pc := 13) X wm_X4_216 (Nat.le_of_ble_eq_true rfl) (Nat.le_of_ble_eq_true rfl) ⟨Nat.zero_le _, Nat.zero_le _⟩ (v := (nI (limN ld r))) (lim_i hl hr) dX4_limitFor_13 ?_
  exact j_endI (pc := 16) E dX4_limitFor_16 rfl rfl
theorem cd_X1_isToCome : kCardV yX1_isToCome cX1_isToCome 2 (some .boolean) 1 := ⟨⟨wc_X1_isToCome, wi_X1, by decide +kernel, by decide +kernel, rfl⟩, wk_X1_isToCome, ws_X1_isToCome⟩
set_option maxHeartbeats 4000000 in
set_option maxRecDepth 100000 in
theorem c_X1_isToCome (l : Launch) (D : va_G) (tA : Nat → ClassId) (a : Nat → Nat) (s : Sg) (x : Int32) (hn : sN s ≤ 199) : Kx l D tA yX1_isToCome cX1_isToCome 2 (some .boolean) 2 42 [.ref (a 0), .int x] (stW tA a s) (some (.int (bI (toCome s x)))) (stW tA a s) := by
  refine kx_bool rfl (Nat.le_of_ble_eq_true rfl) (fun G X E => ?_)
  show J l D G 0 0 (stW tA a s) [(0, .ref (a 0)), (1, .int x)] 0 []
  refine j_iload_n (pc := 0) X dX1_isToCome_0 rfl (q := 1) rfl ?_
  refine j_aload_n (pc := 1) X dX1_isToCome_1 rfl (q := 0) rfl ?_
  refine j_get (pc := 2) X (C := RX1) (T := TX1) (N := 9) wz_X1 0 rfl rfl 5 (by decide) wf_X1_49 rfl dX1_isToCome_2 ?_
  refine j_icmp_lt (pc := 5) X (tgt := 19) (P := x.toInt < (((sN s) : Nat) : Int)) dX1_isToCome_5 (by decide) (iC_ltn (by omega)) (fun h5 => ?_) (fun h5 => ?_)
  · skip
    refine j_iconst (pc := 19) X (v := (nI 0)) dX1_isToCome_19 (by decide) ?_
    exact j_endI (pc := 20) E dX1_isToCome_20 (bI_f (by simp only [toCome, decide_eq_false_iff_not]; omega)) rfl
  · skip
    refine j_iload_n (pc := 8) X dX1_isToCome_8 rfl (q := 1) rfl ?_
    refine j_callNR (pc := 9) X (st := [])  (c_X4_isHalfDay l D tA x ) cd_X4_isHalfDay X.2.2.2.2.2.1.2.1 [] rfl rfl ⟨Nat.le_of_ble_eq_true rfl, Nat.le_of_ble_eq_true rfl⟩ ⟨Nat.zero_le _, Nat.zero_le _⟩ rfl (Nat.le_of_ble_eq_true rfl) dX1_isToCome_9 ?_
    refine j_if_eq (pc := 12) X (tgt := 19) (P := (inR x 200) = false) dX1_isToCome_12 (by decide) (bI_0 _) (fun h12 => ?_) (fun h12 => ?_)
    · skip
      refine j_iconst (pc := 19) X (v := (nI 0)) dX1_isToCome_19 (by decide) ?_
      exact j_endI (pc := 20) E dX1_isToCome_20 (bI_f (by have a1 := h12; simp only [inR, toCome, decide_eq_false_iff_not] at a1 ⊢; omega)) rfl
    · skip
      refine j_iconst (pc := 15) X (v := (nI 1)) dX1_isToCome_15 (by decide) ?_
      refine j_goto (pc := 16) X (tgt := 20) dX1_isToCome_16 (by decide) ?_
      exact j_endI (pc := 20) E dX1_isToCome_20 (bI_t (by have a1 := t5 h12; simp only [inR, toCome, decide_eq_true_eq] at a1 ⊢; omega)) rfl
theorem cd_X1_areAllToCome : kCardV yX1_areAllToCome cX1_areAllToCome 3 (some .boolean) 1 := ⟨⟨wc_X1_areAllToCome, wi_X1, by decide +kernel, by decide +kernel, rfl⟩, wk_X1_areAllToCome, ws_X1_areAllToCome⟩
set_option maxHeartbeats 4000000 in
set_option maxRecDepth 100000 in
theorem c_X1_areAllToCome (l : Launch) (D : va_G) (tA : Nat → ClassId) (a : Nat → Nat) (s : Sg) (th tq : Nat) (t : Tb) (hn : sN s ≤ 199) (ht : t.1 ≤ 15) : Kx l D tA yX1_areAllToCome cX1_areAllToCome 3 (some .boolean) 3 63 [.ref (a 0), .ref th] (stW tA a s ++ tbW tA th tq 15 2 t) (some (.int (bI (allTo s t)))) (stW tA a s ++ tbW tA th tq 15 2 t) := by
  refine kx_bool rfl (Nat.le_of_ble_eq_true rfl) (fun G X E => ?_)
  show J l D G 0 0 (stW tA a s ++ tbW tA th tq 15 2 t) [(0, .ref (a 0)), (1, .ref th)] 0 []
  refine j_iconst (pc := 0) X (v := (nI 0)) dX1_areAllToCome_0 (by decide) ?_
  refine j_istore_n (pc := 1) X (lv' := [(2, .int (nI 0)), (0, .ref (a 0)), (1, .ref th)]) dX1_areAllToCome_1 rfl (by decide) rfl ?_
  have L_2 : ∀ (fu : Nat) (i : Nat), i ≤ t.1 → allB (fun r => toCome s (nI (tGet 2 t r 0))) i = true → t.1 - i < fu → J l D G 0 0 (stW tA a s ++ tbW tA th tq 15 2 t) [(0, .ref (a 0)), (1, .ref th), (2, .int (nI i))] 2 [] := by
    intro fu
    induction fu with
    | zero => intro i hi hk hfu; exact absurd hfu (Nat.not_lt_zero _)
    | succ fu ih_2 =>
      intro i hi hk hfu
      refine j_iload_n (pc := 2) X dX1_areAllToCome_2 rfl (q := 2) rfl ?_
      refine j_aload_n (pc := 3) X dX1_areAllToCome_3 rfl (q := 1) rfl ?_
      refine j_callVR (pc := 4) X (st := [.int (nI i)])  (c_X2_size l D tA th tq 15 2 t  ) cd_X2_size wm_X1_66 10 rfl rfl rfl [10, 11] rfl rfl ⟨Nat.le_of_ble_eq_true rfl, Nat.le_of_ble_eq_true rfl⟩ ⟨Nat.zero_le _, Nat.zero_le _⟩ rfl (Nat.le_of_ble_eq_true rfl) dX1_areAllToCome_4 ?_
      refine j_icmp_ge (pc := 7) X (tgt := 31) (P := t.1 ≤ i) dX1_areAllToCome_7 (by decide) (nI_leI (by omega) (by omega)) (fun h7 => ?_) (fun h7 => ?_)
      · skip
        refine j_iconst (pc := 31) X (v := (nI 1)) dX1_areAllToCome_31 (by decide) ?_
        exact j_endI (pc := 32) E dX1_areAllToCome_32 (bI_t (by rw [allTo, ← show i = t.1 by omega]; exact hk)) rfl
      · skip
        refine j_aload_n (pc := 10) X dX1_areAllToCome_10 rfl (q := 0) rfl ?_
        refine j_aload_n (pc := 11) X dX1_areAllToCome_11 rfl (q := 1) rfl ?_
        refine j_iload_n (pc := 12) X dX1_areAllToCome_12 rfl (q := 2) rfl ?_
        refine j_iconst (pc := 13) X (v := (nI 0)) dX1_areAllToCome_13 (by decide) ?_
        refine j_callVR (pc := 14) X (st := [.ref (a 0)])  (c_X2_get l D tA th tq 15 2 t i 0 (by first | assumption | omega | decide) (by first | assumption | omega | decide) (by first | assumption | omega | decide) (by first | assumption | omega | decide) (by first | assumption | omega | decide) (by first | assumption | omega | decide)) cd_X2_get wm_X1_70 10 rfl rfl rfl [10, 11] rfl rfl ⟨Nat.le_of_ble_eq_true rfl, Nat.le_of_ble_eq_true rfl⟩ ⟨Nat.zero_le _, Nat.zero_le _⟩ rfl (Nat.le_of_ble_eq_true rfl) dX1_areAllToCome_14 ?_
        refine j_callVR (pc := 17) X (st := [])  (c_X1_isToCome l D tA a s (nI (tGet 2 t i 0)) (by first | assumption | omega | decide)) cd_X1_isToCome wm_X1_73 0 rfl rfl rfl [0, 1, 2, 3, 4, 5, 6, 7, 8, 9] rfl rfl ⟨Nat.le_of_ble_eq_true rfl, Nat.le_of_ble_eq_true rfl⟩ ⟨Nat.zero_le _, Nat.zero_le _⟩ rfl (Nat.le_of_ble_eq_true rfl) dX1_areAllToCome_17 ?_
        refine j_if_ne (pc := 20) X (tgt := 25) (P := (toCome s (nI (tGet 2 t i 0))) = true) dX1_areAllToCome_20 (by decide) (bI_n0 _) (fun h20 => ?_) (fun h20 => ?_)
        · skip
          refine j_iinc (pc := 25) X (v := (nI (i + 1))) (lv' := [(2, .int (nI (i + 1))), (0, .ref (a 0)), (1, .ref th)]) dX1_areAllToCome_25 (q := 2) rfl (nI_add _ _) (by decide) rfl ?_
          refine j_goto (pc := 28) X (tgt := 2) dX1_areAllToCome_28 (by decide) ?_
          refine j_lv X (lv' := [(0, .ref (a 0)), (1, .ref th), (2, .int (nI (i + 1)))]) [1, 2, 0] rfl ?_
          exact ih_2 (i + 1) (by omega) (allB_s hk h20) (by omega)
        · skip
          refine j_iconst (pc := 23) X (v := (nI 0)) dX1_areAllToCome_23 (by decide) ?_
          exact j_endI (pc := 24) E dX1_areAllToCome_24 (bI_f (allB_f (f5 h20) _ (by omega))) rfl
  refine j_lv X (lv' := [(0, .ref (a 0)), (1, .ref th), (2, .int (nI 0))]) [1, 2, 0] rfl ?_
  exact L_2 _ 0 (Nat.zero_le _) rfl (Nat.lt_succ_self _)
theorem cd_X1_windAt : kCardV yX1_windAt cX1_windAt 2 (some .int) 1 := ⟨⟨wc_X1_windAt, wi_X1, by decide +kernel, by decide +kernel, rfl⟩, wk_X1_windAt, ws_X1_windAt⟩
set_option maxHeartbeats 4000000 in
set_option maxRecDepth 100000 in
theorem c_X1_windAt (l : Launch) (D : va_G) (tA : Nat → ClassId) (a : Nat → Nat) (s : Sg) (h : Nat) (hh : h < 200) : Kx l D tA yX1_windAt cX1_windAt 2 (some .int) 0 0 [.ref (a 0), .int (nI h)] (stW tA a s) (some (.int (nI (sW s h)))) (stW tA a s) := by
  refine kx_int rfl (Nat.le_of_ble_eq_true rfl) (fun G X E => ?_)
  show J l D G 0 0 (stW tA a s) [(0, .ref (a 0)), (1, .int (nI h))] 0 []
  refine j_iload_n (pc := 0) X dX1_windAt_0 rfl (q := 1) rfl ?_
  refine j_if_lt_f (pc := 1) X (tgt := 22) dX1_windAt_1 (by decide) (nI_pos (by omega)) ?_
  refine j_iload_n (pc := 4) X dX1_windAt_4 rfl (q := 1) rfl ?_
  refine j_aload_n (pc := 5) X dX1_windAt_5 rfl (q := 0) rfl ?_
  refine j_get (pc := 6) X (C := RX1) (T := TX1) (N := 9) wz_X1 0 rfl rfl 4 (by decide) wf_X1_29 rfl dX1_windAt_6 ?_
  refine j_alen (pc := 9) X 1 0 rfl rfl dX1_windAt_9 ?_
  refine j_icmp_ge_f (pc := 10) X (tgt := 22) dX1_windAt_10 (by decide) (nI_ge hh (by omega)) ?_
  refine j_aload_n (pc := 13) X dX1_windAt_13 rfl (q := 0) rfl ?_
  refine j_get (pc := 14) X (C := RX1) (T := TX1) (N := 9) wz_X1 0 rfl rfl 4 (by decide) wf_X1_29 rfl dX1_windAt_14 ?_
  refine j_iload_n (pc := 17) X dX1_windAt_17 rfl (q := 1) rfl ?_
  refine j_iald (pc := 18) X 1 (i := h) rfl (by omega) (by omega) dX1_windAt_18 ?_
  refine j_goto (pc := 19) X (tgt := 23) dX1_windAt_19 (by decide) ?_
  exact j_endI (pc := 23) E dX1_windAt_23 rfl rfl
theorem cd_X1_tellWind : kCardV yX1_tellWind cX1_tellWind 3 none 2 := ⟨⟨wc_X1_tellWind, wi_X1, by decide +kernel, by decide +kernel, rfl⟩, wk_X1_tellWind, ws_X1_tellWind⟩
set_option maxHeartbeats 4000000 in
set_option maxRecDepth 100000 in
theorem c_X1_tellWind (l : Launch) (D : va_G) (tA : Nat → ClassId) (a : Nat → Nat) (s : Sg) (h v : Nat) (hh : h < 200) : Kx l D tA yX1_tellWind cX1_tellWind 3 none 0 0 [.ref (a 0), .int (nI h), .int (nI v)] (stW tA a s) none (stW tA a (uW s (va_up (sW s) h v))) := by
  refine kx_void rfl (Nat.le_of_ble_eq_true rfl) (fun G X E => ?_)
  show J l D G 0 0 (stW tA a s) [(0, .ref (a 0)), (1, .int (nI h)), (2, .int (nI v))] 0 []
  refine j_iload_n (pc := 0) X dX1_tellWind_0 rfl (q := 1) rfl ?_
  refine j_if_lt_f (pc := 1) X (tgt := 20) dX1_tellWind_1 (by decide) (nI_pos (by omega)) ?_
  refine j_iload_n (pc := 4) X dX1_tellWind_4 rfl (q := 1) rfl ?_
  refine j_aload_n (pc := 5) X dX1_tellWind_5 rfl (q := 0) rfl ?_
  refine j_get (pc := 6) X (C := RX1) (T := TX1) (N := 9) wz_X1 0 rfl rfl 4 (by decide) wf_X1_29 rfl dX1_tellWind_6 ?_
  refine j_alen (pc := 9) X 1 0 rfl rfl dX1_tellWind_9 ?_
  refine j_icmp_ge_f (pc := 10) X (tgt := 20) dX1_tellWind_10 (by decide) (nI_ge hh (by omega)) ?_
  refine j_aload_n (pc := 13) X dX1_tellWind_13 rfl (q := 0) rfl ?_
  refine j_get (pc := 14) X (C := RX1) (T := TX1) (N := 9) wz_X1 0 rfl rfl 4 (by decide) wf_X1_29 rfl dX1_tellWind_14 ?_
  refine j_iload_n (pc := 17) X dX1_tellWind_17 rfl (q := 1) rfl ?_
  refine j_iload_n (pc := 18) X dX1_tellWind_18 rfl (q := 2) rfl ?_
  refine j_iast (pc := 19) X 1 (i := h) (v := v) rfl (by omega) (by omega) (w' := (stW tA a (uW s (va_up (sW s) h v)))) rfl dX1_tellWind_19 ?_
  exact j_endV (pc := 20) E dX1_tellWind_20 rfl
theorem cd_X1_tellWinds : kCardV yX1_tellWinds cX1_tellWinds 3 none 1 := ⟨⟨wc_X1_tellWinds, wi_X1, by decide +kernel, by decide +kernel, rfl⟩, wk_X1_tellWinds, ws_X1_tellWinds⟩
set_option maxHeartbeats 4000000 in
set_option maxRecDepth 100000 in
theorem c_X1_tellWinds (l : Launch) (D : va_G) (tA : Nat → ClassId) (a : Nat → Nat) (s : Sg) (th tq : Nat) (t : Tb) (ht : t.1 ≤ 15) (hh : ∀ r, r < t.1 → tGet 2 t r 0 < 200) : Kx l D tA yX1_tellWinds cX1_tellWinds 3 none 1 23 [.ref (a 0), .ref th] (stW tA a s ++ tbW tA th tq 15 2 t) none (stW tA a (uW s (telW (sW s) t t.1)) ++ tbW tA th tq 15 2 t) := by
  refine kx_void rfl (Nat.le_of_ble_eq_true rfl) (fun G X E => ?_)
  show J l D G 0 0 (stW tA a s ++ tbW tA th tq 15 2 t) [(0, .ref (a 0)), (1, .ref th)] 0 []
  refine j_iconst (pc := 0) X (v := (nI 0)) dX1_tellWinds_0 (by decide) ?_
  refine j_istore_n (pc := 1) X (lv' := [(2, .int (nI 0)), (0, .ref (a 0)), (1, .ref th)]) dX1_tellWinds_1 rfl (by decide) rfl ?_
  have L_2 : ∀ (fu : Nat) (i : Nat) (f : Nat → Nat), i ≤ t.1 → f = telW (sW s) t i → t.1 - i < fu → J l D G 0 0 (stW tA a (uW s f) ++ tbW tA th tq 15 2 t) [(0, .ref (a 0)), (1, .ref th), (2, .int (nI i))] 2 [] := by
    intro fu
    induction fu with
    | zero => intro i f hi hf hfu; exact absurd hfu (Nat.not_lt_zero _)
    | succ fu ih_2 =>
      intro i f hi hf hfu
      refine j_iload_n (pc := 2) X dX1_tellWinds_2 rfl (q := 2) rfl ?_
      refine j_aload_n (pc := 3) X dX1_tellWinds_3 rfl (q := 1) rfl ?_
      refine j_callVR (pc := 4) X (st := [.int (nI i)])  (c_X2_size l D tA th tq 15 2 t  ) cd_X2_size wm_X1_66 10 rfl rfl rfl [10, 11] rfl rfl ⟨Nat.le_of_ble_eq_true rfl, Nat.le_of_ble_eq_true rfl⟩ ⟨Nat.zero_le _, Nat.zero_le _⟩ rfl (Nat.le_of_ble_eq_true rfl) dX1_tellWinds_4 ?_
      refine j_icmp_ge (pc := 7) X (tgt := 32) (P := t.1 ≤ i) dX1_tellWinds_7 (by decide) (nI_leI (by omega) (by omega)) (fun h7 => ?_) (fun h7 => ?_)
      · skip
        exact j_endV (pc := 32) E dX1_tellWinds_32 (by rw [hf, ← show i = t.1 by omega])
      · skip
        refine j_aload_n (pc := 10) X dX1_tellWinds_10 rfl (q := 0) rfl ?_
        refine j_aload_n (pc := 11) X dX1_tellWinds_11 rfl (q := 1) rfl ?_
        refine j_iload_n (pc := 12) X dX1_tellWinds_12 rfl (q := 2) rfl ?_
        refine j_iconst (pc := 13) X (v := (nI 0)) dX1_tellWinds_13 (by decide) ?_
        refine j_callVR (pc := 14) X (st := [.ref (a 0)])  (c_X2_get l D tA th tq 15 2 t i 0 (by first | assumption | omega | decide) (by first | assumption | omega | decide) (by first | assumption | omega | decide) (by first | assumption | omega | decide) (by first | assumption | omega | decide) (by first | assumption | omega | decide)) cd_X2_get wm_X1_70 10 rfl rfl rfl [10, 11] rfl rfl ⟨Nat.le_of_ble_eq_true rfl, Nat.le_of_ble_eq_true rfl⟩ ⟨Nat.zero_le _, Nat.zero_le _⟩ rfl (Nat.le_of_ble_eq_true rfl) dX1_tellWinds_14 ?_
        refine j_aload_n (pc := 17) X dX1_tellWinds_17 rfl (q := 1) rfl ?_
        refine j_iload_n (pc := 18) X dX1_tellWinds_18 rfl (q := 2) rfl ?_
        refine j_iconst (pc := 19) X (v := (nI 1)) dX1_tellWinds_19 (by decide) ?_
        refine j_callVR (pc := 20) X (st := [.int (nI (tGet 2 t i 0)), .ref (a 0)])  (c_X2_get l D tA th tq 15 2 t i 1 (by first | assumption | omega | decide) (by first | assumption | omega | decide) (by first | assumption | omega | decide) (by first | assumption | omega | decide) (by first | assumption | omega | decide) (by first | assumption | omega | decide)) cd_X2_get wm_X1_70 10 rfl rfl rfl [10, 11] rfl rfl ⟨Nat.le_of_ble_eq_true rfl, Nat.le_of_ble_eq_true rfl⟩ ⟨Nat.zero_le _, Nat.zero_le _⟩ rfl (Nat.le_of_ble_eq_true rfl) dX1_tellWinds_20 ?_
        refine j_callV (pc := 23) X (st := []) (w' := (stW tA a (uW s (va_up f (tGet 2 t i 0) (tGet 2 t i 1))) ++ tbW tA th tq 15 2 t)) (c_X1_tellWind l D tA a (uW s f) (tGet 2 t i 0) (tGet 2 t i 1) (hh i (by omega))) cd_X1_tellWind wm_X1_76 0 rfl rfl rfl [0, 1, 2, 3, 4, 5, 6, 7, 8, 9] rfl rfl (st_fst.trans st_fst.symm) rfl ⟨Nat.le_of_ble_eq_true rfl, Nat.le_of_ble_eq_true rfl⟩ ⟨Nat.zero_le _, Nat.zero_le _⟩ rfl (Nat.le_of_ble_eq_true rfl) dX1_tellWinds_23 ?_
        refine j_iinc (pc := 26) X (v := (nI (i + 1))) (lv' := [(2, .int (nI (i + 1))), (0, .ref (a 0)), (1, .ref th)]) dX1_tellWinds_26 (q := 2) rfl (nI_add _ _) (by decide) rfl ?_
        refine j_goto (pc := 29) X (tgt := 2) dX1_tellWinds_29 (by decide) ?_
        refine j_lv X (lv' := [(0, .ref (a 0)), (1, .ref th), (2, .int (nI (i + 1)))]) [1, 2, 0] rfl ?_
        exact ih_2 (i + 1) (va_up f (tGet 2 t i 0) (tGet 2 t i 1)) (by omega) (by rw [hf]; rfl) (by omega)
  refine j_lv X (lv' := [(0, .ref (a 0)), (1, .ref th), (2, .int (nI 0))]) [1, 2, 0] rfl ?_
  exact L_2 _ 0 (sW s) (Nat.zero_le _) rfl (Nat.lt_succ_self _)
theorem cd_X1_putMachine : kCardV yX1_putMachine cX1_putMachine 4 (some .int) 2 := ⟨⟨wc_X1_putMachine, wi_X1, by decide +kernel, by decide +kernel, rfl⟩, wk_X1_putMachine, ws_X1_putMachine⟩
set_option maxHeartbeats 4000000 in
set_option maxRecDepth 100000 in
theorem c_X1_putMachine (l : Launch) (D : va_G) (tA : Nat → ClassId) (a : Nat → Nat) (s : Sg) (st bl : Nat) (hlt : (sM s).1 < 5) : Kx l D tA yX1_putMachine cX1_putMachine 4 (some .int) 2 46 [.ref (a 0), .int (nI st), .int (nI bl)] (stW tA a s) (some (.int (nI ((sM s).1)))) (stW tA a (pMach s st bl)) := by
  refine kx_int rfl (Nat.le_of_ble_eq_true rfl) (fun G X E => ?_)
  show J l D G 0 0 (stW tA a s) [(0, .ref (a 0)), (1, .int (nI st)), (2, .int (nI bl))] 0 []
  refine j_aload_n (pc := 0) X dX1_putMachine_0 rfl (q := 0) rfl ?_
  refine j_get (pc := 1) X (C := RX1) (T := TX1) (N := 9) wz_X1 0 rfl rfl 0 (by decide) wf_X1_14 rfl dX1_putMachine_1 ?_
  refine j_callV (pc := 4) X (st := []) (w' := (stW tA a (uM s (tAdd 3 (sM s))))) (c_X2_addRow l D tA (a 1) (a 6) 5 3 (sM s)  (by first | assumption | omega | decide) (by first | assumption | omega | decide) (by first | assumption | omega | decide) (by first | assumption | omega | decide) (by first | assumption | omega | decide)) cd_X2_addRow wm_X1_79 2 rfl rfl rfl [2, 3] rfl rfl (tb_fst.trans tb_fst.symm) rfl ⟨Nat.le_of_ble_eq_true rfl, Nat.le_of_ble_eq_true rfl⟩ ⟨Nat.zero_le _, Nat.zero_le _⟩ rfl (Nat.le_of_ble_eq_true rfl) dX1_putMachine_4 ?_
  refine j_istore_n (pc := 7) X (lv' := [(3, .int (nI ((sM s).1))), (0, .ref (a 0)), (1, .int (nI st)), (2, .int (nI bl))]) dX1_putMachine_7 rfl (by decide) rfl ?_
  refine j_aload_n (pc := 8) X dX1_putMachine_8 rfl (q := 1) rfl ?_
  refine j_get (pc := 9) X (C := RX1) (T := TX1) (N := 9) wz_X1 0 rfl rfl 0 (by decide) wf_X1_14 rfl dX1_putMachine_9 ?_
  refine j_iload_n (pc := 12) X dX1_putMachine_12 rfl (q := 0) rfl ?_
  refine j_iconst (pc := 13) X (v := (nI 0)) dX1_putMachine_13 (by decide) ?_
  refine j_iload_n (pc := 14) X dX1_putMachine_14 rfl (q := 2) rfl ?_
  refine j_callV (pc := 15) X (st := []) (w' := (stW tA a (uM s (tSet 3 (tAdd 3 (sM s)) ((sM s).1) 0 st)))) (c_X2_set l D tA (a 1) (a 6) 5 3 (tAdd 3 (sM s)) ((sM s).1) 0 st (by decide) (by decide) (show (sM s).1 + 1 ≤ 5 by omega) (show (sM s).1 < (sM s).1 + 1 by omega) (by decide) (by decide)) cd_X2_set wm_X1_82 2 rfl rfl rfl [2, 3] rfl rfl (tb_fst.trans tb_fst.symm) rfl ⟨Nat.le_of_ble_eq_true rfl, Nat.le_of_ble_eq_true rfl⟩ ⟨Nat.zero_le _, Nat.zero_le _⟩ rfl (Nat.le_of_ble_eq_true rfl) dX1_putMachine_15 ?_
  refine j_aload_n (pc := 18) X dX1_putMachine_18 rfl (q := 1) rfl ?_
  refine j_get (pc := 19) X (C := RX1) (T := TX1) (N := 9) wz_X1 0 rfl rfl 0 (by decide) wf_X1_14 rfl dX1_putMachine_19 ?_
  refine j_iload_n (pc := 22) X dX1_putMachine_22 rfl (q := 0) rfl ?_
  refine j_iconst (pc := 23) X (v := (nI 1)) dX1_putMachine_23 (by decide) ?_
  refine j_iload_n (pc := 24) X dX1_putMachine_24 rfl (q := 3) rfl ?_
  refine j_callV (pc := 25) X (st := []) (w' := (stW tA a (uM s (tSet 3 (tSet 3 (tAdd 3 (sM s)) ((sM s).1) 0 st) ((sM s).1) 1 bl)))) (c_X2_set l D tA (a 1) (a 6) 5 3 (tSet 3 (tAdd 3 (sM s)) ((sM s).1) 0 st) ((sM s).1) 1 bl (by decide) (by decide) (show (sM s).1 + 1 ≤ 5 by omega) (show (sM s).1 < (sM s).1 + 1 by omega) (by decide) (by decide)) cd_X2_set wm_X1_82 2 rfl rfl rfl [2, 3] rfl rfl (tb_fst.trans tb_fst.symm) rfl ⟨Nat.le_of_ble_eq_true rfl, Nat.le_of_ble_eq_true rfl⟩ ⟨Nat.zero_le _, Nat.zero_le _⟩ rfl (Nat.le_of_ble_eq_true rfl) dX1_putMachine_25 ?_
  refine j_aload_n (pc := 28) X dX1_putMachine_28 rfl (q := 1) rfl ?_
  refine j_get (pc := 29) X (C := RX1) (T := TX1) (N := 9) wz_X1 0 rfl rfl 0 (by decide) wf_X1_14 rfl dX1_putMachine_29 ?_
  refine j_iload_n (pc := 32) X dX1_putMachine_32 rfl (q := 0) rfl ?_
  refine j_iconst (pc := 33) X (v := (nI 2)) dX1_putMachine_33 (by decide) ?_
  refine j_bipush (pc := 34) X (v := (nI NN)) dX1_putMachine_34 (by decide +kernel) ?_
  refine j_callV (pc := 36) X (st := []) (w' := (stW tA a (uM s (tSet 3 (tSet 3 (tSet 3 (tAdd 3 (sM s)) ((sM s).1) 0 st) ((sM s).1) 1 bl) ((sM s).1) 2 NN)))) (c_X2_set l D tA (a 1) (a 6) 5 3 (tSet 3 (tSet 3 (tAdd 3 (sM s)) ((sM s).1) 0 st) ((sM s).1) 1 bl) ((sM s).1) 2 NN (by decide) (by decide) (show (sM s).1 + 1 ≤ 5 by omega) (show (sM s).1 < (sM s).1 + 1 by omega) (by decide) (by decide)) cd_X2_set wm_X1_82 2 rfl rfl rfl [2, 3] rfl rfl (tb_fst.trans tb_fst.symm) rfl ⟨Nat.le_of_ble_eq_true rfl, Nat.le_of_ble_eq_true rfl⟩ ⟨Nat.zero_le _, Nat.zero_le _⟩ rfl (Nat.le_of_ble_eq_true rfl) dX1_putMachine_36 ?_
  refine j_iload_n (pc := 39) X dX1_putMachine_39 rfl (q := 0) rfl ?_
  exact j_endI (pc := 40) E dX1_putMachine_40 rfl rfl
theorem cd_X1_putBooking : kCardV yX1_putBooking cX1_putBooking 5 (some .int) 3 := ⟨⟨wc_X1_putBooking, wi_X1, by decide +kernel, by decide +kernel, rfl⟩, wk_X1_putBooking, ws_X1_putBooking⟩
set_option maxHeartbeats 4000000 in
set_option maxRecDepth 100000 in
theorem c_X1_putBooking (l : Launch) (D : va_G) (tA : Nat → ClassId) (a : Nat → Nat) (s : Sg) (p ld r : Nat) (hlt : (sB s).1 < 30) : Kx l D tA yX1_putBooking cX1_putBooking 5 (some .int) 2 46 [.ref (a 0), .int (nI p), .int (nI ld), .int (nI r)] (stW tA a s) (some (.int (nI ((sB s).1)))) (stW tA a (pBook s p ld r)) := by
  refine kx_int rfl (Nat.le_of_ble_eq_true rfl) (fun G X E => ?_)
  show J l D G 0 0 (stW tA a s) [(0, .ref (a 0)), (1, .int (nI p)), (2, .int (nI ld)), (3, .int (nI r))] 0 []
  refine j_aload_n (pc := 0) X dX1_putBooking_0 rfl (q := 0) rfl ?_
  refine j_get (pc := 1) X (C := RX1) (T := TX1) (N := 9) wz_X1 0 rfl rfl 2 (by decide) wf_X1_23 rfl dX1_putBooking_1 ?_
  refine j_callV (pc := 4) X (st := []) (w' := (stW tA a (uB s (tAdd 8 (sB s))))) (c_X2_addRow l D tA (a 3) (a 8) 30 8 (sB s)  (by first | assumption | omega | decide) (by first | assumption | omega | decide) (by first | assumption | omega | decide) (by first | assumption | omega | decide) (by first | assumption | omega | decide)) cd_X2_addRow wm_X1_79 6 rfl rfl rfl [6, 7] rfl rfl (tb_fst.trans tb_fst.symm) rfl ⟨Nat.le_of_ble_eq_true rfl, Nat.le_of_ble_eq_true rfl⟩ ⟨Nat.zero_le _, Nat.zero_le _⟩ rfl (Nat.le_of_ble_eq_true rfl) dX1_putBooking_4 ?_
  refine j_istore (pc := 7) X (lv' := [(4, .int (nI ((sB s).1))), (0, .ref (a 0)), (1, .int (nI p)), (2, .int (nI ld)), (3, .int (nI r))]) dX1_putBooking_7 (by decide) rfl ?_
  refine j_aload_n (pc := 9) X dX1_putBooking_9 rfl (q := 1) rfl ?_
  refine j_get (pc := 10) X (C := RX1) (T := TX1) (N := 9) wz_X1 0 rfl rfl 2 (by decide) wf_X1_23 rfl dX1_putBooking_10 ?_
  refine j_iload (pc := 13) X dX1_putBooking_13 (q := 0) rfl ?_
  refine j_iconst (pc := 15) X (v := (nI 0)) dX1_putBooking_15 (by decide) ?_
  refine j_iload_n (pc := 16) X dX1_putBooking_16 rfl (q := 2) rfl ?_
  refine j_callV (pc := 17) X (st := []) (w' := (stW tA a (uB s (tSet 8 (tAdd 8 (sB s)) ((sB s).1) 0 p)))) (c_X2_set l D tA (a 3) (a 8) 30 8 (tAdd 8 (sB s)) ((sB s).1) 0 p (by decide) (by decide) (show (sB s).1 + 1 ≤ 30 by omega) (show (sB s).1 < (sB s).1 + 1 by omega) (by decide) (by decide)) cd_X2_set wm_X1_82 6 rfl rfl rfl [6, 7] rfl rfl (tb_fst.trans tb_fst.symm) rfl ⟨Nat.le_of_ble_eq_true rfl, Nat.le_of_ble_eq_true rfl⟩ ⟨Nat.zero_le _, Nat.zero_le _⟩ rfl (Nat.le_of_ble_eq_true rfl) dX1_putBooking_17 ?_
  refine j_aload_n (pc := 20) X dX1_putBooking_20 rfl (q := 1) rfl ?_
  refine j_get (pc := 21) X (C := RX1) (T := TX1) (N := 9) wz_X1 0 rfl rfl 2 (by decide) wf_X1_23 rfl dX1_putBooking_21 ?_
  refine j_iload (pc := 24) X dX1_putBooking_24 (q := 0) rfl ?_
  refine j_iconst (pc := 26) X (v := (nI 3)) dX1_putBooking_26 (by decide) ?_
  refine j_iload_n (pc := 27) X dX1_putBooking_27 rfl (q := 3) rfl ?_
  refine j_callV (pc := 28) X (st := []) (w' := (stW tA a (uB s (tSet 8 (tSet 8 (tAdd 8 (sB s)) ((sB s).1) 0 p) ((sB s).1) 3 ld)))) (c_X2_set l D tA (a 3) (a 8) 30 8 (tSet 8 (tAdd 8 (sB s)) ((sB s).1) 0 p) ((sB s).1) 3 ld (by decide) (by decide) (show (sB s).1 + 1 ≤ 30 by omega) (show (sB s).1 < (sB s).1 + 1 by omega) (by decide) (by decide)) cd_X2_set wm_X1_82 6 rfl rfl rfl [6, 7] rfl rfl (tb_fst.trans tb_fst.symm) rfl ⟨Nat.le_of_ble_eq_true rfl, Nat.le_of_ble_eq_true rfl⟩ ⟨Nat.zero_le _, Nat.zero_le _⟩ rfl (Nat.le_of_ble_eq_true rfl) dX1_putBooking_28 ?_
  refine j_aload_n (pc := 31) X dX1_putBooking_31 rfl (q := 1) rfl ?_
  refine j_get (pc := 32) X (C := RX1) (T := TX1) (N := 9) wz_X1 0 rfl rfl 2 (by decide) wf_X1_23 rfl dX1_putBooking_32 ?_
  refine j_iload (pc := 35) X dX1_putBooking_35 (q := 0) rfl ?_
  refine j_iconst (pc := 37) X (v := (nI 4)) dX1_putBooking_37 (by decide) ?_
  refine j_iload_n (pc := 38) X dX1_putBooking_38 rfl (q := 4) rfl ?_
  refine j_callV (pc := 39) X (st := []) (w' := (stW tA a (uB s (tSet 8 (tSet 8 (tSet 8 (tAdd 8 (sB s)) ((sB s).1) 0 p) ((sB s).1) 3 ld) ((sB s).1) 4 r)))) (c_X2_set l D tA (a 3) (a 8) 30 8 (tSet 8 (tSet 8 (tAdd 8 (sB s)) ((sB s).1) 0 p) ((sB s).1) 3 ld) ((sB s).1) 4 r (by decide) (by decide) (show (sB s).1 + 1 ≤ 30 by omega) (show (sB s).1 < (sB s).1 + 1 by omega) (by decide) (by decide)) cd_X2_set wm_X1_82 6 rfl rfl rfl [6, 7] rfl rfl (tb_fst.trans tb_fst.symm) rfl ⟨Nat.le_of_ble_eq_true rfl, Nat.le_of_ble_eq_true rfl⟩ ⟨Nat.zero_le _, Nat.zero_le _⟩ rfl (Nat.le_of_ble_eq_true rfl) dX1_putBooking_39 ?_
  refine j_aload_n (pc := 42) X dX1_putBooking_42 rfl (q := 1) rfl ?_
  refine j_get (pc := 43) X (C := RX1) (T := TX1) (N := 9) wz_X1 0 rfl rfl 2 (by decide) wf_X1_23 rfl dX1_putBooking_43 ?_
  refine j_iload (pc := 46) X dX1_putBooking_46 (q := 0) rfl ?_
  refine j_iconst (pc := 48) X (v := (nI 5)) dX1_putBooking_48 (by decide) ?_
  refine j_iconst (pc := 49) X (v := (nI 0)) dX1_putBooking_49 (by decide) ?_
  refine j_callV (pc := 50) X (st := []) (w' := (stW tA a (uB s (tSet 8 (tSet 8 (tSet 8 (tSet 8 (tAdd 8 (sB s)) ((sB s).1) 0 p) ((sB s).1) 3 ld) ((sB s).1) 4 r) ((sB s).1) 5 0)))) (c_X2_set l D tA (a 3) (a 8) 30 8 (tSet 8 (tSet 8 (tSet 8 (tAdd 8 (sB s)) ((sB s).1) 0 p) ((sB s).1) 3 ld) ((sB s).1) 4 r) ((sB s).1) 5 0 (by decide) (by decide) (show (sB s).1 + 1 ≤ 30 by omega) (show (sB s).1 < (sB s).1 + 1 by omega) (by decide) (by decide)) cd_X2_set wm_X1_82 6 rfl rfl rfl [6, 7] rfl rfl (tb_fst.trans tb_fst.symm) rfl ⟨Nat.le_of_ble_eq_true rfl, Nat.le_of_ble_eq_true rfl⟩ ⟨Nat.zero_le _, Nat.zero_le _⟩ rfl (Nat.le_of_ble_eq_true rfl) dX1_putBooking_50 ?_
  refine j_iload (pc := 53) X dX1_putBooking_53 (q := 0) rfl ?_
  exact j_endI (pc := 55) E dX1_putBooking_55 rfl rfl
theorem cd_X1_putMove : kCardV yX1_putMove cX1_putMove 7 (some .int) 5 := ⟨⟨wc_X1_putMove, wi_X1, by decide +kernel, by decide +kernel, rfl⟩, wk_X1_putMove, ws_X1_putMove⟩
set_option maxHeartbeats 4000000 in
set_option maxRecDepth 100000 in
theorem c_X1_putMove (l : Launch) (D : va_G) (tA : Nat → ClassId) (a : Nat → Nat) (s : Sg) (p fr to mu h : Nat) (hlt : (sV s).1 < 10) : Kx l D tA yX1_putMove cX1_putMove 7 (some .int) 2 46 [.ref (a 0), .int (nI p), .int (nI fr), .int (nI to), .int (nI mu), .int (nI h)] (stW tA a s) (some (.int (nI ((sV s).1)))) (stW tA a (pMove s p fr to mu h)) := by
  refine kx_int rfl (Nat.le_of_ble_eq_true rfl) (fun G X E => ?_)
  show J l D G 0 0 (stW tA a s) [(0, .ref (a 0)), (1, .int (nI p)), (2, .int (nI fr)), (3, .int (nI to)), (4, .int (nI mu)), (5, .int (nI h))] 0 []
  refine j_aload_n (pc := 0) X dX1_putMove_0 rfl (q := 0) rfl ?_
  refine j_get (pc := 1) X (C := RX1) (T := TX1) (N := 9) wz_X1 0 rfl rfl 3 (by decide) wf_X1_26 rfl dX1_putMove_1 ?_
  refine j_callV (pc := 4) X (st := []) (w' := (stW tA a (uV s (tAdd 5 (sV s))))) (c_X2_addRow l D tA (a 4) (a 9) 10 5 (sV s)  (by first | assumption | omega | decide) (by first | assumption | omega | decide) (by first | assumption | omega | decide) (by first | assumption | omega | decide) (by first | assumption | omega | decide)) cd_X2_addRow wm_X1_79 8 rfl rfl rfl [8, 9] rfl rfl (tb_fst.trans tb_fst.symm) rfl ⟨Nat.le_of_ble_eq_true rfl, Nat.le_of_ble_eq_true rfl⟩ ⟨Nat.zero_le _, Nat.zero_le _⟩ rfl (Nat.le_of_ble_eq_true rfl) dX1_putMove_4 ?_
  refine j_istore (pc := 7) X (lv' := [(6, .int (nI ((sV s).1))), (0, .ref (a 0)), (1, .int (nI p)), (2, .int (nI fr)), (3, .int (nI to)), (4, .int (nI mu)), (5, .int (nI h))]) dX1_putMove_7 (by decide) rfl ?_
  refine j_aload_n (pc := 9) X dX1_putMove_9 rfl (q := 1) rfl ?_
  refine j_get (pc := 10) X (C := RX1) (T := TX1) (N := 9) wz_X1 0 rfl rfl 3 (by decide) wf_X1_26 rfl dX1_putMove_10 ?_
  refine j_iload (pc := 13) X dX1_putMove_13 (q := 0) rfl ?_
  refine j_iconst (pc := 15) X (v := (nI 0)) dX1_putMove_15 (by decide) ?_
  refine j_iload_n (pc := 16) X dX1_putMove_16 rfl (q := 2) rfl ?_
  refine j_callV (pc := 17) X (st := []) (w' := (stW tA a (uV s (tSet 5 (tAdd 5 (sV s)) ((sV s).1) 0 p)))) (c_X2_set l D tA (a 4) (a 9) 10 5 (tAdd 5 (sV s)) ((sV s).1) 0 p (by decide) (by decide) (show (sV s).1 + 1 ≤ 10 by omega) (show (sV s).1 < (sV s).1 + 1 by omega) (by decide) (by decide)) cd_X2_set wm_X1_82 8 rfl rfl rfl [8, 9] rfl rfl (tb_fst.trans tb_fst.symm) rfl ⟨Nat.le_of_ble_eq_true rfl, Nat.le_of_ble_eq_true rfl⟩ ⟨Nat.zero_le _, Nat.zero_le _⟩ rfl (Nat.le_of_ble_eq_true rfl) dX1_putMove_17 ?_
  refine j_aload_n (pc := 20) X dX1_putMove_20 rfl (q := 1) rfl ?_
  refine j_get (pc := 21) X (C := RX1) (T := TX1) (N := 9) wz_X1 0 rfl rfl 3 (by decide) wf_X1_26 rfl dX1_putMove_21 ?_
  refine j_iload (pc := 24) X dX1_putMove_24 (q := 0) rfl ?_
  refine j_iconst (pc := 26) X (v := (nI 1)) dX1_putMove_26 (by decide) ?_
  refine j_iload_n (pc := 27) X dX1_putMove_27 rfl (q := 3) rfl ?_
  refine j_callV (pc := 28) X (st := []) (w' := (stW tA a (uV s (tSet 5 (tSet 5 (tAdd 5 (sV s)) ((sV s).1) 0 p) ((sV s).1) 1 fr)))) (c_X2_set l D tA (a 4) (a 9) 10 5 (tSet 5 (tAdd 5 (sV s)) ((sV s).1) 0 p) ((sV s).1) 1 fr (by decide) (by decide) (show (sV s).1 + 1 ≤ 10 by omega) (show (sV s).1 < (sV s).1 + 1 by omega) (by decide) (by decide)) cd_X2_set wm_X1_82 8 rfl rfl rfl [8, 9] rfl rfl (tb_fst.trans tb_fst.symm) rfl ⟨Nat.le_of_ble_eq_true rfl, Nat.le_of_ble_eq_true rfl⟩ ⟨Nat.zero_le _, Nat.zero_le _⟩ rfl (Nat.le_of_ble_eq_true rfl) dX1_putMove_28 ?_
  refine j_aload_n (pc := 31) X dX1_putMove_31 rfl (q := 1) rfl ?_
  refine j_get (pc := 32) X (C := RX1) (T := TX1) (N := 9) wz_X1 0 rfl rfl 3 (by decide) wf_X1_26 rfl dX1_putMove_32 ?_
  refine j_iload (pc := 35) X dX1_putMove_35 (q := 0) rfl ?_
  refine j_iconst (pc := 37) X (v := (nI 2)) dX1_putMove_37 (by decide) ?_
  refine j_iload_n (pc := 38) X dX1_putMove_38 rfl (q := 4) rfl ?_
  refine j_callV (pc := 39) X (st := []) (w' := (stW tA a (uV s (tSet 5 (tSet 5 (tSet 5 (tAdd 5 (sV s)) ((sV s).1) 0 p) ((sV s).1) 1 fr) ((sV s).1) 2 to)))) (c_X2_set l D tA (a 4) (a 9) 10 5 (tSet 5 (tSet 5 (tAdd 5 (sV s)) ((sV s).1) 0 p) ((sV s).1) 1 fr) ((sV s).1) 2 to (by decide) (by decide) (show (sV s).1 + 1 ≤ 10 by omega) (show (sV s).1 < (sV s).1 + 1 by omega) (by decide) (by decide)) cd_X2_set wm_X1_82 8 rfl rfl rfl [8, 9] rfl rfl (tb_fst.trans tb_fst.symm) rfl ⟨Nat.le_of_ble_eq_true rfl, Nat.le_of_ble_eq_true rfl⟩ ⟨Nat.zero_le _, Nat.zero_le _⟩ rfl (Nat.le_of_ble_eq_true rfl) dX1_putMove_39 ?_
  refine j_aload_n (pc := 42) X dX1_putMove_42 rfl (q := 1) rfl ?_
  refine j_get (pc := 43) X (C := RX1) (T := TX1) (N := 9) wz_X1 0 rfl rfl 3 (by decide) wf_X1_26 rfl dX1_putMove_43 ?_
  refine j_iload (pc := 46) X dX1_putMove_46 (q := 0) rfl ?_
  refine j_iconst (pc := 48) X (v := (nI 3)) dX1_putMove_48 (by decide) ?_
  refine j_iload (pc := 49) X dX1_putMove_49 (q := 5) rfl ?_
  refine j_callV (pc := 51) X (st := []) (w' := (stW tA a (uV s (tSet 5 (tSet 5 (tSet 5 (tSet 5 (tAdd 5 (sV s)) ((sV s).1) 0 p) ((sV s).1) 1 fr) ((sV s).1) 2 to) ((sV s).1) 3 mu)))) (c_X2_set l D tA (a 4) (a 9) 10 5 (tSet 5 (tSet 5 (tSet 5 (tAdd 5 (sV s)) ((sV s).1) 0 p) ((sV s).1) 1 fr) ((sV s).1) 2 to) ((sV s).1) 3 mu (by decide) (by decide) (show (sV s).1 + 1 ≤ 10 by omega) (show (sV s).1 < (sV s).1 + 1 by omega) (by decide) (by decide)) cd_X2_set wm_X1_82 8 rfl rfl rfl [8, 9] rfl rfl (tb_fst.trans tb_fst.symm) rfl ⟨Nat.le_of_ble_eq_true rfl, Nat.le_of_ble_eq_true rfl⟩ ⟨Nat.zero_le _, Nat.zero_le _⟩ rfl (Nat.le_of_ble_eq_true rfl) dX1_putMove_51 ?_
  refine j_aload_n (pc := 54) X dX1_putMove_54 rfl (q := 1) rfl ?_
  refine j_get (pc := 55) X (C := RX1) (T := TX1) (N := 9) wz_X1 0 rfl rfl 3 (by decide) wf_X1_26 rfl dX1_putMove_55 ?_
  refine j_iload (pc := 58) X dX1_putMove_58 (q := 0) rfl ?_
  refine j_iconst (pc := 60) X (v := (nI 4)) dX1_putMove_60 (by decide) ?_
  refine j_iload (pc := 61) X dX1_putMove_61 (q := 6) rfl ?_
  refine j_callV (pc := 63) X (st := []) (w' := (stW tA a (uV s (tSet 5 (tSet 5 (tSet 5 (tSet 5 (tSet 5 (tAdd 5 (sV s)) ((sV s).1) 0 p) ((sV s).1) 1 fr) ((sV s).1) 2 to) ((sV s).1) 3 mu) ((sV s).1) 4 h)))) (c_X2_set l D tA (a 4) (a 9) 10 5 (tSet 5 (tSet 5 (tSet 5 (tSet 5 (tAdd 5 (sV s)) ((sV s).1) 0 p) ((sV s).1) 1 fr) ((sV s).1) 2 to) ((sV s).1) 3 mu) ((sV s).1) 4 h (by decide) (by decide) (show (sV s).1 + 1 ≤ 10 by omega) (show (sV s).1 < (sV s).1 + 1 by omega) (by decide) (by decide)) cd_X2_set wm_X1_82 8 rfl rfl rfl [8, 9] rfl rfl (tb_fst.trans tb_fst.symm) rfl ⟨Nat.le_of_ble_eq_true rfl, Nat.le_of_ble_eq_true rfl⟩ ⟨Nat.zero_le _, Nat.zero_le _⟩ rfl (Nat.le_of_ble_eq_true rfl) dX1_putMove_63 ?_
  refine j_iload (pc := 66) X dX1_putMove_66 (q := 0) rfl ?_
  exact j_endI (pc := 68) E dX1_putMove_68 rfl rfl
theorem cd_X1_borneBy : kCardV yX1_borneBy cX1_borneBy 6 (some .int) 2 := ⟨⟨wc_X1_borneBy, wi_X1, by decide +kernel, by decide +kernel, rfl⟩, wk_X1_borneBy, ws_X1_borneBy⟩
set_option maxHeartbeats 4000000 in
set_option maxRecDepth 100000 in
theorem c_X1_borneBy (l : Launch) (D : va_G) (tA : Nat → ClassId) (a : Nat → Nat) (s : Sg) (m r : Nat) (hw : Wf s) (hm : m < (sM s).1) (hr : r ≤ 60) : Kx l D tA yX1_borneBy cX1_borneBy 6 (some .int) 1 23 [.ref (a 0), .int (nI m), .int (nI r)] (stW tA a s) (some (.int (nI (brn (sM s) m r)))) (stW tA a s) := by
  refine kx_int rfl (Nat.le_of_ble_eq_true rfl) (fun G X E => ?_)
  show J l D G 0 0 (stW tA a s) [(0, .ref (a 0)), (1, .int (nI m)), (2, .int (nI r))] 0 []
  have hn := hw.n
  have hm0 := hw.m hm
  refine j_aload_n (pc := 0) X dX1_borneBy_0 rfl (q := 0) rfl ?_
  refine j_get (pc := 1) X (C := RX1) (T := TX1) (N := 9) wz_X1 0 rfl rfl 0 (by decide) wf_X1_14 rfl dX1_borneBy_1 ?_
  refine j_iload_n (pc := 4) X dX1_borneBy_4 rfl (q := 1) rfl ?_
  refine j_iconst (pc := 5) X (v := (nI 0)) dX1_borneBy_5 (by decide) ?_
  refine j_callVR (pc := 6) X (st := [])  (c_X2_get l D tA (a 1) (a 6) 5 3 (sM s) m 0 (by first | assumption | omega | decide) (by first | assumption | omega | decide) (by first | assumption | omega | decide) (by first | assumption | omega | decide) (by first | assumption | omega | decide) (by first | assumption | omega | decide)) cd_X2_get wm_X1_70 2 rfl rfl rfl [2, 3] rfl rfl ⟨Nat.le_of_ble_eq_true rfl, Nat.le_of_ble_eq_true rfl⟩ ⟨Nat.zero_le _, Nat.zero_le _⟩ rfl (Nat.le_of_ble_eq_true rfl) dX1_borneBy_6 ?_
  refine j_istore_n (pc := 9) X (lv' := [(3, .int (nI (tGet 3 (sM s) m 0))), (0, .ref (a 0)), (1, .int (nI m)), (2, .int (nI r))]) dX1_borneBy_9 rfl (by decide) rfl ?_
  refine j_aload_n (pc := 10) X dX1_borneBy_10 rfl (q := 1) rfl ?_
  refine j_get (pc := 11) X (C := RX1) (T := TX1) (N := 9) wz_X1 0 rfl rfl 0 (by decide) wf_X1_14 rfl dX1_borneBy_11 ?_
  refine j_iload_n (pc := 14) X dX1_borneBy_14 rfl (q := 2) rfl ?_
  refine j_iconst (pc := 15) X (v := (nI 1)) dX1_borneBy_15 (by decide) ?_
  refine j_callVR (pc := 16) X (st := [])  (c_X2_get l D tA (a 1) (a 6) 5 3 (sM s) m 1 (by first | assumption | omega | decide) (by first | assumption | omega | decide) (by first | assumption | omega | decide) (by first | assumption | omega | decide) (by first | assumption | omega | decide) (by first | assumption | omega | decide)) cd_X2_get wm_X1_70 2 rfl rfl rfl [2, 3] rfl rfl ⟨Nat.le_of_ble_eq_true rfl, Nat.le_of_ble_eq_true rfl⟩ ⟨Nat.zero_le _, Nat.zero_le _⟩ rfl (Nat.le_of_ble_eq_true rfl) dX1_borneBy_16 ?_
  refine j_istore (pc := 19) X (lv' := [(4, .int (nI (tGet 3 (sM s) m 1))), (3, .int (nI (tGet 3 (sM s) m 0))), (0, .ref (a 0)), (1, .int (nI m)), (2, .int (nI r))]) dX1_borneBy_19 (by decide) rfl ?_
  refine j_iload_n (pc := 21) X dX1_borneBy_21 rfl (q := 1) rfl ?_
  refine j_bipush (pc := 22) X (v := (nI 100)) dX1_borneBy_22 (by decide) ?_
  refine j_imul (pc := 24) X (v := (nI ((tGet 3 (sM s) m 0) * 100))) dX1_borneBy_24 (pk_mul _ _) ?_
  refine j_iload (pc := 25) X dX1_borneBy_25 (q := 0) rfl ?_
  refine j_sipush (pc := 27) X (v := (nI 150)) dX1_borneBy_27 (by decide) ?_
  refine j_imul (pc := 30) X (v := (nI ((tGet 3 (sM s) m 1) * 150))) dX1_borneBy_30 (pk_mul _ _) ?_
  refine j_iadd (pc := 31) X (v := (nI (((tGet 3 (sM s) m 0) * 100) + ((tGet 3 (sM s) m 1) * 150)))) dX1_borneBy_31 (nI_add _ _) ?_
  refine j_iload_n (pc := 32) X dX1_borneBy_32 rfl (q := 4) rfl ?_
  refine j_iconst (pc := 33) X (v := (nI 2)) dX1_borneBy_33 (by decide) ?_
  refine j_mmax (pc := 34) X wm_X1_86 (Nat.le_of_ble_eq_true rfl) (Nat.le_of_ble_eq_true rfl) ⟨Nat.zero_le _, Nat.zero_le _⟩ (v := (nI (max r 2))) (nI_max (by omega) (by omega)) dX1_borneBy_34 ?_
  refine j_idiv (pc := 37) X (v := (nI ((((tGet 3 (sM s) m 0) * 100) + ((tGet 3 (sM s) m 1) * 150)) / (max r 2)))) dX1_borneBy_37 (nI_ne0 (by omega) (by omega)) (pk_div (by omega) (by omega) (by omega)) ?_
  refine j_istore (pc := 38) X (lv' := [(5, .int (nI ((((tGet 3 (sM s) m 0) * 100) + ((tGet 3 (sM s) m 1) * 150)) / (max r 2)))), (4, .int (nI (tGet 3 (sM s) m 1))), (3, .int (nI (tGet 3 (sM s) m 0))), (0, .ref (a 0)), (1, .int (nI m)), (2, .int (nI r))]) dX1_borneBy_38 (by decide) rfl ?_
  refine j_iload (pc := 40) X dX1_borneBy_40 (q := 0) rfl ?_
  refine j_iload_n (pc := 42) X dX1_borneBy_42 rfl (q := 2) rfl ?_
  refine j_bipush (pc := 43) X (v := (nI 10)) dX1_borneBy_43 (by decide) ?_
  refine j_imul (pc := 45) X (v := (nI ((tGet 3 (sM s) m 0) * 10))) dX1_borneBy_45 (pk_mul _ _) ?_
  refine j_mmin (pc := 46) X wm_X1_37 (Nat.le_of_ble_eq_true rfl) (Nat.le_of_ble_eq_true rfl) ⟨Nat.zero_le _, Nat.zero_le _⟩ (v := (nI (min ((((tGet 3 (sM s) m 0) * 100) + ((tGet 3 (sM s) m 1) * 150)) / (max r 2)) ((tGet 3 (sM s) m 0) * 10)))) (nI_min (Nat.lt_of_le_of_lt (Nat.div_le_self _ _) (by omega)) (by omega)) dX1_borneBy_46 ?_
  exact j_endI (pc := 49) E dX1_borneBy_49 rfl rfl
theorem cd_X1_bookingFor : kCardV yX1_bookingFor cX1_bookingFor 4 (some .int) 2 := ⟨⟨wc_X1_bookingFor, wi_X1, by decide +kernel, by decide +kernel, rfl⟩, wk_X1_bookingFor, ws_X1_bookingFor⟩
set_option maxHeartbeats 4000000 in
set_option maxRecDepth 100000 in
theorem c_X1_bookingFor (l : Launch) (D : va_G) (tA : Nat → ClassId) (a : Nat → Nat) (s : Sg) (m h : Nat) (hw : Wf s) (hm : m < 2 ^ 31) (hh : h < 2 ^ 31) : Kx l D tA yX1_bookingFor cX1_bookingFor 4 (some .int) 1 23 [.ref (a 0), .int (nI m), .int (nI h)] (stW tA a s) (some (.int (rO (bkF (sB s) m h)))) (stW tA a s) := by
  refine kx_int rfl (Nat.le_of_ble_eq_true rfl) (fun G X E => ?_)
  show J l D G 0 0 (stW tA a s) [(0, .ref (a 0)), (1, .int (nI m)), (2, .int (nI h))] 0 []
  have hn := hw.n
  refine j_iconst (pc := 0) X (v := (nI 0)) dX1_bookingFor_0 (by decide) ?_
  refine j_istore_n (pc := 1) X (lv' := [(3, .int (nI 0)), (0, .ref (a 0)), (1, .int (nI m)), (2, .int (nI h))]) dX1_bookingFor_1 rfl (by decide) rfl ?_
  have L_2 : ∀ (fu : Nat) (i : Nat), i ≤ (sB s).1 → fndN (fun b => decide (tGet 8 (sB s) b 5 = 0 ∧ tGet 8 (sB s) b 1 = m ∧ tGet 8 (sB s) b 2 = h)) i = none → (sB s).1 - i < fu → J l D G 0 0 (stW tA a s) [(0, .ref (a 0)), (1, .int (nI m)), (2, .int (nI h)), (3, .int (nI i))] 2 [] := by
    intro fu
    induction fu with
    | zero => intro i hi hk hfu; exact absurd hfu (Nat.not_lt_zero _)
    | succ fu ih_2 =>
      intro i hi hk hfu
      refine j_iload_n (pc := 2) X dX1_bookingFor_2 rfl (q := 3) rfl ?_
      refine j_aload_n (pc := 3) X dX1_bookingFor_3 rfl (q := 0) rfl ?_
      refine j_get (pc := 4) X (C := RX1) (T := TX1) (N := 9) wz_X1 0 rfl rfl 2 (by decide) wf_X1_23 rfl dX1_bookingFor_4 ?_
      refine j_callVR (pc := 7) X (st := [.int (nI i)])  (c_X2_size l D tA (a 3) (a 8) 30 8 (sB s)  ) cd_X2_size wm_X1_66 6 rfl rfl rfl [6, 7] rfl rfl ⟨Nat.le_of_ble_eq_true rfl, Nat.le_of_ble_eq_true rfl⟩ ⟨Nat.zero_le _, Nat.zero_le _⟩ rfl (Nat.le_of_ble_eq_true rfl) dX1_bookingFor_7 ?_
      refine j_icmp_ge (pc := 10) X (tgt := 59) (P := ((sB s).1) ≤ i) dX1_bookingFor_10 (by decide) (nI_leI (by omega) (by omega)) (fun h10 => ?_) (fun h10 => ?_)
      · skip
        refine j_bipush (pc := 59) X (v := (-5)) dX1_bookingFor_59 (by decide) ?_
        exact j_endI (pc := 61) E dX1_bookingFor_61 (by rw [bkF, ← show i = (sB s).1 by omega, hk]; rfl) rfl
      · skip
        refine j_aload_n (pc := 13) X dX1_bookingFor_13 rfl (q := 0) rfl ?_
        refine j_get (pc := 14) X (C := RX1) (T := TX1) (N := 9) wz_X1 0 rfl rfl 2 (by decide) wf_X1_23 rfl dX1_bookingFor_14 ?_
        refine j_iload_n (pc := 17) X dX1_bookingFor_17 rfl (q := 3) rfl ?_
        refine j_iconst (pc := 18) X (v := (nI 5)) dX1_bookingFor_18 (by decide) ?_
        have hb := hw.b (show i < (sB s).1 by omega)
        refine j_callVR (pc := 19) X (st := [])  (c_X2_get l D tA (a 3) (a 8) 30 8 (sB s) i 5 (by first | assumption | omega | decide) (by first | assumption | omega | decide) (by first | assumption | omega | decide) (by first | assumption | omega | decide) (by first | assumption | omega | decide) (by first | assumption | omega | decide)) cd_X2_get wm_X1_70 6 rfl rfl rfl [6, 7] rfl rfl ⟨Nat.le_of_ble_eq_true rfl, Nat.le_of_ble_eq_true rfl⟩ ⟨Nat.zero_le _, Nat.zero_le _⟩ rfl (Nat.le_of_ble_eq_true rfl) dX1_bookingFor_19 ?_
        refine j_if_ne (pc := 22) X (tgt := 53) (P := ¬ (tGet 8 (sB s) i 5) = 0) dX1_bookingFor_22 (by decide) (not_congr (nC_eq0 (by omega))) (fun h22 => ?_) (fun h22 => ?_)
        · skip
          refine j_iinc (pc := 53) X (v := (nI (i + 1))) (lv' := [(3, .int (nI (i + 1))), (0, .ref (a 0)), (1, .int (nI m)), (2, .int (nI h))]) dX1_bookingFor_53 (q := 3) rfl (nI_add _ _) (by decide) rfl ?_
          refine j_goto (pc := 56) X (tgt := 2) dX1_bookingFor_56 (by decide) ?_
          refine j_lv X (lv' := [(0, .ref (a 0)), (1, .int (nI m)), (2, .int (nI h)), (3, .int (nI (i + 1)))]) [1, 2, 3, 0] rfl ?_
          exact ih_2 (i + 1) (by omega) (fnd_no hk (by simp only [decide_eq_true_eq]; exact fun q => h22 q.1)) (by omega)
        · skip
          refine j_aload_n (pc := 25) X dX1_bookingFor_25 rfl (q := 0) rfl ?_
          refine j_get (pc := 26) X (C := RX1) (T := TX1) (N := 9) wz_X1 0 rfl rfl 2 (by decide) wf_X1_23 rfl dX1_bookingFor_26 ?_
          refine j_iload_n (pc := 29) X dX1_bookingFor_29 rfl (q := 3) rfl ?_
          refine j_iconst (pc := 30) X (v := (nI 1)) dX1_bookingFor_30 (by decide) ?_
          refine j_callVR (pc := 31) X (st := [])  (c_X2_get l D tA (a 3) (a 8) 30 8 (sB s) i 1 (by first | assumption | omega | decide) (by first | assumption | omega | decide) (by first | assumption | omega | decide) (by first | assumption | omega | decide) (by first | assumption | omega | decide) (by first | assumption | omega | decide)) cd_X2_get wm_X1_70 6 rfl rfl rfl [6, 7] rfl rfl ⟨Nat.le_of_ble_eq_true rfl, Nat.le_of_ble_eq_true rfl⟩ ⟨Nat.zero_le _, Nat.zero_le _⟩ rfl (Nat.le_of_ble_eq_true rfl) dX1_bookingFor_31 ?_
          refine j_iload_n (pc := 34) X dX1_bookingFor_34 rfl (q := 1) rfl ?_
          refine j_icmp_ne (pc := 35) X (tgt := 53) (P := ¬ (tGet 8 (sB s) i 1) = m) dX1_bookingFor_35 (by decide) (not_congr (nI_eq (by omega) (by omega))) (fun h35 => ?_) (fun h35 => ?_)
          · skip
            refine j_iinc (pc := 53) X (v := (nI (i + 1))) (lv' := [(3, .int (nI (i + 1))), (0, .ref (a 0)), (1, .int (nI m)), (2, .int (nI h))]) dX1_bookingFor_53 (q := 3) rfl (nI_add _ _) (by decide) rfl ?_
            refine j_goto (pc := 56) X (tgt := 2) dX1_bookingFor_56 (by decide) ?_
            refine j_lv X (lv' := [(0, .ref (a 0)), (1, .int (nI m)), (2, .int (nI h)), (3, .int (nI (i + 1)))]) [1, 2, 3, 0] rfl ?_
            exact ih_2 (i + 1) (by omega) (fnd_no hk (by simp only [decide_eq_true_eq]; exact fun q => h35 q.2.1)) (by omega)
          · skip
            refine j_aload_n (pc := 38) X dX1_bookingFor_38 rfl (q := 0) rfl ?_
            refine j_get (pc := 39) X (C := RX1) (T := TX1) (N := 9) wz_X1 0 rfl rfl 2 (by decide) wf_X1_23 rfl dX1_bookingFor_39 ?_
            refine j_iload_n (pc := 42) X dX1_bookingFor_42 rfl (q := 3) rfl ?_
            refine j_iconst (pc := 43) X (v := (nI 2)) dX1_bookingFor_43 (by decide) ?_
            refine j_callVR (pc := 44) X (st := [])  (c_X2_get l D tA (a 3) (a 8) 30 8 (sB s) i 2 (by first | assumption | omega | decide) (by first | assumption | omega | decide) (by first | assumption | omega | decide) (by first | assumption | omega | decide) (by first | assumption | omega | decide) (by first | assumption | omega | decide)) cd_X2_get wm_X1_70 6 rfl rfl rfl [6, 7] rfl rfl ⟨Nat.le_of_ble_eq_true rfl, Nat.le_of_ble_eq_true rfl⟩ ⟨Nat.zero_le _, Nat.zero_le _⟩ rfl (Nat.le_of_ble_eq_true rfl) dX1_bookingFor_44 ?_
            refine j_iload_n (pc := 47) X dX1_bookingFor_47 rfl (q := 2) rfl ?_
            refine j_icmp_ne (pc := 48) X (tgt := 53) (P := ¬ (tGet 8 (sB s) i 2) = h) dX1_bookingFor_48 (by decide) (not_congr (nI_eq (by omega) (by omega))) (fun h48 => ?_) (fun h48 => ?_)
            · skip
              refine j_iinc (pc := 53) X (v := (nI (i + 1))) (lv' := [(3, .int (nI (i + 1))), (0, .ref (a 0)), (1, .int (nI m)), (2, .int (nI h))]) dX1_bookingFor_53 (q := 3) rfl (nI_add _ _) (by decide) rfl ?_
              refine j_goto (pc := 56) X (tgt := 2) dX1_bookingFor_56 (by decide) ?_
              refine j_lv X (lv' := [(0, .ref (a 0)), (1, .int (nI m)), (2, .int (nI h)), (3, .int (nI (i + 1)))]) [1, 2, 3, 0] rfl ?_
              exact ih_2 (i + 1) (by omega) (fnd_no hk (by simp only [decide_eq_true_eq]; exact fun q => h48 q.2.2)) (by omega)
            · skip
              refine j_iload_n (pc := 51) X dX1_bookingFor_51 rfl (q := 3) rfl ?_
              exact j_endI (pc := 52) E dX1_bookingFor_52 (by rw [bkF, fnd_up (fnd_at hk (by simp only [decide_eq_true_eq]; exact ⟨Decidable.not_not.mp h22, Decidable.not_not.mp h35, Decidable.not_not.mp h48⟩)) _ (by omega)]; rfl) rfl
  refine j_lv X (lv' := [(0, .ref (a 0)), (1, .int (nI m)), (2, .int (nI h)), (3, .int (nI 0))]) [1, 2, 3, 0] rfl ?_
  exact L_2 _ 0 (Nat.zero_le _) rfl (Nat.lt_succ_self _)
theorem cd_X1_canTake : kCardV yX1_canTake cX1_canTake 5 (some .boolean) 4 := ⟨⟨wc_X1_canTake, wi_X1, by decide +kernel, by decide +kernel, rfl⟩, wk_X1_canTake, ws_X1_canTake⟩
set_option maxHeartbeats 4000000 in
set_option maxRecDepth 100000 in
theorem c_X1_canTake (l : Launch) (D : va_G) (tA : Nat → ClassId) (a : Nat → Nat) (s : Sg) (m h ld r : Nat) (hw : Wf s) (hm : m < (sM s).1) (hh : h < 2 ^ 31) (hl : ld < 2 ^ 31) (hr : r ≤ 60) : Kx l D tA yX1_canTake cX1_canTake 5 (some .boolean) 2 48 [.ref (a 0), .int (nI m), .int (nI h), .int (nI ld), .int (nI r)] (stW tA a s) (some (.int (bI (canT s m h ld r)))) (stW tA a s) := by
  refine kx_bool rfl (Nat.le_of_ble_eq_true rfl) (fun G X E => ?_)
  show J l D G 0 0 (stW tA a s) [(0, .ref (a 0)), (1, .int (nI m)), (2, .int (nI h)), (3, .int (nI ld)), (4, .int (nI r))] 0 []
  have hn := hw.n
  have hbr := brn_lt hw hm (r := r)
  refine j_iload_n (pc := 0) X dX1_canTake_0 rfl (q := 3) rfl ?_
  refine j_aload_n (pc := 1) X dX1_canTake_1 rfl (q := 0) rfl ?_
  refine j_iload_n (pc := 2) X dX1_canTake_2 rfl (q := 1) rfl ?_
  refine j_iload (pc := 3) X dX1_canTake_3 (q := 4) rfl ?_
  refine j_callVR (pc := 5) X (st := [.int (nI ld)])  (c_X1_borneBy l D tA a s m r (by first | assumption | omega | decide) (by first | assumption | omega | decide) (by first | assumption | omega | decide)) cd_X1_borneBy wm_X1_89 0 rfl rfl rfl [0, 1, 2, 3, 4, 5, 6, 7, 8, 9] rfl rfl ⟨Nat.le_of_ble_eq_true rfl, Nat.le_of_ble_eq_true rfl⟩ ⟨Nat.zero_le _, Nat.zero_le _⟩ rfl (Nat.le_of_ble_eq_true rfl) dX1_canTake_5 ?_
  refine j_icmp_gt (pc := 8) X (tgt := 26) (P := (brn (sM s) m r) < ld) dX1_canTake_8 (by decide) (nI_ltI (by omega) (by omega)) (fun h8 => ?_) (fun h8 => ?_)
  · skip
    refine j_iconst (pc := 26) X (v := (nI 0)) dX1_canTake_26 (by decide) ?_
    exact j_endI (pc := 27) E dX1_canTake_27 (bI_f (by simp only [canT, decide_eq_false_iff_not]; exact fun q => absurd q.1 (by omega))) rfl
  · skip
    refine j_aload_n (pc := 11) X dX1_canTake_11 rfl (q := 0) rfl ?_
    refine j_iload_n (pc := 12) X dX1_canTake_12 rfl (q := 1) rfl ?_
    refine j_iload_n (pc := 13) X dX1_canTake_13 rfl (q := 2) rfl ?_
    refine j_callVR (pc := 14) X (st := [])  (c_X1_bookingFor l D tA a s m h (by first | assumption | omega | decide) (by first | assumption | omega | decide) (by first | assumption | omega | decide)) cd_X1_bookingFor wm_X1_92 0 rfl rfl rfl [0, 1, 2, 3, 4, 5, 6, 7, 8, 9] rfl rfl ⟨Nat.le_of_ble_eq_true rfl, Nat.le_of_ble_eq_true rfl⟩ ⟨Nat.zero_le _, Nat.zero_le _⟩ rfl (Nat.le_of_ble_eq_true rfl) dX1_canTake_14 ?_
    refine j_bipush (pc := 17) X (v := (-5)) dX1_canTake_17 (by decide) ?_
    refine j_icmp_ne (pc := 19) X (tgt := 26) (P := ¬ (bkF (sB s) m h) = none) dX1_canTake_19 (by decide) (not_congr (rO_none (fun b e => by have := bkF_lt e; omega))) (fun h19 => ?_) (fun h19 => ?_)
    · skip
      refine j_iconst (pc := 26) X (v := (nI 0)) dX1_canTake_26 (by decide) ?_
      exact j_endI (pc := 27) E dX1_canTake_27 (bI_f (by simp only [canT, decide_eq_false_iff_not]; exact fun q => h19 q.2)) rfl
    · skip
      refine j_iconst (pc := 22) X (v := (nI 1)) dX1_canTake_22 (by decide) ?_
      refine j_goto (pc := 23) X (tgt := 27) dX1_canTake_23 (by decide) ?_
      exact j_endI (pc := 27) E dX1_canTake_27 (bI_t (by simp only [canT, decide_eq_true_eq]; exact ⟨by omega, Decidable.not_not.mp h19⟩)) rfl
theorem cd_X1_pay : kCardV yX1_pay cX1_pay 3 none 2 := ⟨⟨wc_X1_pay, wi_X1, by decide +kernel, by decide +kernel, rfl⟩, wk_X1_pay, ws_X1_pay⟩
set_option maxHeartbeats 4000000 in
set_option maxRecDepth 100000 in
theorem c_X1_pay (l : Launch) (D : va_G) (tA : Nat → ClassId) (a : Nat → Nat) (s : Sg) (p c : Nat) (hP : (sP s).1 ≤ 8) (hp : p < (sP s).1) : Kx l D tA yX1_pay cX1_pay 3 none 2 47 [.ref (a 0), .int (nI p), .int (nI c)] (stW tA a s) none (stW tA a (payS s p c)) := by
  refine kx_void rfl (Nat.le_of_ble_eq_true rfl) (fun G X E => ?_)
  show J l D G 0 0 (stW tA a s) [(0, .ref (a 0)), (1, .int (nI p)), (2, .int (nI c))] 0 []
  refine j_aload_n (pc := 0) X dX1_pay_0 rfl (q := 0) rfl ?_
  refine j_get (pc := 1) X (C := RX1) (T := TX1) (N := 9) wz_X1 0 rfl rfl 1 (by decide) wf_X1_20 rfl dX1_pay_1 ?_
  refine j_iload_n (pc := 4) X dX1_pay_4 rfl (q := 1) rfl ?_
  refine j_iconst (pc := 5) X (v := (nI 0)) dX1_pay_5 (by decide) ?_
  refine j_iload_n (pc := 6) X dX1_pay_6 rfl (q := 2) rfl ?_
  refine j_callV (pc := 7) X (st := []) (w' := (stW tA a (uP s (tSet 2 (sP s) p 0 (tGet 2 (sP s) p 0 + c))))) (c_X2_increase l D tA (a 2) (a 7) 8 2 (sP s) p 0 (nI c) (tGet 2 (sP s) p 0 + c) (by first | assumption | omega | decide) (by first | assumption | omega | decide) (by first | assumption | omega | decide) (by first | assumption | omega | decide) (by first | assumption | omega | decide) (by first | assumption | omega | decide) (nI_add _ _)) cd_X2_increase wm_X1_95 4 rfl rfl rfl [4, 5] rfl rfl (tb_fst.trans tb_fst.symm) rfl ⟨Nat.le_of_ble_eq_true rfl, Nat.le_of_ble_eq_true rfl⟩ ⟨Nat.zero_le _, Nat.zero_le _⟩ rfl (Nat.le_of_ble_eq_true rfl) dX1_pay_7 ?_
  exact j_endV (pc := 10) E dX1_pay_10 rfl
theorem cd_X1_place : kCardV yX1_place cX1_place 4 none 3 := ⟨⟨wc_X1_place, wi_X1, by decide +kernel, by decide +kernel, rfl⟩, wk_X1_place, ws_X1_place⟩
set_option maxHeartbeats 4000000 in
set_option maxRecDepth 100000 in
theorem c_X1_place (l : Launch) (D : va_G) (tA : Nat → ClassId) (a : Nat → Nat) (s : Sg) (b m h : Nat) (hB : (sB s).1 ≤ 30) (hb : b < (sB s).1) (hh : h < 200) : Kx l D tA yX1_place cX1_place 4 none 1 24 [.ref (a 0), .int (nI b), .int (nI m), .int (nI h)] (stW tA a s) none (stW tA a (placeS s b m h)) := by
  refine kx_void rfl (Nat.le_of_ble_eq_true rfl) (fun G X E => ?_)
  show J l D G 0 0 (stW tA a s) [(0, .ref (a 0)), (1, .int (nI b)), (2, .int (nI m)), (3, .int (nI h))] 0 []
  refine j_aload_n (pc := 0) X dX1_place_0 rfl (q := 0) rfl ?_
  refine j_get (pc := 1) X (C := RX1) (T := TX1) (N := 9) wz_X1 0 rfl rfl 2 (by decide) wf_X1_23 rfl dX1_place_1 ?_
  refine j_iload_n (pc := 4) X dX1_place_4 rfl (q := 1) rfl ?_
  refine j_iconst (pc := 5) X (v := (nI 1)) dX1_place_5 (by decide) ?_
  refine j_iload_n (pc := 6) X dX1_place_6 rfl (q := 2) rfl ?_
  refine j_callV (pc := 7) X (st := []) (w' := (stW tA a (uB s (tSet 8 (sB s) b 1 m)))) (c_X2_set l D tA (a 3) (a 8) 30 8 (sB s) b 1 m (by decide) (by decide) (show (sB s).1 ≤ 30 by omega) (show b < (sB s).1 by omega) (by decide) (by decide)) cd_X2_set wm_X1_82 6 rfl rfl rfl [6, 7] rfl rfl (tb_fst.trans tb_fst.symm) rfl ⟨Nat.le_of_ble_eq_true rfl, Nat.le_of_ble_eq_true rfl⟩ ⟨Nat.zero_le _, Nat.zero_le _⟩ rfl (Nat.le_of_ble_eq_true rfl) dX1_place_7 ?_
  refine j_aload_n (pc := 10) X dX1_place_10 rfl (q := 0) rfl ?_
  refine j_get (pc := 11) X (C := RX1) (T := TX1) (N := 9) wz_X1 0 rfl rfl 2 (by decide) wf_X1_23 rfl dX1_place_11 ?_
  refine j_iload_n (pc := 14) X dX1_place_14 rfl (q := 1) rfl ?_
  refine j_iconst (pc := 15) X (v := (nI 2)) dX1_place_15 (by decide) ?_
  refine j_iload_n (pc := 16) X dX1_place_16 rfl (q := 3) rfl ?_
  refine j_callV (pc := 17) X (st := []) (w' := (stW tA a (uB s (tSet 8 (tSet 8 (sB s) b 1 m) b 2 h)))) (c_X2_set l D tA (a 3) (a 8) 30 8 (tSet 8 (sB s) b 1 m) b 2 h (by decide) (by decide) (show (sB s).1 ≤ 30 by omega) (show b < (sB s).1 by omega) (by decide) (by decide)) cd_X2_set wm_X1_82 6 rfl rfl rfl [6, 7] rfl rfl (tb_fst.trans tb_fst.symm) rfl ⟨Nat.le_of_ble_eq_true rfl, Nat.le_of_ble_eq_true rfl⟩ ⟨Nat.zero_le _, Nat.zero_le _⟩ rfl (Nat.le_of_ble_eq_true rfl) dX1_place_17 ?_
  refine j_aload_n (pc := 20) X dX1_place_20 rfl (q := 0) rfl ?_
  refine j_get (pc := 21) X (C := RX1) (T := TX1) (N := 9) wz_X1 0 rfl rfl 2 (by decide) wf_X1_23 rfl dX1_place_21 ?_
  refine j_iload_n (pc := 24) X dX1_place_24 rfl (q := 1) rfl ?_
  refine j_bipush (pc := 25) X (v := (nI 6)) dX1_place_25 (by decide) ?_
  refine j_aload_n (pc := 27) X dX1_place_27 rfl (q := 0) rfl ?_
  refine j_iload_n (pc := 28) X dX1_place_28 rfl (q := 3) rfl ?_
  refine j_callVR (pc := 29) X (st := [.int (nI 6), .int (nI b), .ref (a 3)])  (c_X1_windAt l D tA a (uB s (tSet 8 (tSet 8 (sB s) b 1 m) b 2 h)) h (by first | assumption | omega | decide)) cd_X1_windAt wm_X1_98 0 rfl rfl rfl [0, 1, 2, 3, 4, 5, 6, 7, 8, 9] rfl rfl ⟨Nat.le_of_ble_eq_true rfl, Nat.le_of_ble_eq_true rfl⟩ ⟨Nat.zero_le _, Nat.zero_le _⟩ rfl (Nat.le_of_ble_eq_true rfl) dX1_place_29 ?_
  refine j_callV (pc := 32) X (st := []) (w' := (stW tA a (uB s (tSet 8 (tSet 8 (tSet 8 (sB s) b 1 m) b 2 h) b 6 ((sW s) h))))) (c_X2_set l D tA (a 3) (a 8) 30 8 (tSet 8 (tSet 8 (sB s) b 1 m) b 2 h) b 6 ((sW s) h) (by decide) (by decide) (show (sB s).1 ≤ 30 by omega) (show b < (sB s).1 by omega) (by decide) (by decide)) cd_X2_set wm_X1_82 6 rfl rfl rfl [6, 7] rfl rfl (tb_fst.trans tb_fst.symm) rfl ⟨Nat.le_of_ble_eq_true rfl, Nat.le_of_ble_eq_true rfl⟩ ⟨Nat.zero_le _, Nat.zero_le _⟩ rfl (Nat.le_of_ble_eq_true rfl) dX1_place_32 ?_
  exact j_endV (pc := 35) E dX1_place_35 rfl
theorem cd_X1_isBooked : kCardV yX1_isBooked cX1_isBooked 2 (some .boolean) 1 := ⟨⟨wc_X1_isBooked, wi_X1, by decide +kernel, by decide +kernel, rfl⟩, wk_X1_isBooked, ws_X1_isBooked⟩
set_option maxHeartbeats 4000000 in
set_option maxRecDepth 100000 in
theorem c_X1_isBooked (l : Launch) (D : va_G) (tA : Nat → ClassId) (a : Nat → Nat) (s : Sg) (b : Nat) (hw : Wf s) (hb : b < (sB s).1) : Kx l D tA yX1_isBooked cX1_isBooked 2 (some .boolean) 1 23 [.ref (a 0), .int (nI b)] (stW tA a s) (some (.int (bI (decide (tGet 8 (sB s) b 5 = 0))))) (stW tA a s) := by
  refine kx_bool rfl (Nat.le_of_ble_eq_true rfl) (fun G X E => ?_)
  show J l D G 0 0 (stW tA a s) [(0, .ref (a 0)), (1, .int (nI b))] 0 []
  have hn := hw.n
  have hb0 := hw.b hb
  refine j_aload_n (pc := 0) X dX1_isBooked_0 rfl (q := 0) rfl ?_
  refine j_get (pc := 1) X (C := RX1) (T := TX1) (N := 9) wz_X1 0 rfl rfl 2 (by decide) wf_X1_23 rfl dX1_isBooked_1 ?_
  refine j_iload_n (pc := 4) X dX1_isBooked_4 rfl (q := 1) rfl ?_
  refine j_iconst (pc := 5) X (v := (nI 5)) dX1_isBooked_5 (by decide) ?_
  refine j_callVR (pc := 6) X (st := [])  (c_X2_get l D tA (a 3) (a 8) 30 8 (sB s) b 5 (by first | assumption | omega | decide) (by first | assumption | omega | decide) (by first | assumption | omega | decide) (by first | assumption | omega | decide) (by first | assumption | omega | decide) (by first | assumption | omega | decide)) cd_X2_get wm_X1_70 6 rfl rfl rfl [6, 7] rfl rfl ⟨Nat.le_of_ble_eq_true rfl, Nat.le_of_ble_eq_true rfl⟩ ⟨Nat.zero_le _, Nat.zero_le _⟩ rfl (Nat.le_of_ble_eq_true rfl) dX1_isBooked_6 ?_
  refine j_if_ne (pc := 9) X (tgt := 16) (P := ¬ (tGet 8 (sB s) b 5) = 0) dX1_isBooked_9 (by decide) (not_congr (nC_eq0 (by omega))) (fun h9 => ?_) (fun h9 => ?_)
  · skip
    refine j_iconst (pc := 16) X (v := (nI 0)) dX1_isBooked_16 (by decide) ?_
    exact j_endI (pc := 17) E dX1_isBooked_17 (bI_f (by simp only [decide_eq_false_iff_not]; omega)) rfl
  · skip
    refine j_iconst (pc := 12) X (v := (nI 1)) dX1_isBooked_12 (by decide) ?_
    refine j_goto (pc := 13) X (tgt := 17) dX1_isBooked_13 (by decide) ?_
    exact j_endI (pc := 17) E dX1_isBooked_17 (bI_t (by simp only [decide_eq_true_eq]; omega)) rfl
theorem cd_X1_limitOf : kCardV yX1_limitOf cX1_limitOf 2 (some .int) 1 := ⟨⟨wc_X1_limitOf, wi_X1, by decide +kernel, by decide +kernel, rfl⟩, wk_X1_limitOf, ws_X1_limitOf⟩
set_option maxHeartbeats 4000000 in
set_option maxRecDepth 100000 in
theorem c_X1_limitOf (l : Launch) (D : va_G) (tA : Nat → ClassId) (a : Nat → Nat) (s : Sg) (b : Nat) (hw : Wf s) (hb : b < (sB s).1) : Kx l D tA yX1_limitOf cX1_limitOf 2 (some .int) 2 34 [.ref (a 0), .int (nI b)] (stW tA a s) (some (.int (nI (limO (sB s) b)))) (stW tA a s) := by
  refine kx_int rfl (Nat.le_of_ble_eq_true rfl) (fun G X E => ?_)
  show J l D G 0 0 (stW tA a s) [(0, .ref (a 0)), (1, .int (nI b))] 0 []
  have hn := hw.n
  have hb0 := hw.b hb
  refine j_aload_n (pc := 0) X dX1_limitOf_0 rfl (q := 0) rfl ?_
  refine j_get (pc := 1) X (C := RX1) (T := TX1) (N := 9) wz_X1 0 rfl rfl 2 (by decide) wf_X1_23 rfl dX1_limitOf_1 ?_
  refine j_iload_n (pc := 4) X dX1_limitOf_4 rfl (q := 1) rfl ?_
  refine j_iconst (pc := 5) X (v := (nI 3)) dX1_limitOf_5 (by decide) ?_
  refine j_callVR (pc := 6) X (st := [])  (c_X2_get l D tA (a 3) (a 8) 30 8 (sB s) b 3 (by first | assumption | omega | decide) (by first | assumption | omega | decide) (by first | assumption | omega | decide) (by first | assumption | omega | decide) (by first | assumption | omega | decide) (by first | assumption | omega | decide)) cd_X2_get wm_X1_70 6 rfl rfl rfl [6, 7] rfl rfl ⟨Nat.le_of_ble_eq_true rfl, Nat.le_of_ble_eq_true rfl⟩ ⟨Nat.zero_le _, Nat.zero_le _⟩ rfl (Nat.le_of_ble_eq_true rfl) dX1_limitOf_6 ?_
  refine j_aload_n (pc := 9) X dX1_limitOf_9 rfl (q := 0) rfl ?_
  refine j_get (pc := 10) X (C := RX1) (T := TX1) (N := 9) wz_X1 0 rfl rfl 2 (by decide) wf_X1_23 rfl dX1_limitOf_10 ?_
  refine j_iload_n (pc := 13) X dX1_limitOf_13 rfl (q := 1) rfl ?_
  refine j_iconst (pc := 14) X (v := (nI 4)) dX1_limitOf_14 (by decide) ?_
  refine j_callVR (pc := 15) X (st := [.int (nI (tGet 8 (sB s) b 3))])  (c_X2_get l D tA (a 3) (a 8) 30 8 (sB s) b 4 (by first | assumption | omega | decide) (by first | assumption | omega | decide) (by first | assumption | omega | decide) (by first | assumption | omega | decide) (by first | assumption | omega | decide) (by first | assumption | omega | decide)) cd_X2_get wm_X1_70 6 rfl rfl rfl [6, 7] rfl rfl ⟨Nat.le_of_ble_eq_true rfl, Nat.le_of_ble_eq_true rfl⟩ ⟨Nat.zero_le _, Nat.zero_le _⟩ rfl (Nat.le_of_ble_eq_true rfl) dX1_limitOf_15 ?_
  refine j_callNR (pc := 18) X (st := [])  (c_X4_limitFor l D tA (tGet 8 (sB s) b 3) (tGet 8 (sB s) b 4) (by first | assumption | omega | decide) (by first | assumption | omega | decide)) cd_X4_limitFor X.2.2.2.2.2.1.2.2.1 [] rfl rfl ⟨Nat.le_of_ble_eq_true rfl, Nat.le_of_ble_eq_true rfl⟩ ⟨Nat.zero_le _, Nat.zero_le _⟩ rfl (Nat.le_of_ble_eq_true rfl) dX1_limitOf_18 ?_
  exact j_endI (pc := 21) E dX1_limitOf_21 rfl rfl
theorem cd_X1_bearsLiftOf : kCardV yX1_bearsLiftOf cX1_bearsLiftOf 3 (some .boolean) 2 := ⟨⟨wc_X1_bearsLiftOf, wi_X1, by decide +kernel, by decide +kernel, rfl⟩, wk_X1_bearsLiftOf, ws_X1_bearsLiftOf⟩
set_option maxHeartbeats 4000000 in
set_option maxRecDepth 100000 in
theorem c_X1_bearsLiftOf (l : Launch) (D : va_G) (tA : Nat → ClassId) (a : Nat → Nat) (s : Sg) (m b : Nat) (hw : Wf s) (hm : m < (sM s).1) (hb : b < (sB s).1) : Kx l D tA yX1_bearsLiftOf cX1_bearsLiftOf 3 (some .boolean) 2 48 [.ref (a 0), .int (nI m), .int (nI b)] (stW tA a s) (some (.int (bI (brsB s m b)))) (stW tA a s) := by
  refine kx_bool rfl (Nat.le_of_ble_eq_true rfl) (fun G X E => ?_)
  show J l D G 0 0 (stW tA a s) [(0, .ref (a 0)), (1, .int (nI m)), (2, .int (nI b))] 0 []
  have hn := hw.n
  have hb0 := hw.b hb
  have hbr := brn_lt hw hm (r := tGet 8 (sB s) b 4)
  refine j_aload_n (pc := 0) X dX1_bearsLiftOf_0 rfl (q := 0) rfl ?_
  refine j_get (pc := 1) X (C := RX1) (T := TX1) (N := 9) wz_X1 0 rfl rfl 2 (by decide) wf_X1_23 rfl dX1_bearsLiftOf_1 ?_
  refine j_iload_n (pc := 4) X dX1_bearsLiftOf_4 rfl (q := 2) rfl ?_
  refine j_iconst (pc := 5) X (v := (nI 3)) dX1_bearsLiftOf_5 (by decide) ?_
  refine j_callVR (pc := 6) X (st := [])  (c_X2_get l D tA (a 3) (a 8) 30 8 (sB s) b 3 (by first | assumption | omega | decide) (by first | assumption | omega | decide) (by first | assumption | omega | decide) (by first | assumption | omega | decide) (by first | assumption | omega | decide) (by first | assumption | omega | decide)) cd_X2_get wm_X1_70 6 rfl rfl rfl [6, 7] rfl rfl ⟨Nat.le_of_ble_eq_true rfl, Nat.le_of_ble_eq_true rfl⟩ ⟨Nat.zero_le _, Nat.zero_le _⟩ rfl (Nat.le_of_ble_eq_true rfl) dX1_bearsLiftOf_6 ?_
  refine j_aload_n (pc := 9) X dX1_bearsLiftOf_9 rfl (q := 0) rfl ?_
  refine j_iload_n (pc := 10) X dX1_bearsLiftOf_10 rfl (q := 1) rfl ?_
  refine j_aload_n (pc := 11) X dX1_bearsLiftOf_11 rfl (q := 0) rfl ?_
  refine j_get (pc := 12) X (C := RX1) (T := TX1) (N := 9) wz_X1 0 rfl rfl 2 (by decide) wf_X1_23 rfl dX1_bearsLiftOf_12 ?_
  refine j_iload_n (pc := 15) X dX1_bearsLiftOf_15 rfl (q := 2) rfl ?_
  refine j_iconst (pc := 16) X (v := (nI 4)) dX1_bearsLiftOf_16 (by decide) ?_
  refine j_callVR (pc := 17) X (st := [.int (nI m), .ref (a 0), .int (nI (tGet 8 (sB s) b 3))])  (c_X2_get l D tA (a 3) (a 8) 30 8 (sB s) b 4 (by first | assumption | omega | decide) (by first | assumption | omega | decide) (by first | assumption | omega | decide) (by first | assumption | omega | decide) (by first | assumption | omega | decide) (by first | assumption | omega | decide)) cd_X2_get wm_X1_70 6 rfl rfl rfl [6, 7] rfl rfl ⟨Nat.le_of_ble_eq_true rfl, Nat.le_of_ble_eq_true rfl⟩ ⟨Nat.zero_le _, Nat.zero_le _⟩ rfl (Nat.le_of_ble_eq_true rfl) dX1_bearsLiftOf_17 ?_
  refine j_callVR (pc := 20) X (st := [.int (nI (tGet 8 (sB s) b 3))])  (c_X1_borneBy l D tA a s m (tGet 8 (sB s) b 4) (by first | assumption | omega | decide) (by first | assumption | omega | decide) (by first | assumption | omega | decide)) cd_X1_borneBy wm_X1_89 0 rfl rfl rfl [0, 1, 2, 3, 4, 5, 6, 7, 8, 9] rfl rfl ⟨Nat.le_of_ble_eq_true rfl, Nat.le_of_ble_eq_true rfl⟩ ⟨Nat.zero_le _, Nat.zero_le _⟩ rfl (Nat.le_of_ble_eq_true rfl) dX1_bearsLiftOf_20 ?_
  refine j_icmp_gt (pc := 23) X (tgt := 30) (P := (brn (sM s) m (tGet 8 (sB s) b 4)) < (tGet 8 (sB s) b 3)) dX1_bearsLiftOf_23 (by decide) (nI_ltI (by omega) (by omega)) (fun h23 => ?_) (fun h23 => ?_)
  · skip
    refine j_iconst (pc := 30) X (v := (nI 0)) dX1_bearsLiftOf_30 (by decide) ?_
    exact j_endI (pc := 31) E dX1_bearsLiftOf_31 (bI_f (by simp only [brsB, decide_eq_false_iff_not]; omega)) rfl
  · skip
    refine j_iconst (pc := 26) X (v := (nI 1)) dX1_bearsLiftOf_26 (by decide) ?_
    refine j_goto (pc := 27) X (tgt := 31) dX1_bearsLiftOf_27 (by decide) ?_
    exact j_endI (pc := 31) E dX1_bearsLiftOf_31 (bI_t (by simp only [brsB, decide_eq_true_eq]; omega)) rfl
theorem cd_X1_mustStandBy : kCardV yX1_mustStandBy cX1_mustStandBy 2 (some .boolean) 1 := ⟨⟨wc_X1_mustStandBy, wi_X1, by decide +kernel, by decide +kernel, rfl⟩, wk_X1_mustStandBy, ws_X1_mustStandBy⟩
set_option maxHeartbeats 4000000 in
set_option maxRecDepth 100000 in
theorem c_X1_mustStandBy (l : Launch) (D : va_G) (tA : Nat → ClassId) (a : Nat → Nat) (s : Sg) (b : Nat) (hw : Wf s) (hb : b < (sB s).1) : Kx l D tA yX1_mustStandBy cX1_mustStandBy 2 (some .boolean) 3 70 [.ref (a 0), .int (nI b)] (stW tA a s) (some (.int (bI (must s b)))) (stW tA a s) := by
  refine kx_bool rfl (Nat.le_of_ble_eq_true rfl) (fun G X E => ?_)
  show J l D G 0 0 (stW tA a s) [(0, .ref (a 0)), (1, .int (nI b))] 0 []
  have hn := hw.n
  have hb0 := hw.b hb
  have hli := limN_le (tGet 8 (sB s) b 3) (tGet 8 (sB s) b 4)
  have hli : limO (sB s) b ≤ 60 := hli
  have hwi := hw.w hb0.2.2.1
  refine j_aload_n (pc := 0) X dX1_mustStandBy_0 rfl (q := 0) rfl ?_
  refine j_aload_n (pc := 1) X dX1_mustStandBy_1 rfl (q := 0) rfl ?_
  refine j_get (pc := 2) X (C := RX1) (T := TX1) (N := 9) wz_X1 0 rfl rfl 2 (by decide) wf_X1_23 rfl dX1_mustStandBy_2 ?_
  refine j_iload_n (pc := 5) X dX1_mustStandBy_5 rfl (q := 1) rfl ?_
  refine j_iconst (pc := 6) X (v := (nI 1)) dX1_mustStandBy_6 (by decide) ?_
  refine j_callVR (pc := 7) X (st := [.ref (a 0)])  (c_X2_get l D tA (a 3) (a 8) 30 8 (sB s) b 1 (by first | assumption | omega | decide) (by first | assumption | omega | decide) (by first | assumption | omega | decide) (by first | assumption | omega | decide) (by first | assumption | omega | decide) (by first | assumption | omega | decide)) cd_X2_get wm_X1_70 6 rfl rfl rfl [6, 7] rfl rfl ⟨Nat.le_of_ble_eq_true rfl, Nat.le_of_ble_eq_true rfl⟩ ⟨Nat.zero_le _, Nat.zero_le _⟩ rfl (Nat.le_of_ble_eq_true rfl) dX1_mustStandBy_7 ?_
  refine j_iload_n (pc := 10) X dX1_mustStandBy_10 rfl (q := 1) rfl ?_
  refine j_callVR (pc := 11) X (st := [])  (c_X1_bearsLiftOf l D tA a s (tGet 8 (sB s) b 1) b (by first | assumption | omega | decide) (by first | assumption | omega | decide) (by first | assumption | omega | decide)) cd_X1_bearsLiftOf wm_X1_105 0 rfl rfl rfl [0, 1, 2, 3, 4, 5, 6, 7, 8, 9] rfl rfl ⟨Nat.le_of_ble_eq_true rfl, Nat.le_of_ble_eq_true rfl⟩ ⟨Nat.zero_le _, Nat.zero_le _⟩ rfl (Nat.le_of_ble_eq_true rfl) dX1_mustStandBy_11 ?_
  refine j_if_eq (pc := 14) X (tgt := 38) (P := (brsB s (tGet 8 (sB s) b 1) b) = false) dX1_mustStandBy_14 (by decide) (bI_0 _) (fun h14 => ?_) (fun h14 => ?_)
  · skip
    refine j_iconst (pc := 38) X (v := (nI 1)) dX1_mustStandBy_38 (by decide) ?_
    refine j_goto (pc := 39) X (tgt := 43) dX1_mustStandBy_39 (by decide) ?_
    exact j_endI (pc := 43) E dX1_mustStandBy_43 (bI_t (by simp only [must, decide_eq_true_eq]; exact Or.inl h14)) rfl
  · skip
    refine j_aload_n (pc := 17) X dX1_mustStandBy_17 rfl (q := 0) rfl ?_
    refine j_aload_n (pc := 18) X dX1_mustStandBy_18 rfl (q := 0) rfl ?_
    refine j_get (pc := 19) X (C := RX1) (T := TX1) (N := 9) wz_X1 0 rfl rfl 2 (by decide) wf_X1_23 rfl dX1_mustStandBy_19 ?_
    refine j_iload_n (pc := 22) X dX1_mustStandBy_22 rfl (q := 1) rfl ?_
    refine j_iconst (pc := 23) X (v := (nI 2)) dX1_mustStandBy_23 (by decide) ?_
    refine j_callVR (pc := 24) X (st := [.ref (a 0)])  (c_X2_get l D tA (a 3) (a 8) 30 8 (sB s) b 2 (by first | assumption | omega | decide) (by first | assumption | omega | decide) (by first | assumption | omega | decide) (by first | assumption | omega | decide) (by first | assumption | omega | decide) (by first | assumption | omega | decide)) cd_X2_get wm_X1_70 6 rfl rfl rfl [6, 7] rfl rfl ⟨Nat.le_of_ble_eq_true rfl, Nat.le_of_ble_eq_true rfl⟩ ⟨Nat.zero_le _, Nat.zero_le _⟩ rfl (Nat.le_of_ble_eq_true rfl) dX1_mustStandBy_24 ?_
    refine j_callVR (pc := 27) X (st := [])  (c_X1_windAt l D tA a s (tGet 8 (sB s) b 2) (by first | assumption | omega | decide)) cd_X1_windAt wm_X1_98 0 rfl rfl rfl [0, 1, 2, 3, 4, 5, 6, 7, 8, 9] rfl rfl ⟨Nat.le_of_ble_eq_true rfl, Nat.le_of_ble_eq_true rfl⟩ ⟨Nat.zero_le _, Nat.zero_le _⟩ rfl (Nat.le_of_ble_eq_true rfl) dX1_mustStandBy_27 ?_
    refine j_aload_n (pc := 30) X dX1_mustStandBy_30 rfl (q := 0) rfl ?_
    refine j_iload_n (pc := 31) X dX1_mustStandBy_31 rfl (q := 1) rfl ?_
    refine j_callVR (pc := 32) X (st := [.int (nI ((sW s) (tGet 8 (sB s) b 2)))])  (c_X1_limitOf l D tA a s b (by first | assumption | omega | decide) (by first | assumption | omega | decide)) cd_X1_limitOf wm_X1_109 0 rfl rfl rfl [0, 1, 2, 3, 4, 5, 6, 7, 8, 9] rfl rfl ⟨Nat.le_of_ble_eq_true rfl, Nat.le_of_ble_eq_true rfl⟩ ⟨Nat.zero_le _, Nat.zero_le _⟩ rfl (Nat.le_of_ble_eq_true rfl) dX1_mustStandBy_32 ?_
    refine j_icmp_le (pc := 35) X (tgt := 42) (P := ((sW s) (tGet 8 (sB s) b 2)) ≤ (limO (sB s) b)) dX1_mustStandBy_35 (by decide) (nI_leI (by omega) (by omega)) (fun h35 => ?_) (fun h35 => ?_)
    · skip
      refine j_iconst (pc := 42) X (v := (nI 0)) dX1_mustStandBy_42 (by decide) ?_
      exact j_endI (pc := 43) E dX1_mustStandBy_43 (bI_f (by simp only [must, decide_eq_false_iff_not]; exact fun q => q.elim (fun q => h14 q) (fun q => absurd q (by omega)))) rfl
    · skip
      refine j_iconst (pc := 38) X (v := (nI 1)) dX1_mustStandBy_38 (by decide) ?_
      refine j_goto (pc := 39) X (tgt := 43) dX1_mustStandBy_39 (by decide) ?_
      exact j_endI (pc := 43) E dX1_mustStandBy_43 (bI_t (by simp only [must, decide_eq_true_eq]; exact Or.inr (by omega))) rfl
theorem cd_X1_causerOf : kCardV yX1_causerOf cX1_causerOf 4 (some .int) 1 := ⟨⟨wc_X1_causerOf, wi_X1, by decide +kernel, by decide +kernel, rfl⟩, wk_X1_causerOf, ws_X1_causerOf⟩
set_option maxHeartbeats 4000000 in
set_option maxRecDepth 100000 in
theorem c_X1_causerOf (l : Launch) (D : va_G) (tA : Nat → ClassId) (a : Nat → Nat) (s : Sg) (b : Nat) (hw : Wf s) (hb : b < (sB s).1) : Kx l D tA yX1_causerOf cX1_causerOf 4 (some .int) 3 70 [.ref (a 0), .int (nI b)] (stW tA a s) (some (.int (rO (caus s b)))) (stW tA a s) := by
  refine kx_int rfl (Nat.le_of_ble_eq_true rfl) (fun G X E => ?_)
  show J l D G 0 0 (stW tA a s) [(0, .ref (a 0)), (1, .int (nI b))] 0 []
  have hn := hw.n
  have hb0 := hw.b hb
  have hli := limN_le (tGet 8 (sB s) b 3) (tGet 8 (sB s) b 4)
  have hli : limO (sB s) b ≤ 60 := hli
  refine j_aload_n (pc := 0) X dX1_causerOf_0 rfl (q := 0) rfl ?_
  refine j_get (pc := 1) X (C := RX1) (T := TX1) (N := 9) wz_X1 0 rfl rfl 2 (by decide) wf_X1_23 rfl dX1_causerOf_1 ?_
  refine j_iload_n (pc := 4) X dX1_causerOf_4 rfl (q := 1) rfl ?_
  refine j_iconst (pc := 5) X (v := (nI 1)) dX1_causerOf_5 (by decide) ?_
  refine j_callVR (pc := 6) X (st := [])  (c_X2_get l D tA (a 3) (a 8) 30 8 (sB s) b 1 (by first | assumption | omega | decide) (by first | assumption | omega | decide) (by first | assumption | omega | decide) (by first | assumption | omega | decide) (by first | assumption | omega | decide) (by first | assumption | omega | decide)) cd_X2_get wm_X1_70 6 rfl rfl rfl [6, 7] rfl rfl ⟨Nat.le_of_ble_eq_true rfl, Nat.le_of_ble_eq_true rfl⟩ ⟨Nat.zero_le _, Nat.zero_le _⟩ rfl (Nat.le_of_ble_eq_true rfl) dX1_causerOf_6 ?_
  refine j_istore_n (pc := 9) X (lv' := [(2, .int (nI (tGet 8 (sB s) b 1))), (0, .ref (a 0)), (1, .int (nI b))]) dX1_causerOf_9 rfl (by decide) rfl ?_
  refine j_aload_n (pc := 10) X dX1_causerOf_10 rfl (q := 1) rfl ?_
  refine j_iload_n (pc := 11) X dX1_causerOf_11 rfl (q := 0) rfl ?_
  refine j_iload_n (pc := 12) X dX1_causerOf_12 rfl (q := 2) rfl ?_
  refine j_callVR (pc := 13) X (st := [])  (c_X1_bearsLiftOf l D tA a s (tGet 8 (sB s) b 1) b (by first | assumption | omega | decide) (by first | assumption | omega | decide) (by first | assumption | omega | decide)) cd_X1_bearsLiftOf wm_X1_105 0 rfl rfl rfl [0, 1, 2, 3, 4, 5, 6, 7, 8, 9] rfl rfl ⟨Nat.le_of_ble_eq_true rfl, Nat.le_of_ble_eq_true rfl⟩ ⟨Nat.zero_le _, Nat.zero_le _⟩ rfl (Nat.le_of_ble_eq_true rfl) dX1_causerOf_13 ?_
  refine j_if_ne (pc := 16) X (tgt := 29) (P := (brsB s (tGet 8 (sB s) b 1) b) = true) dX1_causerOf_16 (by decide) (bI_n0 _) (fun h16 => ?_) (fun h16 => ?_)
  · skip
    refine j_aload_n (pc := 29) X dX1_causerOf_29 rfl (q := 1) rfl ?_
    refine j_get (pc := 30) X (C := RX1) (T := TX1) (N := 9) wz_X1 0 rfl rfl 2 (by decide) wf_X1_23 rfl dX1_causerOf_30 ?_
    refine j_iload_n (pc := 33) X dX1_causerOf_33 rfl (q := 2) rfl ?_
    refine j_bipush (pc := 34) X (v := (nI 6)) dX1_causerOf_34 (by decide) ?_
    refine j_callVR (pc := 36) X (st := [])  (c_X2_get l D tA (a 3) (a 8) 30 8 (sB s) b 6 (by first | assumption | omega | decide) (by first | assumption | omega | decide) (by first | assumption | omega | decide) (by first | assumption | omega | decide) (by first | assumption | omega | decide) (by first | assumption | omega | decide)) cd_X2_get wm_X1_70 6 rfl rfl rfl [6, 7] rfl rfl ⟨Nat.le_of_ble_eq_true rfl, Nat.le_of_ble_eq_true rfl⟩ ⟨Nat.zero_le _, Nat.zero_le _⟩ rfl (Nat.le_of_ble_eq_true rfl) dX1_causerOf_36 ?_
    refine j_aload_n (pc := 39) X dX1_causerOf_39 rfl (q := 1) rfl ?_
    refine j_iload_n (pc := 40) X dX1_causerOf_40 rfl (q := 2) rfl ?_
    refine j_callVR (pc := 41) X (st := [.int (nI (tGet 8 (sB s) b 6))])  (c_X1_limitOf l D tA a s b (by first | assumption | omega | decide) (by first | assumption | omega | decide)) cd_X1_limitOf wm_X1_109 0 rfl rfl rfl [0, 1, 2, 3, 4, 5, 6, 7, 8, 9] rfl rfl ⟨Nat.le_of_ble_eq_true rfl, Nat.le_of_ble_eq_true rfl⟩ ⟨Nat.zero_le _, Nat.zero_le _⟩ rfl (Nat.le_of_ble_eq_true rfl) dX1_causerOf_41 ?_
    refine j_icmp_le (pc := 44) X (tgt := 51) (P := (tGet 8 (sB s) b 6) ≤ (limO (sB s) b)) dX1_causerOf_44 (by decide) (nI_leI (by omega) (by omega)) (fun h44 => ?_) (fun h44 => ?_)
    · skip
      refine j_iconst (pc := 51) X (v := (nI 0)) dX1_causerOf_51 (by decide) ?_
      refine j_istore_n (pc := 52) X (lv' := [(3, .int (nI 0)), (2, .int (nI (tGet 8 (sB s) b 1))), (0, .ref (a 0)), (1, .int (nI b))]) dX1_causerOf_52 rfl (by decide) rfl ?_
      refine j_iload_n (pc := 53) X dX1_causerOf_53 rfl (q := 0) rfl ?_
      refine j_if_eq_t (pc := 54) X (tgt := 69) dX1_causerOf_54 (by decide) nI_0 ?_
      refine j_bipush (pc := 69) X (v := (-5)) dX1_causerOf_69 (by decide) ?_
      exact j_endI (pc := 71) E dX1_causerOf_71 (by rw [caus, if_pos h16, if_neg (by omega)]; rfl) rfl
    · skip
      refine j_iconst (pc := 47) X (v := (nI 1)) dX1_causerOf_47 (by decide) ?_
      refine j_goto (pc := 48) X (tgt := 52) dX1_causerOf_48 (by decide) ?_
      refine j_istore_n (pc := 52) X (lv' := [(3, .int (nI 1)), (2, .int (nI (tGet 8 (sB s) b 1))), (0, .ref (a 0)), (1, .int (nI b))]) dX1_causerOf_52 rfl (by decide) rfl ?_
      refine j_iload_n (pc := 53) X dX1_causerOf_53 rfl (q := 0) rfl ?_
      refine j_if_eq_f (pc := 54) X (tgt := 69) dX1_causerOf_54 (by decide) (nI_ne0 (n := 1) (by decide) (by decide)) ?_
      refine j_aload_n (pc := 57) X dX1_causerOf_57 rfl (q := 2) rfl ?_
      refine j_get (pc := 58) X (C := RX1) (T := TX1) (N := 9) wz_X1 0 rfl rfl 2 (by decide) wf_X1_23 rfl dX1_causerOf_58 ?_
      refine j_iload_n (pc := 61) X dX1_causerOf_61 rfl (q := 3) rfl ?_
      refine j_iconst (pc := 62) X (v := (nI 0)) dX1_causerOf_62 (by decide) ?_
      refine j_callVR (pc := 63) X (st := [])  (c_X2_get l D tA (a 3) (a 8) 30 8 (sB s) b 0 (by first | assumption | omega | decide) (by first | assumption | omega | decide) (by first | assumption | omega | decide) (by first | assumption | omega | decide) (by first | assumption | omega | decide) (by first | assumption | omega | decide)) cd_X2_get wm_X1_70 6 rfl rfl rfl [6, 7] rfl rfl ⟨Nat.le_of_ble_eq_true rfl, Nat.le_of_ble_eq_true rfl⟩ ⟨Nat.zero_le _, Nat.zero_le _⟩ rfl (Nat.le_of_ble_eq_true rfl) dX1_causerOf_63 ?_
      refine j_goto (pc := 66) X (tgt := 71) dX1_causerOf_66 (by decide) ?_
      exact j_endI (pc := 71) E dX1_causerOf_71 (by rw [caus, if_pos h16, if_pos (by omega)]; rfl) rfl
  · skip
    refine j_aload_n (pc := 19) X dX1_causerOf_19 rfl (q := 1) rfl ?_
    refine j_get (pc := 20) X (C := RX1) (T := TX1) (N := 9) wz_X1 0 rfl rfl 0 (by decide) wf_X1_14 rfl dX1_causerOf_20 ?_
    refine j_iload_n (pc := 23) X dX1_causerOf_23 rfl (q := 0) rfl ?_
    refine j_iconst (pc := 24) X (v := (nI 2)) dX1_causerOf_24 (by decide) ?_
    refine j_callVR (pc := 25) X (st := [])  (c_X2_get l D tA (a 1) (a 6) 5 3 (sM s) (tGet 8 (sB s) b 1) 2 (by first | assumption | omega | decide) (by first | assumption | omega | decide) (by first | assumption | omega | decide) (by first | assumption | omega | decide) (by first | assumption | omega | decide) (by first | assumption | omega | decide)) cd_X2_get wm_X1_70 2 rfl rfl rfl [2, 3] rfl rfl ⟨Nat.le_of_ble_eq_true rfl, Nat.le_of_ble_eq_true rfl⟩ ⟨Nat.zero_le _, Nat.zero_le _⟩ rfl (Nat.le_of_ble_eq_true rfl) dX1_causerOf_25 ?_
    exact j_endI (pc := 28) E dX1_causerOf_28 (by rw [caus, if_neg h16, rO_noO]) rfl
theorem cd_X1_nextMoveUpTo : kCardV yX1_nextMoveUpTo cX1_nextMoveUpTo 5 (some .int) 1 := ⟨⟨wc_X1_nextMoveUpTo, wi_X1, by decide +kernel, by decide +kernel, rfl⟩, wk_X1_nextMoveUpTo, ws_X1_nextMoveUpTo⟩
set_option maxHeartbeats 4000000 in
set_option maxRecDepth 100000 in
theorem c_X1_nextMoveUpTo (l : Launch) (D : va_G) (tA : Nat → ClassId) (a : Nat → Nat) (s : Sg) (h : Nat) (hw : Wf s) (hh : h < 65536) : Kx l D tA yX1_nextMoveUpTo cX1_nextMoveUpTo 5 (some .int) 1 23 [.ref (a 0), .int (nI h)] (stW tA a s) (some (.int (rO (nxt (sV s) h)))) (stW tA a s) := by
  refine kx_int rfl (Nat.le_of_ble_eq_true rfl) (fun G X E => ?_)
  show J l D G 0 0 (stW tA a s) [(0, .ref (a 0)), (1, .int (nI h))] 0 []
  have hn := hw.n
  refine j_bipush (pc := 0) X (v := (-5)) dX1_nextMoveUpTo_0 (by decide) ?_
  refine j_istore_n (pc := 2) X (lv' := [(2, .int (-5)), (0, .ref (a 0)), (1, .int (nI h))]) dX1_nextMoveUpTo_2 rfl (by decide) rfl ?_
  refine j_iload_n (pc := 3) X dX1_nextMoveUpTo_3 rfl (q := 2) rfl ?_
  refine j_iconst (pc := 4) X (v := (nI 1)) dX1_nextMoveUpTo_4 (by decide) ?_
  refine j_iadd (pc := 5) X (v := (nI (h + 1))) dX1_nextMoveUpTo_5 (nI_add _ _) ?_
  refine j_istore_n (pc := 6) X (lv' := [(3, .int (nI (h + 1))), (2, .int (-5)), (0, .ref (a 0)), (1, .int (nI h))]) dX1_nextMoveUpTo_6 rfl (by decide) rfl ?_
  refine j_iconst (pc := 7) X (v := (nI 0)) dX1_nextMoveUpTo_7 (by decide) ?_
  refine j_istore (pc := 8) X (lv' := [(4, .int (nI 0)), (3, .int (nI (h + 1))), (2, .int (-5)), (0, .ref (a 0)), (1, .int (nI h))]) dX1_nextMoveUpTo_8 (by decide) rfl ?_
  have L_10 : ∀ (fu : Nat) (i e : Nat) (ob : Option Nat), i ≤ (sV s).1 → (ob, e) = nxA (sV s) h i → (sV s).1 - i < fu → J l D G 0 0 (stW tA a s) [(0, .ref (a 0)), (1, .int (nI h)), (2, .int (rO ob)), (3, .int (nI e)), (4, .int (nI i))] 10 [] := by
    intro fu
    induction fu with
    | zero => intro i e ob hi ho hfu; exact absurd hfu (Nat.not_lt_zero _)
    | succ fu ih_10 =>
      intro i e ob hi ho hfu
      have he : e ≤ h + 1 := by have := nxA_le (sV s) h i; rw [← ho] at this; exact this
      refine j_iload (pc := 10) X dX1_nextMoveUpTo_10 (q := 4) rfl ?_
      refine j_aload_n (pc := 12) X dX1_nextMoveUpTo_12 rfl (q := 0) rfl ?_
      refine j_get (pc := 13) X (C := RX1) (T := TX1) (N := 9) wz_X1 0 rfl rfl 3 (by decide) wf_X1_26 rfl dX1_nextMoveUpTo_13 ?_
      refine j_callVR (pc := 16) X (st := [.int (nI i)])  (c_X2_size l D tA (a 4) (a 9) 10 5 (sV s)  ) cd_X2_size wm_X1_66 8 rfl rfl rfl [8, 9] rfl rfl ⟨Nat.le_of_ble_eq_true rfl, Nat.le_of_ble_eq_true rfl⟩ ⟨Nat.zero_le _, Nat.zero_le _⟩ rfl (Nat.le_of_ble_eq_true rfl) dX1_nextMoveUpTo_16 ?_
      refine j_icmp_ge (pc := 19) X (tgt := 56) (P := ((sV s).1) ≤ i) dX1_nextMoveUpTo_19 (by decide) (nI_leI (by omega) (by omega)) (fun h19 => ?_) (fun h19 => ?_)
      · skip
        refine j_iload_n (pc := 56) X dX1_nextMoveUpTo_56 rfl (q := 2) rfl ?_
        exact j_endI (pc := 57) E dX1_nextMoveUpTo_57 (by rw [nxt, ← show i = (sV s).1 by omega, ← ho]) rfl
      · skip
        refine j_aload_n (pc := 22) X dX1_nextMoveUpTo_22 rfl (q := 0) rfl ?_
        refine j_get (pc := 23) X (C := RX1) (T := TX1) (N := 9) wz_X1 0 rfl rfl 3 (by decide) wf_X1_26 rfl dX1_nextMoveUpTo_23 ?_
        refine j_iload (pc := 26) X dX1_nextMoveUpTo_26 (q := 4) rfl ?_
        refine j_iconst (pc := 28) X (v := (nI 4)) dX1_nextMoveUpTo_28 (by decide) ?_
        refine j_callVR (pc := 29) X (st := [])  (c_X2_get l D tA (a 4) (a 9) 10 5 (sV s) i 4 (by first | assumption | omega | decide) (by first | assumption | omega | decide) (by first | assumption | omega | decide) (by first | assumption | omega | decide) (by first | assumption | omega | decide) (by first | assumption | omega | decide)) cd_X2_get wm_X1_70 8 rfl rfl rfl [8, 9] rfl rfl ⟨Nat.le_of_ble_eq_true rfl, Nat.le_of_ble_eq_true rfl⟩ ⟨Nat.zero_le _, Nat.zero_le _⟩ rfl (Nat.le_of_ble_eq_true rfl) dX1_nextMoveUpTo_29 ?_
        have hv := hw.v (show i < (sV s).1 by omega)
        refine j_iload_n (pc := 32) X dX1_nextMoveUpTo_32 rfl (q := 3) rfl ?_
        refine j_icmp_ge (pc := 33) X (tgt := 50) (P := e ≤ (tGet 5 (sV s) i 4)) dX1_nextMoveUpTo_33 (by decide) (nI_leI (by omega) (by omega)) (fun h33 => ?_) (fun h33 => ?_)
        · skip
          refine j_iinc (pc := 50) X (v := (nI (i + 1))) (lv' := [(4, .int (nI (i + 1))), (0, .ref (a 0)), (1, .int (nI h)), (2, .int (rO ob)), (3, .int (nI e))]) dX1_nextMoveUpTo_50 (q := 4) rfl (nI_add _ _) (by decide) rfl ?_
          refine j_goto (pc := 53) X (tgt := 10) dX1_nextMoveUpTo_53 (by decide) ?_
          refine j_lv X (lv' := [(0, .ref (a 0)), (1, .int (nI h)), (2, .int (rO ob)), (3, .int (nI e)), (4, .int (nI (i + 1)))]) [1, 2, 3, 4, 0] rfl ?_
          exact ih_10 (i + 1) e ob (by omega) (by rw [nxA, if_neg (by rw [← ho]; exact Nat.not_lt.mpr h33)]; exact ho) (by omega)
        · skip
          refine j_iload (pc := 36) X dX1_nextMoveUpTo_36 (q := 4) rfl ?_
          refine j_istore_n (pc := 38) X (lv' := [(2, .int (nI i)), (0, .ref (a 0)), (1, .int (nI h)), (3, .int (nI e)), (4, .int (nI i))]) dX1_nextMoveUpTo_38 rfl (by decide) rfl ?_
          refine j_aload_n (pc := 39) X dX1_nextMoveUpTo_39 rfl (q := 1) rfl ?_
          refine j_get (pc := 40) X (C := RX1) (T := TX1) (N := 9) wz_X1 0 rfl rfl 3 (by decide) wf_X1_26 rfl dX1_nextMoveUpTo_40 ?_
          refine j_iload (pc := 43) X dX1_nextMoveUpTo_43 (q := 4) rfl ?_
          refine j_iconst (pc := 45) X (v := (nI 4)) dX1_nextMoveUpTo_45 (by decide) ?_
          refine j_callVR (pc := 46) X (st := [])  (c_X2_get l D tA (a 4) (a 9) 10 5 (sV s) i 4 (by first | assumption | omega | decide) (by first | assumption | omega | decide) (by first | assumption | omega | decide) (by first | assumption | omega | decide) (by first | assumption | omega | decide) (by first | assumption | omega | decide)) cd_X2_get wm_X1_70 8 rfl rfl rfl [8, 9] rfl rfl ⟨Nat.le_of_ble_eq_true rfl, Nat.le_of_ble_eq_true rfl⟩ ⟨Nat.zero_le _, Nat.zero_le _⟩ rfl (Nat.le_of_ble_eq_true rfl) dX1_nextMoveUpTo_46 ?_
          refine j_istore_n (pc := 49) X (lv' := [(3, .int (nI (tGet 5 (sV s) i 4))), (2, .int (nI i)), (0, .ref (a 0)), (1, .int (nI h)), (4, .int (nI i))]) dX1_nextMoveUpTo_49 rfl (by decide) rfl ?_
          refine j_iinc (pc := 50) X (v := (nI (i + 1))) (lv' := [(4, .int (nI (i + 1))), (3, .int (nI (tGet 5 (sV s) i 4))), (2, .int (nI i)), (0, .ref (a 0)), (1, .int (nI h))]) dX1_nextMoveUpTo_50 (q := 4) rfl (nI_add _ _) (by decide) rfl ?_
          refine j_goto (pc := 53) X (tgt := 10) dX1_nextMoveUpTo_53 (by decide) ?_
          refine j_lv X (lv' := [(0, .ref (a 0)), (1, .int (nI h)), (2, .int (nI i)), (3, .int (nI (tGet 5 (sV s) i 4))), (4, .int (nI (i + 1)))]) [3, 4, 2, 1, 0] rfl ?_
          exact ih_10 (i + 1) (tGet 5 (sV s) i 4) (some i) (by omega) (by rw [nxA, if_pos (by rw [← ho]; exact Nat.not_le.mp h33)]) (by omega)
  refine j_lv X (lv' := [(0, .ref (a 0)), (1, .int (nI h)), (2, .int (-5)), (3, .int (nI (h + 1))), (4, .int (nI 0))]) [3, 4, 2, 1, 0] rfl ?_
  exact L_10 _ 0 (h + 1) none (Nat.zero_le _) rfl (Nat.lt_succ_self _)
theorem cd_X1_closeMove : kCardV yX1_closeMove cX1_closeMove 6 none 1 := ⟨⟨wc_X1_closeMove, wi_X1, by decide +kernel, by decide +kernel, rfl⟩, wk_X1_closeMove, ws_X1_closeMove⟩
set_option maxHeartbeats 4000000 in
set_option maxRecDepth 100000 in
theorem c_X1_closeMove (l : Launch) (D : va_G) (tA : Nat → ClassId) (a : Nat → Nat) (s : Sg) (v : Nat) (hw : Wf s) (hv : v < (sV s).1) : Kx l D tA yX1_closeMove cX1_closeMove 6 none 3 69 [.ref (a 0), .int (nI v)] (stW tA a s) none (stW tA a (clM s v)) := by
  refine kx_void rfl (Nat.le_of_ble_eq_true rfl) (fun G X E => ?_)
  show J l D G 0 0 (stW tA a s) [(0, .ref (a 0)), (1, .int (nI v))] 0 []
  have hn := hw.n
  have hv0 := hw.v hv
  obtain ⟨hv0, hv1, hv2, hv3, hv4⟩ := hv0
  have hf0 := hw.m hv1
  have ht0 := hw.m hv2
  refine j_aload_n (pc := 0) X dX1_closeMove_0 rfl (q := 0) rfl ?_
  refine j_get (pc := 1) X (C := RX1) (T := TX1) (N := 9) wz_X1 0 rfl rfl 3 (by decide) wf_X1_26 rfl dX1_closeMove_1 ?_
  refine j_iload_n (pc := 4) X dX1_closeMove_4 rfl (q := 1) rfl ?_
  refine j_iconst (pc := 5) X (v := (nI 0)) dX1_closeMove_5 (by decide) ?_
  refine j_callVR (pc := 6) X (st := [])  (c_X2_get l D tA (a 4) (a 9) 10 5 (sV s) v 0 (by first | assumption | omega | decide) (by first | assumption | omega | decide) (by first | assumption | omega | decide) (by first | assumption | omega | decide) (by first | assumption | omega | decide) (by first | assumption | omega | decide)) cd_X2_get wm_X1_70 8 rfl rfl rfl [8, 9] rfl rfl ⟨Nat.le_of_ble_eq_true rfl, Nat.le_of_ble_eq_true rfl⟩ ⟨Nat.zero_le _, Nat.zero_le _⟩ rfl (Nat.le_of_ble_eq_true rfl) dX1_closeMove_6 ?_
  refine j_istore_n (pc := 9) X (lv' := [(2, .int (nI (tGet 5 (sV s) v 0))), (0, .ref (a 0)), (1, .int (nI v))]) dX1_closeMove_9 rfl (by decide) rfl ?_
  refine j_aload_n (pc := 10) X dX1_closeMove_10 rfl (q := 1) rfl ?_
  refine j_get (pc := 11) X (C := RX1) (T := TX1) (N := 9) wz_X1 0 rfl rfl 3 (by decide) wf_X1_26 rfl dX1_closeMove_11 ?_
  refine j_iload_n (pc := 14) X dX1_closeMove_14 rfl (q := 2) rfl ?_
  refine j_iconst (pc := 15) X (v := (nI 1)) dX1_closeMove_15 (by decide) ?_
  refine j_callVR (pc := 16) X (st := [])  (c_X2_get l D tA (a 4) (a 9) 10 5 (sV s) v 1 (by first | assumption | omega | decide) (by first | assumption | omega | decide) (by first | assumption | omega | decide) (by first | assumption | omega | decide) (by first | assumption | omega | decide) (by first | assumption | omega | decide)) cd_X2_get wm_X1_70 8 rfl rfl rfl [8, 9] rfl rfl ⟨Nat.le_of_ble_eq_true rfl, Nat.le_of_ble_eq_true rfl⟩ ⟨Nat.zero_le _, Nat.zero_le _⟩ rfl (Nat.le_of_ble_eq_true rfl) dX1_closeMove_16 ?_
  refine j_istore_n (pc := 19) X (lv' := [(3, .int (nI (tGet 5 (sV s) v 1))), (2, .int (nI (tGet 5 (sV s) v 0))), (0, .ref (a 0)), (1, .int (nI v))]) dX1_closeMove_19 rfl (by decide) rfl ?_
  refine j_aload_n (pc := 20) X dX1_closeMove_20 rfl (q := 2) rfl ?_
  refine j_get (pc := 21) X (C := RX1) (T := TX1) (N := 9) wz_X1 0 rfl rfl 3 (by decide) wf_X1_26 rfl dX1_closeMove_21 ?_
  refine j_iload_n (pc := 24) X dX1_closeMove_24 rfl (q := 3) rfl ?_
  refine j_iconst (pc := 25) X (v := (nI 2)) dX1_closeMove_25 (by decide) ?_
  refine j_callVR (pc := 26) X (st := [])  (c_X2_get l D tA (a 4) (a 9) 10 5 (sV s) v 2 (by first | assumption | omega | decide) (by first | assumption | omega | decide) (by first | assumption | omega | decide) (by first | assumption | omega | decide) (by first | assumption | omega | decide) (by first | assumption | omega | decide)) cd_X2_get wm_X1_70 8 rfl rfl rfl [8, 9] rfl rfl ⟨Nat.le_of_ble_eq_true rfl, Nat.le_of_ble_eq_true rfl⟩ ⟨Nat.zero_le _, Nat.zero_le _⟩ rfl (Nat.le_of_ble_eq_true rfl) dX1_closeMove_26 ?_
  refine j_istore (pc := 29) X (lv' := [(4, .int (nI (tGet 5 (sV s) v 2))), (3, .int (nI (tGet 5 (sV s) v 1))), (2, .int (nI (tGet 5 (sV s) v 0))), (0, .ref (a 0)), (1, .int (nI v))]) dX1_closeMove_29 (by decide) rfl ?_
  refine j_aload_n (pc := 31) X dX1_closeMove_31 rfl (q := 3) rfl ?_
  refine j_get (pc := 32) X (C := RX1) (T := TX1) (N := 9) wz_X1 0 rfl rfl 3 (by decide) wf_X1_26 rfl dX1_closeMove_32 ?_
  refine j_iload_n (pc := 35) X dX1_closeMove_35 rfl (q := 4) rfl ?_
  refine j_iconst (pc := 36) X (v := (nI 3)) dX1_closeMove_36 (by decide) ?_
  refine j_callVR (pc := 37) X (st := [])  (c_X2_get l D tA (a 4) (a 9) 10 5 (sV s) v 3 (by first | assumption | omega | decide) (by first | assumption | omega | decide) (by first | assumption | omega | decide) (by first | assumption | omega | decide) (by first | assumption | omega | decide) (by first | assumption | omega | decide)) cd_X2_get wm_X1_70 8 rfl rfl rfl [8, 9] rfl rfl ⟨Nat.le_of_ble_eq_true rfl, Nat.le_of_ble_eq_true rfl⟩ ⟨Nat.zero_le _, Nat.zero_le _⟩ rfl (Nat.le_of_ble_eq_true rfl) dX1_closeMove_37 ?_
  refine j_istore (pc := 40) X (lv' := [(5, .int (nI (tGet 5 (sV s) v 3))), (4, .int (nI (tGet 5 (sV s) v 2))), (3, .int (nI (tGet 5 (sV s) v 1))), (2, .int (nI (tGet 5 (sV s) v 0))), (0, .ref (a 0)), (1, .int (nI v))]) dX1_closeMove_40 (by decide) rfl ?_
  refine j_aload_n (pc := 42) X dX1_closeMove_42 rfl (q := 4) rfl ?_
  refine j_get (pc := 43) X (C := RX1) (T := TX1) (N := 9) wz_X1 0 rfl rfl 3 (by decide) wf_X1_26 rfl dX1_closeMove_43 ?_
  refine j_iload_n (pc := 46) X dX1_closeMove_46 rfl (q := 5) rfl ?_
  refine j_callV (pc := 47) X (st := []) (w' := (stW tA a (uV s (tDel 5 (sV s) v)))) (c_X2_removeRow l D tA (a 4) (a 9) 10 5 (sV s) v (by first | assumption | omega | decide) (by first | assumption | omega | decide) (by first | assumption | omega | decide) (by first | assumption | omega | decide) (by first | assumption | omega | decide)) cd_X2_removeRow wm_X1_119 8 rfl rfl rfl [8, 9] rfl rfl (tb_fst.trans tb_fst.symm) rfl ⟨Nat.le_of_ble_eq_true rfl, Nat.le_of_ble_eq_true rfl⟩ ⟨Nat.zero_le _, Nat.zero_le _⟩ rfl (Nat.le_of_ble_eq_true rfl) dX1_closeMove_47 ?_
  refine j_aload_n (pc := 50) X dX1_closeMove_50 rfl (q := 4) rfl ?_
  refine j_get (pc := 51) X (C := RX1) (T := TX1) (N := 9) wz_X1 0 rfl rfl 0 (by decide) wf_X1_14 rfl dX1_closeMove_51 ?_
  refine j_iload_n (pc := 54) X dX1_closeMove_54 rfl (q := 2) rfl ?_
  refine j_iconst (pc := 55) X (v := (nI 1)) dX1_closeMove_55 (by decide) ?_
  refine j_callVR (pc := 56) X (st := [])  (c_X2_get l D tA (a 1) (a 6) 5 3 (sM s) (tGet 5 (sV s) v 1) 1 (by decide) (by decide) (show (sM s).1 ≤ 5 by omega) (by assumption) (by decide) (by decide)) cd_X2_get wm_X1_70 2 rfl rfl rfl [2, 3] rfl rfl ⟨Nat.le_of_ble_eq_true rfl, Nat.le_of_ble_eq_true rfl⟩ ⟨Nat.zero_le _, Nat.zero_le _⟩ rfl (Nat.le_of_ble_eq_true rfl) dX1_closeMove_56 ?_
  refine j_iload (pc := 59) X dX1_closeMove_59 (q := 0) rfl ?_
  refine j_icmp_lt (pc := 61) X (tgt := 82) (P := (tGet 3 (sM s) (tGet 5 (sV s) v 1) 1) < (tGet 5 (sV s) v 3)) dX1_closeMove_61 (by decide) (nI_ltI (by omega) (by omega)) (fun h61 => ?_) (fun h61 => ?_)
  · skip
    refine j_aload_n (pc := 82) X dX1_closeMove_82 rfl (q := 4) rfl ?_
    refine j_iload_n (pc := 83) X dX1_closeMove_83 rfl (q := 3) rfl ?_
    refine j_iconst (pc := 84) X (v := (nI 5)) dX1_closeMove_84 (by decide) ?_
    refine j_callV (pc := 85) X (st := []) (w' := (stW tA a (payS (uV s (tDel 5 (sV s) v)) (tGet 5 (sV s) v 0) 5))) (c_X1_pay l D tA a (uV s (tDel 5 (sV s) v)) (tGet 5 (sV s) v 0) 5 (show (sP s).1 ≤ 8 by omega) hv0) cd_X1_pay wm_X1_122 0 rfl rfl rfl [0, 1, 2, 3, 4, 5, 6, 7, 8, 9] rfl rfl (st_fst.trans st_fst.symm) rfl ⟨Nat.le_of_ble_eq_true rfl, Nat.le_of_ble_eq_true rfl⟩ ⟨Nat.zero_le _, Nat.zero_le _⟩ rfl (Nat.le_of_ble_eq_true rfl) dX1_closeMove_85 ?_
    refine j_aload_n (pc := 88) X dX1_closeMove_88 rfl (q := 4) rfl ?_
    refine j_dup (pc := 89) X dX1_closeMove_89 rfl ?_
    refine j_get (pc := 90) X (C := RX1) (T := TX1) (N := 9) wz_X1 0 rfl rfl 7 (by decide) wf_X1_56 rfl dX1_closeMove_90 ?_
    refine j_iconst (pc := 93) X (v := (nI 1)) dX1_closeMove_93 (by decide) ?_
    refine j_iadd (pc := 94) X (v := (nI ((sF (payS (uV s (tDel 5 (sV s) v)) (tGet 5 (sV s) v 0) 5)) + 1))) dX1_closeMove_94 (nI_add _ _) ?_
    refine j_put (pc := 95) X (C := RX1) (T := TX1) (N := 9) wz_X1 tyX1 tyX1_ok nmX1 0 rfl rfl 7 (by decide) wf_X1_56 rfl rfl rfl (Nat.le_of_ble_eq_true rfl) (w' := (stW tA a (uF (payS (uV s (tDel 5 (sV s) v)) (tGet 5 (sV s) v 0) 5) ((sF (payS (uV s (tDel 5 (sV s) v)) (tGet 5 (sV s) v 0) 5)) + 1)))) rfl dX1_closeMove_95 ?_
    exact j_endV (pc := 98) E dX1_closeMove_98 (congrArg (stW tA a) (by rw [clM, if_pos (Or.inl h61)] <;> rfl))
  · skip
    refine j_aload_n (pc := 64) X dX1_closeMove_64 rfl (q := 4) rfl ?_
    refine j_get (pc := 65) X (C := RX1) (T := TX1) (N := 9) wz_X1 0 rfl rfl 0 (by decide) wf_X1_14 rfl dX1_closeMove_65 ?_
    refine j_iload (pc := 68) X dX1_closeMove_68 (q := 1) rfl ?_
    refine j_iconst (pc := 70) X (v := (nI 1)) dX1_closeMove_70 (by decide) ?_
    refine j_callVR (pc := 71) X (st := [])  (c_X2_get l D tA (a 1) (a 6) 5 3 (sM s) (tGet 5 (sV s) v 2) 1 (by decide) (by decide) (show (sM s).1 ≤ 5 by omega) (by assumption) (by decide) (by decide)) cd_X2_get wm_X1_70 2 rfl rfl rfl [2, 3] rfl rfl ⟨Nat.le_of_ble_eq_true rfl, Nat.le_of_ble_eq_true rfl⟩ ⟨Nat.zero_le _, Nat.zero_le _⟩ rfl (Nat.le_of_ble_eq_true rfl) dX1_closeMove_71 ?_
    refine j_iload (pc := 74) X dX1_closeMove_74 (q := 0) rfl ?_
    refine j_iadd (pc := 76) X (v := (nI ((tGet 3 (sM s) (tGet 5 (sV s) v 2) 1) + (tGet 5 (sV s) v 3)))) dX1_closeMove_76 (nI_add _ _) ?_
    refine j_bipush (pc := 77) X (v := (nI 12)) dX1_closeMove_77 (by decide) ?_
    refine j_icmp_le (pc := 79) X (tgt := 99) (P := ((tGet 3 (sM s) (tGet 5 (sV s) v 2) 1) + (tGet 5 (sV s) v 3)) ≤ 12) dX1_closeMove_79 (by decide) (nI_leI (by omega) (by omega)) (fun h79 => ?_) (fun h79 => ?_)
    · skip
      refine j_aload_n (pc := 99) X dX1_closeMove_99 rfl (q := 4) rfl ?_
      refine j_get (pc := 100) X (C := RX1) (T := TX1) (N := 9) wz_X1 0 rfl rfl 0 (by decide) wf_X1_14 rfl dX1_closeMove_100 ?_
      refine j_iload_n (pc := 103) X dX1_closeMove_103 rfl (q := 2) rfl ?_
      refine j_iconst (pc := 104) X (v := (nI 1)) dX1_closeMove_104 (by decide) ?_
      refine j_iload (pc := 105) X dX1_closeMove_105 (q := 0) rfl ?_
      refine j_ineg (pc := 107) X (v := (-nI (tGet 5 (sV s) v 3))) dX1_closeMove_107 rfl ?_
      refine j_callV (pc := 108) X (st := []) (w' := (stW tA a (uM (uV s (tDel 5 (sV s) v)) (tSet 3 (sM s) (tGet 5 (sV s) v 1) 1 (tGet 3 (sM s) (tGet 5 (sV s) v 1) 1 - tGet 5 (sV s) v 3))))) (c_X2_increase l D tA (a 1) (a 6) 5 3 (sM s) (tGet 5 (sV s) v 1) 1 (-nI (tGet 5 (sV s) v 3)) (tGet 3 (sM s) (tGet 5 (sV s) v 1) 1 - tGet 5 (sV s) v 3) (by decide) (by decide) (show (sM s).1 ≤ 5 by omega) (by assumption) (by decide) (by decide) (nI_neg (by omega))) cd_X2_increase wm_X1_95 2 rfl rfl rfl [2, 3] rfl rfl (tb_fst.trans tb_fst.symm) rfl ⟨Nat.le_of_ble_eq_true rfl, Nat.le_of_ble_eq_true rfl⟩ ⟨Nat.zero_le _, Nat.zero_le _⟩ rfl (Nat.le_of_ble_eq_true rfl) dX1_closeMove_108 ?_
      refine j_aload_n (pc := 111) X dX1_closeMove_111 rfl (q := 4) rfl ?_
      refine j_get (pc := 112) X (C := RX1) (T := TX1) (N := 9) wz_X1 0 rfl rfl 0 (by decide) wf_X1_14 rfl dX1_closeMove_112 ?_
      refine j_iload (pc := 115) X dX1_closeMove_115 (q := 1) rfl ?_
      refine j_iconst (pc := 117) X (v := (nI 1)) dX1_closeMove_117 (by decide) ?_
      refine j_iload (pc := 118) X dX1_closeMove_118 (q := 0) rfl ?_
      refine j_callV (pc := 120) X (st := []) (w' := (stW tA a (uM (uV s (tDel 5 (sV s) v)) (tSet 3 (tSet 3 (sM s) (tGet 5 (sV s) v 1) 1 (tGet 3 (sM s) (tGet 5 (sV s) v 1) 1 - tGet 5 (sV s) v 3)) (tGet 5 (sV s) v 2) 1 (tGet 3 (tSet 3 (sM s) (tGet 5 (sV s) v 1) 1 (tGet 3 (sM s) (tGet 5 (sV s) v 1) 1 - tGet 5 (sV s) v 3)) (tGet 5 (sV s) v 2) 1 + (tGet 5 (sV s) v 3)))))) (c_X2_increase l D tA (a 1) (a 6) 5 3 (tSet 3 (sM s) (tGet 5 (sV s) v 1) 1 (tGet 3 (sM s) (tGet 5 (sV s) v 1) 1 - tGet 5 (sV s) v 3)) (tGet 5 (sV s) v 2) 1 (nI (tGet 5 (sV s) v 3)) (tGet 3 (tSet 3 (sM s) (tGet 5 (sV s) v 1) 1 (tGet 3 (sM s) (tGet 5 (sV s) v 1) 1 - tGet 5 (sV s) v 3)) (tGet 5 (sV s) v 2) 1 + (tGet 5 (sV s) v 3)) (by decide) (by decide) (show (sM s).1 ≤ 5 by omega) (by assumption) (by decide) (by decide) (nI_add _ _)) cd_X2_increase wm_X1_95 2 rfl rfl rfl [2, 3] rfl rfl (tb_fst.trans tb_fst.symm) rfl ⟨Nat.le_of_ble_eq_true rfl, Nat.le_of_ble_eq_true rfl⟩ ⟨Nat.zero_le _, Nat.zero_le _⟩ rfl (Nat.le_of_ble_eq_true rfl) dX1_closeMove_120 ?_
      refine j_aload_n (pc := 123) X dX1_closeMove_123 rfl (q := 4) rfl ?_
      refine j_get (pc := 124) X (C := RX1) (T := TX1) (N := 9) wz_X1 0 rfl rfl 0 (by decide) wf_X1_14 rfl dX1_closeMove_124 ?_
      refine j_iload_n (pc := 127) X dX1_closeMove_127 rfl (q := 2) rfl ?_
      refine j_iconst (pc := 128) X (v := (nI 2)) dX1_closeMove_128 (by decide) ?_
      refine j_iload_n (pc := 129) X dX1_closeMove_129 rfl (q := 3) rfl ?_
      refine j_callV (pc := 130) X (st := []) (w' := (stW tA a (uM (uV s (tDel 5 (sV s) v)) (tSet 3 (tSet 3 (tSet 3 (sM s) (tGet 5 (sV s) v 1) 1 (tGet 3 (sM s) (tGet 5 (sV s) v 1) 1 - tGet 5 (sV s) v 3)) (tGet 5 (sV s) v 2) 1 (tGet 3 (tSet 3 (sM s) (tGet 5 (sV s) v 1) 1 (tGet 3 (sM s) (tGet 5 (sV s) v 1) 1 - tGet 5 (sV s) v 3)) (tGet 5 (sV s) v 2) 1 + (tGet 5 (sV s) v 3))) (tGet 5 (sV s) v 1) 2 (tGet 5 (sV s) v 0))))) (c_X2_set l D tA (a 1) (a 6) 5 3 (tSet 3 (tSet 3 (sM s) (tGet 5 (sV s) v 1) 1 (tGet 3 (sM s) (tGet 5 (sV s) v 1) 1 - tGet 5 (sV s) v 3)) (tGet 5 (sV s) v 2) 1 (tGet 3 (tSet 3 (sM s) (tGet 5 (sV s) v 1) 1 (tGet 3 (sM s) (tGet 5 (sV s) v 1) 1 - tGet 5 (sV s) v 3)) (tGet 5 (sV s) v 2) 1 + (tGet 5 (sV s) v 3))) (tGet 5 (sV s) v 1) 2 (tGet 5 (sV s) v 0) (by decide) (by decide) (show (sM s).1 ≤ 5 by omega) (by assumption) (by decide) (by decide)) cd_X2_set wm_X1_82 2 rfl rfl rfl [2, 3] rfl rfl (tb_fst.trans tb_fst.symm) rfl ⟨Nat.le_of_ble_eq_true rfl, Nat.le_of_ble_eq_true rfl⟩ ⟨Nat.zero_le _, Nat.zero_le _⟩ rfl (Nat.le_of_ble_eq_true rfl) dX1_closeMove_130 ?_
      refine j_aload_n (pc := 133) X dX1_closeMove_133 rfl (q := 4) rfl ?_
      refine j_iload_n (pc := 134) X dX1_closeMove_134 rfl (q := 3) rfl ?_
      refine j_iconst (pc := 135) X (v := (nI 5)) dX1_closeMove_135 (by decide) ?_
      refine j_iconst (pc := 136) X (v := (nI 2)) dX1_closeMove_136 (by decide) ?_
      refine j_iload (pc := 137) X dX1_closeMove_137 (q := 0) rfl ?_
      refine j_imul (pc := 139) X (v := (nI (2 * (tGet 5 (sV s) v 3)))) dX1_closeMove_139 (pk_mul _ _) ?_
      refine j_iadd (pc := 140) X (v := (nI (5 + (2 * (tGet 5 (sV s) v 3))))) dX1_closeMove_140 (nI_add _ _) ?_
      refine j_callV (pc := 141) X (st := []) (w' := (stW tA a (payS (uM (uV s (tDel 5 (sV s) v)) (tSet 3 (tSet 3 (tSet 3 (sM s) (tGet 5 (sV s) v 1) 1 (tGet 3 (sM s) (tGet 5 (sV s) v 1) 1 - tGet 5 (sV s) v 3)) (tGet 5 (sV s) v 2) 1 (tGet 3 (tSet 3 (sM s) (tGet 5 (sV s) v 1) 1 (tGet 3 (sM s) (tGet 5 (sV s) v 1) 1 - tGet 5 (sV s) v 3)) (tGet 5 (sV s) v 2) 1 + (tGet 5 (sV s) v 3))) (tGet 5 (sV s) v 1) 2 (tGet 5 (sV s) v 0))) (tGet 5 (sV s) v 0) (5 + (2 * (tGet 5 (sV s) v 3)))))) (c_X1_pay l D tA a (uM (uV s (tDel 5 (sV s) v)) (tSet 3 (tSet 3 (tSet 3 (sM s) (tGet 5 (sV s) v 1) 1 (tGet 3 (sM s) (tGet 5 (sV s) v 1) 1 - tGet 5 (sV s) v 3)) (tGet 5 (sV s) v 2) 1 (tGet 3 (tSet 3 (sM s) (tGet 5 (sV s) v 1) 1 (tGet 3 (sM s) (tGet 5 (sV s) v 1) 1 - tGet 5 (sV s) v 3)) (tGet 5 (sV s) v 2) 1 + (tGet 5 (sV s) v 3))) (tGet 5 (sV s) v 1) 2 (tGet 5 (sV s) v 0))) (tGet 5 (sV s) v 0) (5 + (2 * (tGet 5 (sV s) v 3))) (show (sP s).1 ≤ 8 by omega) hv0) cd_X1_pay wm_X1_122 0 rfl rfl rfl [0, 1, 2, 3, 4, 5, 6, 7, 8, 9] rfl rfl (st_fst.trans st_fst.symm) rfl ⟨Nat.le_of_ble_eq_true rfl, Nat.le_of_ble_eq_true rfl⟩ ⟨Nat.zero_le _, Nat.zero_le _⟩ rfl (Nat.le_of_ble_eq_true rfl) dX1_closeMove_141 ?_
      refine j_aload_n (pc := 144) X dX1_closeMove_144 rfl (q := 4) rfl ?_
      refine j_dup (pc := 145) X dX1_closeMove_145 rfl ?_
      refine j_get (pc := 146) X (C := RX1) (T := TX1) (N := 9) wz_X1 0 rfl rfl 6 (by decide) wf_X1_53 rfl dX1_closeMove_146 ?_
      refine j_iconst (pc := 149) X (v := (nI 1)) dX1_closeMove_149 (by decide) ?_
      refine j_iadd (pc := 150) X (v := (nI ((sD (payS (uM (uV s (tDel 5 (sV s) v)) (tSet 3 (tSet 3 (tSet 3 (sM s) (tGet 5 (sV s) v 1) 1 (tGet 3 (sM s) (tGet 5 (sV s) v 1) 1 - tGet 5 (sV s) v 3)) (tGet 5 (sV s) v 2) 1 (tGet 3 (tSet 3 (sM s) (tGet 5 (sV s) v 1) 1 (tGet 3 (sM s) (tGet 5 (sV s) v 1) 1 - tGet 5 (sV s) v 3)) (tGet 5 (sV s) v 2) 1 + (tGet 5 (sV s) v 3))) (tGet 5 (sV s) v 1) 2 (tGet 5 (sV s) v 0))) (tGet 5 (sV s) v 0) (5 + (2 * (tGet 5 (sV s) v 3))))) + 1))) dX1_closeMove_150 (nI_add _ _) ?_
      refine j_put (pc := 151) X (C := RX1) (T := TX1) (N := 9) wz_X1 tyX1 tyX1_ok nmX1 0 rfl rfl 6 (by decide) wf_X1_53 rfl rfl rfl (Nat.le_of_ble_eq_true rfl) (w' := (stW tA a (uD (payS (uM (uV s (tDel 5 (sV s) v)) (tSet 3 (tSet 3 (tSet 3 (sM s) (tGet 5 (sV s) v 1) 1 (tGet 3 (sM s) (tGet 5 (sV s) v 1) 1 - tGet 5 (sV s) v 3)) (tGet 5 (sV s) v 2) 1 (tGet 3 (tSet 3 (sM s) (tGet 5 (sV s) v 1) 1 (tGet 3 (sM s) (tGet 5 (sV s) v 1) 1 - tGet 5 (sV s) v 3)) (tGet 5 (sV s) v 2) 1 + (tGet 5 (sV s) v 3))) (tGet 5 (sV s) v 1) 2 (tGet 5 (sV s) v 0))) (tGet 5 (sV s) v 0) (5 + (2 * (tGet 5 (sV s) v 3)))) ((sD (payS (uM (uV s (tDel 5 (sV s) v)) (tSet 3 (tSet 3 (tSet 3 (sM s) (tGet 5 (sV s) v 1) 1 (tGet 3 (sM s) (tGet 5 (sV s) v 1) 1 - tGet 5 (sV s) v 3)) (tGet 5 (sV s) v 2) 1 (tGet 3 (tSet 3 (sM s) (tGet 5 (sV s) v 1) 1 (tGet 3 (sM s) (tGet 5 (sV s) v 1) 1 - tGet 5 (sV s) v 3)) (tGet 5 (sV s) v 2) 1 + (tGet 5 (sV s) v 3))) (tGet 5 (sV s) v 1) 2 (tGet 5 (sV s) v 0))) (tGet 5 (sV s) v 0) (5 + (2 * (tGet 5 (sV s) v 3))))) + 1)))) rfl dX1_closeMove_151 ?_
      exact j_endV (pc := 154) E dX1_closeMove_154 (congrArg (stW tA a) (by rw [clM, if_neg (by omega)] <;> rfl))
    · skip
      refine j_aload_n (pc := 82) X dX1_closeMove_82 rfl (q := 4) rfl ?_
      refine j_iload_n (pc := 83) X dX1_closeMove_83 rfl (q := 3) rfl ?_
      refine j_iconst (pc := 84) X (v := (nI 5)) dX1_closeMove_84 (by decide) ?_
      refine j_callV (pc := 85) X (st := []) (w' := (stW tA a (payS (uV s (tDel 5 (sV s) v)) (tGet 5 (sV s) v 0) 5))) (c_X1_pay l D tA a (uV s (tDel 5 (sV s) v)) (tGet 5 (sV s) v 0) 5 (show (sP s).1 ≤ 8 by omega) hv0) cd_X1_pay wm_X1_122 0 rfl rfl rfl [0, 1, 2, 3, 4, 5, 6, 7, 8, 9] rfl rfl (st_fst.trans st_fst.symm) rfl ⟨Nat.le_of_ble_eq_true rfl, Nat.le_of_ble_eq_true rfl⟩ ⟨Nat.zero_le _, Nat.zero_le _⟩ rfl (Nat.le_of_ble_eq_true rfl) dX1_closeMove_85 ?_
      refine j_aload_n (pc := 88) X dX1_closeMove_88 rfl (q := 4) rfl ?_
      refine j_dup (pc := 89) X dX1_closeMove_89 rfl ?_
      refine j_get (pc := 90) X (C := RX1) (T := TX1) (N := 9) wz_X1 0 rfl rfl 7 (by decide) wf_X1_56 rfl dX1_closeMove_90 ?_
      refine j_iconst (pc := 93) X (v := (nI 1)) dX1_closeMove_93 (by decide) ?_
      refine j_iadd (pc := 94) X (v := (nI ((sF (payS (uV s (tDel 5 (sV s) v)) (tGet 5 (sV s) v 0) 5)) + 1))) dX1_closeMove_94 (nI_add _ _) ?_
      refine j_put (pc := 95) X (C := RX1) (T := TX1) (N := 9) wz_X1 tyX1 tyX1_ok nmX1 0 rfl rfl 7 (by decide) wf_X1_56 rfl rfl rfl (Nat.le_of_ble_eq_true rfl) (w' := (stW tA a (uF (payS (uV s (tDel 5 (sV s) v)) (tGet 5 (sV s) v 0) 5) ((sF (payS (uV s (tDel 5 (sV s) v)) (tGet 5 (sV s) v 0) 5)) + 1)))) rfl dX1_closeMove_95 ?_
      exact j_endV (pc := 98) E dX1_closeMove_98 (congrArg (stW tA a) (by rw [clM, if_pos (Or.inr (by omega))] <;> rfl))
theorem cd_X1_closeMovesUpTo : kCardV yX1_closeMovesUpTo cX1_closeMovesUpTo 4 none 1 := ⟨⟨wc_X1_closeMovesUpTo, wi_X1, by decide +kernel, by decide +kernel, rfl⟩, wk_X1_closeMovesUpTo, ws_X1_closeMovesUpTo⟩
set_option maxHeartbeats 4000000 in
set_option maxRecDepth 100000 in
theorem c_X1_closeMovesUpTo (l : Launch) (D : va_G) (tA : Nat → ClassId) (a : Nat → Nat) (s : Sg) (h : Nat) (hw : Wf s) (hh : h < 65536) : Kx l D tA yX1_closeMovesUpTo cX1_closeMovesUpTo 4 none 4 94 [.ref (a 0), .int (nI h)] (stW tA a s) none (stW tA a (clo 10 s h)) := by
  refine kx_void rfl (Nat.le_of_ble_eq_true rfl) (fun G X E => ?_)
  show J l D G 0 0 (stW tA a s) [(0, .ref (a 0)), (1, .int (nI h))] 0 []
  refine j_iconst (pc := 0) X (v := (nI 0)) dX1_closeMovesUpTo_0 (by decide) ?_
  refine j_istore_n (pc := 1) X (lv' := [(2, .int (nI 0)), (0, .ref (a 0)), (1, .int (nI h))]) dX1_closeMovesUpTo_1 rfl (by decide) rfl ?_
  have L_2 : ∀ (fu : Nat) (i : Nat) (s2 : Sg), i ≤ 10 → clo (10 - i) s2 h = clo 10 s h → Wf s2 → 10 - i < fu → J l D G 0 0 (stW tA a s2) [(0, .ref (a 0)), (1, .int (nI h)), (2, .int (nI i))] 2 [] := by
    intro fu
    induction fu with
    | zero => intro i s2 hi hs hw2 hfu; exact absurd hfu (Nat.not_lt_zero _)
    | succ fu ih_2 =>
      intro i s2 hi hs hw2 hfu
      have hn := hw2.n
      refine j_iload_n (pc := 2) X dX1_closeMovesUpTo_2 rfl (q := 2) rfl ?_
      refine j_bipush (pc := 3) X (v := (nI 10)) dX1_closeMovesUpTo_3 (by decide) ?_
      refine j_icmp_ge (pc := 5) X (tgt := 32) (P := 10 ≤ i) dX1_closeMovesUpTo_5 (by decide) (nI_leI (by omega) (by omega)) (fun h5 => ?_) (fun h5 => ?_)
      · skip
        exact j_endV (pc := 32) E dX1_closeMovesUpTo_32 (congrArg (stW tA a) (by rw [← hs, show 10 - i = 0 by omega]; rfl))
      · skip
        refine j_aload_n (pc := 8) X dX1_closeMovesUpTo_8 rfl (q := 0) rfl ?_
        refine j_iload_n (pc := 9) X dX1_closeMovesUpTo_9 rfl (q := 1) rfl ?_
        refine j_callVR (pc := 10) X (st := [])  (c_X1_nextMoveUpTo l D tA a s2 h hw2 hh) cd_X1_nextMoveUpTo wm_X1_112 0 rfl rfl rfl [0, 1, 2, 3, 4, 5, 6, 7, 8, 9] rfl rfl ⟨Nat.le_of_ble_eq_true rfl, Nat.le_of_ble_eq_true rfl⟩ ⟨Nat.zero_le _, Nat.zero_le _⟩ rfl (Nat.le_of_ble_eq_true rfl) dX1_closeMovesUpTo_10 ?_
        refine j_istore_n (pc := 13) X (lv' := [(3, .int (rO (nxt (sV s2) h))), (0, .ref (a 0)), (1, .int (nI h)), (2, .int (nI i))]) dX1_closeMovesUpTo_13 rfl (by decide) rfl ?_
        refine j_iload_n (pc := 14) X dX1_closeMovesUpTo_14 rfl (q := 0) rfl ?_
        refine j_bipush (pc := 15) X (v := (-5)) dX1_closeMovesUpTo_15 (by decide) ?_
        refine j_icmp_ne (pc := 17) X (tgt := 21) (P := ¬ (nxt (sV s2) h) = none) dX1_closeMovesUpTo_17 (by decide) (not_congr (rO_none (fun b e => by have := nxt_lt e; omega))) (fun h17 => ?_) (fun h17 => ?_)
        · skip
          obtain ⟨v, hv⟩ := Option.ne_none_iff_exists'.mp h17
          rw [show rO (nxt (sV s2) h) = nI v from by rw [hv]; rfl]
          refine j_aload_n (pc := 21) X dX1_closeMovesUpTo_21 rfl (q := 1) rfl ?_
          refine j_iload_n (pc := 22) X dX1_closeMovesUpTo_22 rfl (q := 0) rfl ?_
          refine j_callV (pc := 23) X (st := []) (w' := (stW tA a (clM s2 v))) (c_X1_closeMove l D tA a s2 v hw2 (nxt_lt hv)) cd_X1_closeMove wm_X1_115 0 rfl rfl rfl [0, 1, 2, 3, 4, 5, 6, 7, 8, 9] rfl rfl (st_fst.trans st_fst.symm) rfl ⟨Nat.le_of_ble_eq_true rfl, Nat.le_of_ble_eq_true rfl⟩ ⟨Nat.zero_le _, Nat.zero_le _⟩ rfl (Nat.le_of_ble_eq_true rfl) dX1_closeMovesUpTo_23 ?_
          refine j_iinc (pc := 26) X (v := (nI (i + 1))) (lv' := [(2, .int (nI (i + 1))), (3, .int (nI v)), (0, .ref (a 0)), (1, .int (nI h))]) dX1_closeMovesUpTo_26 (q := 3) rfl (nI_add _ _) (by decide) rfl ?_
          refine j_goto (pc := 29) X (tgt := 2) dX1_closeMovesUpTo_29 (by decide) ?_
          refine j_lv X (lv' := [(0, .ref (a 0)), (1, .int (nI h)), (2, .int (nI (i + 1)))]) [2, 3, 0] rfl ?_
          exact ih_2 (i + 1) (clM s2 v) (by omega) (by rw [← hs, show 10 - i = (10 - (i + 1)) + 1 by omega, clo_some hv]) (hw2.xclM (nxt_lt hv)) (by omega)
        · skip
          exact j_endV (pc := 20) E dX1_closeMovesUpTo_20 (congrArg (stW tA a) (by rw [← hs, clo_none (Decidable.not_not.mp h17)]))
  refine j_lv X (lv' := [(0, .ref (a 0)), (1, .int (nI h)), (2, .int (nI 0))]) [1, 2, 0] rfl ?_
  exact L_2 _ 0 s (by omega) rfl hw (Nat.lt_succ_self _)
theorem cd_X1_lift : kCardV yX1_lift cX1_lift 2 none 1 := ⟨⟨wc_X1_lift, wi_X1, by decide +kernel, by decide +kernel, rfl⟩, wk_X1_lift, ws_X1_lift⟩
set_option maxHeartbeats 4000000 in
set_option maxRecDepth 100000 in
theorem c_X1_lift (l : Launch) (D : va_G) (tA : Nat → ClassId) (a : Nat → Nat) (s : Sg) (b : Nat) (hw : Wf s) (hb : b < (sB s).1) : Kx l D tA yX1_lift cX1_lift 2 none 3 69 [.ref (a 0), .int (nI b)] (stW tA a s) none (stW tA a (lftS s b)) := by
  refine kx_void rfl (Nat.le_of_ble_eq_true rfl) (fun G X E => ?_)
  show J l D G 0 0 (stW tA a s) [(0, .ref (a 0)), (1, .int (nI b))] 0 []
  have hn := hw.n
  have hb0 := hw.b hb
  refine j_aload_n (pc := 0) X dX1_lift_0 rfl (q := 0) rfl ?_
  refine j_get (pc := 1) X (C := RX1) (T := TX1) (N := 9) wz_X1 0 rfl rfl 2 (by decide) wf_X1_23 rfl dX1_lift_1 ?_
  refine j_iload_n (pc := 4) X dX1_lift_4 rfl (q := 1) rfl ?_
  refine j_iconst (pc := 5) X (v := (nI 5)) dX1_lift_5 (by decide) ?_
  refine j_iconst (pc := 6) X (v := (nI 1)) dX1_lift_6 (by decide) ?_
  refine j_callV (pc := 7) X (st := []) (w' := (stW tA a (uB s (tSet 8 (sB s) b 5 1)))) (c_X2_set l D tA (a 3) (a 8) 30 8 (sB s) b 5 1 (by decide) (by decide) (show (sB s).1 ≤ 30 by omega) (show b < (sB s).1 by omega) (by decide) (by decide)) cd_X2_set wm_X1_82 6 rfl rfl rfl [6, 7] rfl rfl (tb_fst.trans tb_fst.symm) rfl ⟨Nat.le_of_ble_eq_true rfl, Nat.le_of_ble_eq_true rfl⟩ ⟨Nat.zero_le _, Nat.zero_le _⟩ rfl (Nat.le_of_ble_eq_true rfl) dX1_lift_7 ?_
  refine j_aload_n (pc := 10) X dX1_lift_10 rfl (q := 0) rfl ?_
  refine j_aload_n (pc := 11) X dX1_lift_11 rfl (q := 0) rfl ?_
  refine j_get (pc := 12) X (C := RX1) (T := TX1) (N := 9) wz_X1 0 rfl rfl 2 (by decide) wf_X1_23 rfl dX1_lift_12 ?_
  refine j_iload_n (pc := 15) X dX1_lift_15 rfl (q := 1) rfl ?_
  refine j_iconst (pc := 16) X (v := (nI 0)) dX1_lift_16 (by decide) ?_
  refine j_callVR (pc := 17) X (st := [.ref (a 0)])  (c_X2_get l D tA (a 3) (a 8) 30 8 (tSet 8 (sB s) b 5 1) b 0 (by decide) (by decide) (show (sB s).1 ≤ 30 by omega) (show b < (sB s).1 by omega) (by decide) (by decide)) cd_X2_get wm_X1_70 6 rfl rfl rfl [6, 7] rfl rfl ⟨Nat.le_of_ble_eq_true rfl, Nat.le_of_ble_eq_true rfl⟩ ⟨Nat.zero_le _, Nat.zero_le _⟩ rfl (Nat.le_of_ble_eq_true rfl) dX1_lift_17 ?_
  refine j_bipush (pc := 20) X (v := (nI 30)) dX1_lift_20 (by decide) ?_
  refine j_callV (pc := 22) X (st := []) (w' := (stW tA a (payS (uB s (tSet 8 (sB s) b 5 1)) (tGet 8 (tSet 8 (sB s) b 5 1) b 0) 30))) (c_X1_pay l D tA a (uB s (tSet 8 (sB s) b 5 1)) (tGet 8 (tSet 8 (sB s) b 5 1) b 0) 30 (show (sP s).1 ≤ 8 by omega) (show tGet 8 (tSet 8 (sB s) b 5 1) b 0 < (sP s).1 by rw [get_set_c (by decide) (by decide) (by decide)]; omega)) cd_X1_pay wm_X1_122 0 rfl rfl rfl [0, 1, 2, 3, 4, 5, 6, 7, 8, 9] rfl rfl (st_fst.trans st_fst.symm) rfl ⟨Nat.le_of_ble_eq_true rfl, Nat.le_of_ble_eq_true rfl⟩ ⟨Nat.zero_le _, Nat.zero_le _⟩ rfl (Nat.le_of_ble_eq_true rfl) dX1_lift_22 ?_
  exact j_endV (pc := 25) E dX1_lift_25 rfl
theorem cd_X1_carryOver : kCardV yX1_carryOver cX1_carryOver 5 none 1 := ⟨⟨wc_X1_carryOver, wi_X1, by decide +kernel, by decide +kernel, rfl⟩, wk_X1_carryOver, ws_X1_carryOver⟩
set_option maxHeartbeats 4000000 in
set_option maxRecDepth 100000 in
theorem c_X1_carryOver (l : Launch) (D : va_G) (tA : Nat → ClassId) (a : Nat → Nat) (s : Sg) (b : Nat) (hw : Wf s) (hb : b < (sB s).1) : Kx l D tA yX1_carryOver cX1_carryOver 5 none 2 47 [.ref (a 0), .int (nI b)] (stW tA a s) none (stW tA a (cryS s b)) := by
  refine kx_void rfl (Nat.le_of_ble_eq_true rfl) (fun G X E => ?_)
  show J l D G 0 0 (stW tA a s) [(0, .ref (a 0)), (1, .int (nI b))] 0 []
  have hn := hw.n
  have hb0 := hw.b hb
  have hmm : min (sN s + 9) 199 ≤ 199 := Nat.min_le_right _ _
  refine j_aload_n (pc := 0) X dX1_carryOver_0 rfl (q := 0) rfl ?_
  refine j_get (pc := 1) X (C := RX1) (T := TX1) (N := 9) wz_X1 0 rfl rfl 2 (by decide) wf_X1_23 rfl dX1_carryOver_1 ?_
  refine j_iload_n (pc := 4) X dX1_carryOver_4 rfl (q := 1) rfl ?_
  refine j_iconst (pc := 5) X (v := (nI 1)) dX1_carryOver_5 (by decide) ?_
  refine j_callVR (pc := 6) X (st := [])  (c_X2_get l D tA (a 3) (a 8) 30 8 (sB s) b 1 (by first | assumption | omega | decide) (by first | assumption | omega | decide) (by first | assumption | omega | decide) (by first | assumption | omega | decide) (by first | assumption | omega | decide) (by first | assumption | omega | decide)) cd_X2_get wm_X1_70 6 rfl rfl rfl [6, 7] rfl rfl ⟨Nat.le_of_ble_eq_true rfl, Nat.le_of_ble_eq_true rfl⟩ ⟨Nat.zero_le _, Nat.zero_le _⟩ rfl (Nat.le_of_ble_eq_true rfl) dX1_carryOver_6 ?_
  refine j_istore_n (pc := 9) X (lv' := [(2, .int (nI (tGet 8 (sB s) b 1))), (0, .ref (a 0)), (1, .int (nI b))]) dX1_carryOver_9 rfl (by decide) rfl ?_
  refine j_aload_n (pc := 10) X dX1_carryOver_10 rfl (q := 1) rfl ?_
  refine j_get (pc := 11) X (C := RX1) (T := TX1) (N := 9) wz_X1 0 rfl rfl 5 (by decide) wf_X1_49 rfl dX1_carryOver_11 ?_
  refine j_bipush (pc := 14) X (v := (nI 9)) dX1_carryOver_14 (by decide) ?_
  refine j_iadd (pc := 16) X (v := (nI ((sN s) + 9))) dX1_carryOver_16 (nI_add _ _) ?_
  refine j_sipush (pc := 17) X (v := (nI 199)) dX1_carryOver_17 (by decide) ?_
  refine j_mmin (pc := 20) X wm_X1_37 (Nat.le_of_ble_eq_true rfl) (Nat.le_of_ble_eq_true rfl) ⟨Nat.zero_le _, Nat.zero_le _⟩ (v := (nI (min ((sN s) + 9) 199))) (nI_min (by omega) (by omega)) dX1_carryOver_20 ?_
  refine j_istore_n (pc := 23) X (lv' := [(3, .int (nI (min ((sN s) + 9) 199))), (2, .int (nI (tGet 8 (sB s) b 1))), (0, .ref (a 0)), (1, .int (nI b))]) dX1_carryOver_23 rfl (by decide) rfl ?_
  refine j_aload_n (pc := 24) X dX1_carryOver_24 rfl (q := 2) rfl ?_
  refine j_get (pc := 25) X (C := RX1) (T := TX1) (N := 9) wz_X1 0 rfl rfl 5 (by decide) wf_X1_49 rfl dX1_carryOver_25 ?_
  refine j_iconst (pc := 28) X (v := (nI 1)) dX1_carryOver_28 (by decide) ?_
  refine j_iadd (pc := 29) X (v := (nI ((sN s) + 1))) dX1_carryOver_29 (nI_add _ _) ?_
  refine j_istore (pc := 30) X (lv' := [(4, .int (nI ((sN s) + 1))), (3, .int (nI (min ((sN s) + 9) 199))), (2, .int (nI (tGet 8 (sB s) b 1))), (0, .ref (a 0)), (1, .int (nI b))]) dX1_carryOver_30 (by decide) rfl ?_
  have L_32 : ∀ (fu : Nat) (x : Nat), sN s + 1 ≤ x → x ≤ min (sN s + 9) 199 + 1 → fre (sB s) (tGet 8 (sB s) b 1) (min (sN s + 9) 199 + 1 - x) x = fre (sB s) (tGet 8 (sB s) b 1) (min (sN s + 9) 199 - sN s) (sN s + 1) → min (sN s + 9) 199 + 1 - x < fu → J l D G 0 0 (stW tA a s) [(0, .ref (a 0)), (1, .int (nI b)), (2, .int (nI (tGet 8 (sB s) b 1))), (3, .int (nI (min (sN s + 9) 199))), (4, .int (nI x))] 32 [] := by
    intro fu
    induction fu with
    | zero => intro x hx1 hx2 hk hfu; exact absurd hfu (Nat.not_lt_zero _)
    | succ fu ih_32 =>
      intro x hx1 hx2 hk hfu
      refine j_iload (pc := 32) X dX1_carryOver_32 (q := 4) rfl ?_
      refine j_iload_n (pc := 34) X dX1_carryOver_34 rfl (q := 3) rfl ?_
      refine j_icmp_gt (pc := 35) X (tgt := 65) (P := (min (sN s + 9) 199) < x) dX1_carryOver_35 (by decide) (nI_ltI (by omega) (by omega)) (fun h35 => ?_) (fun h35 => ?_)
      · skip
        refine j_aload_n (pc := 65) X dX1_carryOver_65 rfl (q := 0) rfl ?_
        refine j_get (pc := 66) X (C := RX1) (T := TX1) (N := 9) wz_X1 0 rfl rfl 2 (by decide) wf_X1_23 rfl dX1_carryOver_66 ?_
        refine j_iload_n (pc := 69) X dX1_carryOver_69 rfl (q := 1) rfl ?_
        refine j_iconst (pc := 70) X (v := (nI 5)) dX1_carryOver_70 (by decide) ?_
        refine j_iconst (pc := 71) X (v := (nI 2)) dX1_carryOver_71 (by decide) ?_
        refine j_callV (pc := 72) X (st := []) (w' := (stW tA a (uB s (tSet 8 (sB s) b 5 2)))) (c_X2_set l D tA (a 3) (a 8) 30 8 (sB s) b 5 2 (by first | assumption | omega | decide) (by first | assumption | omega | decide) (by first | assumption | omega | decide) (by first | assumption | omega | decide) (by first | assumption | omega | decide) (by first | assumption | omega | decide)) cd_X2_set wm_X1_82 6 rfl rfl rfl [6, 7] rfl rfl (tb_fst.trans tb_fst.symm) rfl ⟨Nat.le_of_ble_eq_true rfl, Nat.le_of_ble_eq_true rfl⟩ ⟨Nat.zero_le _, Nat.zero_le _⟩ rfl (Nat.le_of_ble_eq_true rfl) dX1_carryOver_72 ?_
        exact j_endV (pc := 75) E dX1_carryOver_75 (congrArg (stW tA a) (by rw [cryS, ← hk, show min (sN s + 9) 199 + 1 - x = 0 by omega]; rfl))
      · skip
        refine j_aload_n (pc := 38) X dX1_carryOver_38 rfl (q := 0) rfl ?_
        refine j_iload_n (pc := 39) X dX1_carryOver_39 rfl (q := 2) rfl ?_
        refine j_iload (pc := 40) X dX1_carryOver_40 (q := 4) rfl ?_
        refine j_callVR (pc := 42) X (st := [])  (c_X1_bookingFor l D tA a s (tGet 8 (sB s) b 1) x hw (by omega) (by omega)) cd_X1_bookingFor wm_X1_92 0 rfl rfl rfl [0, 1, 2, 3, 4, 5, 6, 7, 8, 9] rfl rfl ⟨Nat.le_of_ble_eq_true rfl, Nat.le_of_ble_eq_true rfl⟩ ⟨Nat.zero_le _, Nat.zero_le _⟩ rfl (Nat.le_of_ble_eq_true rfl) dX1_carryOver_42 ?_
        refine j_bipush (pc := 45) X (v := (-5)) dX1_carryOver_45 (by decide) ?_
        refine j_icmp_ne (pc := 47) X (tgt := 59) (P := ¬ (bkF (sB s) (tGet 8 (sB s) b 1) x) = none) dX1_carryOver_47 (by decide) (not_congr (rO_none (fun b e => by have := bkF_lt e; omega))) (fun h47 => ?_) (fun h47 => ?_)
        · skip
          refine j_iinc (pc := 59) X (v := (nI (x + 1))) (lv' := [(4, .int (nI (x + 1))), (0, .ref (a 0)), (1, .int (nI b)), (2, .int (nI (tGet 8 (sB s) b 1))), (3, .int (nI (min (sN s + 9) 199)))]) dX1_carryOver_59 (q := 4) rfl (nI_add _ _) (by decide) rfl ?_
          refine j_goto (pc := 62) X (tgt := 32) dX1_carryOver_62 (by decide) ?_
          refine j_lv X (lv' := [(0, .ref (a 0)), (1, .int (nI b)), (2, .int (nI (tGet 8 (sB s) b 1))), (3, .int (nI (min (sN s + 9) 199))), (4, .int (nI (x + 1)))]) [1, 2, 3, 4, 0] rfl ?_
          exact ih_32 (x + 1) (by omega) (by omega) (by rw [← hk, show min (sN s + 9) 199 + 1 - x = (min (sN s + 9) 199 + 1 - (x + 1)) + 1 by omega, fre, if_neg h47]) (by omega)
        · skip
          refine j_aload_n (pc := 50) X dX1_carryOver_50 rfl (q := 0) rfl ?_
          refine j_iload_n (pc := 51) X dX1_carryOver_51 rfl (q := 1) rfl ?_
          refine j_iload_n (pc := 52) X dX1_carryOver_52 rfl (q := 2) rfl ?_
          refine j_iload (pc := 53) X dX1_carryOver_53 (q := 4) rfl ?_
          refine j_callV (pc := 55) X (st := []) (w' := (stW tA a (placeS s b (tGet 8 (sB s) b 1) x))) (c_X1_place l D tA a s b (tGet 8 (sB s) b 1) x (show (sB s).1 ≤ 30 by omega) hb (by omega)) cd_X1_place wm_X1_146 0 rfl rfl rfl [0, 1, 2, 3, 4, 5, 6, 7, 8, 9] rfl rfl (st_fst.trans st_fst.symm) rfl ⟨Nat.le_of_ble_eq_true rfl, Nat.le_of_ble_eq_true rfl⟩ ⟨Nat.zero_le _, Nat.zero_le _⟩ rfl (Nat.le_of_ble_eq_true rfl) dX1_carryOver_55 ?_
          exact j_endV (pc := 58) E dX1_carryOver_58 (congrArg (stW tA a) (by rw [cryS, ← hk, show min (sN s + 9) 199 + 1 - x = (min (sN s + 9) 199 + 1 - (x + 1)) + 1 by omega, fre, if_pos (Decidable.not_not.mp h47)]))
  refine j_lv X (lv' := [(0, .ref (a 0)), (1, .int (nI b)), (2, .int (nI (tGet 8 (sB s) b 1))), (3, .int (nI (min ((sN s) + 9) 199))), (4, .int (nI ((sN s) + 1)))]) [3, 4, 2, 1, 0] rfl ?_
  exact L_32 _ (sN s + 1) (Nat.le_refl _) (by omega) (by congr 1; omega) (Nat.lt_succ_self _)
theorem cd_X1_standBy : kCardV yX1_standBy cX1_standBy 3 none 1 := ⟨⟨wc_X1_standBy, wi_X1, by decide +kernel, by decide +kernel, rfl⟩, wk_X1_standBy, ws_X1_standBy⟩
set_option maxHeartbeats 4000000 in
set_option maxRecDepth 100000 in
theorem c_X1_standBy (l : Launch) (D : va_G) (tA : Nat → ClassId) (a : Nat → Nat) (s : Sg) (b : Nat) (hw : Wf s) (hb : b < (sB s).1) : Kx l D tA yX1_standBy cX1_standBy 3 none 4 93 [.ref (a 0), .int (nI b)] (stW tA a s) none (stW tA a (stbS s b)) := by
  refine kx_void rfl (Nat.le_of_ble_eq_true rfl) (fun G X E => ?_)
  show J l D G 0 0 (stW tA a s) [(0, .ref (a 0)), (1, .int (nI b))] 0 []
  have hn := hw.n
  have hb0 := hw.b hb
  have hcB := cau_B s b
  have hcw : Wf (cauS s b) := hw.cau
  refine j_aload_n (pc := 0) X dX1_standBy_0 rfl (q := 0) rfl ?_
  refine j_iload_n (pc := 1) X dX1_standBy_1 rfl (q := 1) rfl ?_
  refine j_callVR (pc := 2) X (st := [])  (c_X1_causerOf l D tA a s b (by first | assumption | omega | decide) (by first | assumption | omega | decide)) cd_X1_causerOf wm_X1_140 0 rfl rfl rfl [0, 1, 2, 3, 4, 5, 6, 7, 8, 9] rfl rfl ⟨Nat.le_of_ble_eq_true rfl, Nat.le_of_ble_eq_true rfl⟩ ⟨Nat.zero_le _, Nat.zero_le _⟩ rfl (Nat.le_of_ble_eq_true rfl) dX1_standBy_2 ?_
  refine j_istore_n (pc := 5) X (lv' := [(2, .int (rO (caus s b))), (0, .ref (a 0)), (1, .int (nI b))]) dX1_standBy_5 rfl (by decide) rfl ?_
  refine j_iload_n (pc := 6) X dX1_standBy_6 rfl (q := 0) rfl ?_
  refine j_bipush (pc := 7) X (v := (-5)) dX1_standBy_7 (by decide) ?_
  refine j_icmp_ne (pc := 9) X (tgt := 25) (P := ¬ (caus s b) = none) dX1_standBy_9 (by decide) (not_congr (rO_none (fun p e => by have := caus_lt hw hb e; omega))) (fun h9 => ?_) (fun h9 => ?_)
  · skip
    obtain ⟨p, hp⟩ := Option.ne_none_iff_exists'.mp h9
    rw [show rO (caus s b) = nI p from by rw [hp]; rfl]
    have hpl := caus_lt hw hb hp
    refine j_aload_n (pc := 25) X dX1_standBy_25 rfl (q := 1) rfl ?_
    refine j_get (pc := 26) X (C := RX1) (T := TX1) (N := 9) wz_X1 0 rfl rfl 1 (by decide) wf_X1_20 rfl dX1_standBy_26 ?_
    refine j_iload_n (pc := 29) X dX1_standBy_29 rfl (q := 0) rfl ?_
    refine j_iconst (pc := 30) X (v := (nI 1)) dX1_standBy_30 (by decide) ?_
    refine j_iconst (pc := 31) X (v := (nI 1)) dX1_standBy_31 (by decide) ?_
    refine j_callV (pc := 32) X (st := []) (w' := (stW tA a (uP s (tSet 2 (sP s) p 1 (tGet 2 (sP s) p 1 + 1))))) (c_X2_increase l D tA (a 2) (a 7) 8 2 (sP s) p 1 (nI 1) (tGet 2 (sP s) p 1 + 1) (by first | assumption | omega | decide) (by first | assumption | omega | decide) (by first | assumption | omega | decide) (by first | assumption | omega | decide) (by first | assumption | omega | decide) (by first | assumption | omega | decide) (nI_add _ _)) cd_X2_increase wm_X1_95 4 rfl rfl rfl [4, 5] rfl rfl (tb_fst.trans tb_fst.symm) rfl ⟨Nat.le_of_ble_eq_true rfl, Nat.le_of_ble_eq_true rfl⟩ ⟨Nat.zero_le _, Nat.zero_le _⟩ rfl (Nat.le_of_ble_eq_true rfl) dX1_standBy_32 ?_
    refine j_aload_n (pc := 35) X dX1_standBy_35 rfl (q := 1) rfl ?_
    refine j_iload_n (pc := 36) X dX1_standBy_36 rfl (q := 0) rfl ?_
    refine j_bipush (pc := 37) X (v := (nI 8)) dX1_standBy_37 (by decide) ?_
    refine j_callV (pc := 39) X (st := []) (w' := (stW tA a (payS (uP s (tSet 2 (sP s) p 1 (tGet 2 (sP s) p 1 + 1))) p 8))) (c_X1_pay l D tA a (uP s (tSet 2 (sP s) p 1 (tGet 2 (sP s) p 1 + 1))) p 8 (show (sP s).1 ≤ 8 by omega) (show p < (sP s).1 from hpl)) cd_X1_pay wm_X1_122 0 rfl rfl rfl [0, 1, 2, 3, 4, 5, 6, 7, 8, 9] rfl rfl (st_fst.trans st_fst.symm) rfl ⟨Nat.le_of_ble_eq_true rfl, Nat.le_of_ble_eq_true rfl⟩ ⟨Nat.zero_le _, Nat.zero_le _⟩ rfl (Nat.le_of_ble_eq_true rfl) dX1_standBy_39 ?_
    rw [show payS (uP s (tSet 2 (sP s) p 1 (tGet 2 (sP s) p 1 + 1))) p 8 = cauS s b from by rw [cauS, hp]]
    refine j_aload_n (pc := 42) X dX1_standBy_42 rfl (q := 1) rfl ?_
    refine j_get (pc := 43) X (C := RX1) (T := TX1) (N := 9) wz_X1 0 rfl rfl 2 (by decide) wf_X1_23 rfl dX1_standBy_43 ?_
    refine j_iload_n (pc := 46) X dX1_standBy_46 rfl (q := 2) rfl ?_
    refine j_bipush (pc := 47) X (v := (nI 7)) dX1_standBy_47 (by decide) ?_
    refine j_iconst (pc := 49) X (v := (nI 1)) dX1_standBy_49 (by decide) ?_
    refine j_callV (pc := 50) X (st := []) (w' := (stW tA a (uB (cauS s b) (tSet 8 (sB (cauS s b)) b 7 (tGet 8 (sB (cauS s b)) b 7 + 1))))) (c_X2_increase l D tA (a 3) (a 8) 30 8 (sB (cauS s b)) b 7 (nI 1) (tGet 8 (sB (cauS s b)) b 7 + 1) (by decide) (by decide) (show (sB (cauS s b)).1 ≤ 30 by rw [hcB.1]; omega) (show b < (sB (cauS s b)).1 by rw [hcB.1]; exact hb) (by decide) (by decide) (nI_add _ _)) cd_X2_increase wm_X1_95 6 rfl rfl rfl [6, 7] rfl rfl (tb_fst.trans tb_fst.symm) rfl ⟨Nat.le_of_ble_eq_true rfl, Nat.le_of_ble_eq_true rfl⟩ ⟨Nat.zero_le _, Nat.zero_le _⟩ rfl (Nat.le_of_ble_eq_true rfl) dX1_standBy_50 ?_
    refine j_aload_n (pc := 53) X dX1_standBy_53 rfl (q := 1) rfl ?_
    refine j_iload_n (pc := 54) X dX1_standBy_54 rfl (q := 2) rfl ?_
    refine j_callV (pc := 55) X (st := []) (w' := (stW tA a (cryS (uB (cauS s b) (tSet 8 (sB (cauS s b)) b 7 (tGet 8 (sB (cauS s b)) b 7 + 1))) b))) (c_X1_carryOver l D tA a (uB (cauS s b) (tSet 8 (sB (cauS s b)) b 7 (tGet 8 (sB (cauS s b)) b 7 + 1))) b (Wf.inc hcw) (show b < (sB (cauS s b)).1 by rw [hcB.1]; exact hb)) cd_X1_carryOver wm_X1_143 0 rfl rfl rfl [0, 1, 2, 3, 4, 5, 6, 7, 8, 9] rfl rfl (st_fst.trans st_fst.symm) rfl ⟨Nat.le_of_ble_eq_true rfl, Nat.le_of_ble_eq_true rfl⟩ ⟨Nat.zero_le _, Nat.zero_le _⟩ rfl (Nat.le_of_ble_eq_true rfl) dX1_standBy_55 ?_
    exact j_endV (pc := 58) E dX1_standBy_58 rfl
  · skip
    refine j_aload_n (pc := 12) X dX1_standBy_12 rfl (q := 1) rfl ?_
    refine j_dup (pc := 13) X dX1_standBy_13 rfl ?_
    refine j_get (pc := 14) X (C := RX1) (T := TX1) (N := 9) wz_X1 0 rfl rfl 8 (by decide) wf_X1_59 rfl dX1_standBy_14 ?_
    refine j_iconst (pc := 17) X (v := (nI 1)) dX1_standBy_17 (by decide) ?_
    refine j_iadd (pc := 18) X (v := (nI ((sX s) + 1))) dX1_standBy_18 (nI_add _ _) ?_
    refine j_put (pc := 19) X (C := RX1) (T := TX1) (N := 9) wz_X1 tyX1 tyX1_ok nmX1 0 rfl rfl 8 (by decide) wf_X1_59 rfl rfl rfl (Nat.le_of_ble_eq_true rfl) (w' := (stW tA a (uX s ((sX s) + 1)))) rfl dX1_standBy_19 ?_
    refine j_goto (pc := 22) X (tgt := 42) dX1_standBy_22 (by decide) ?_
    rw [show uX s (sX s + 1) = cauS s b from by rw [cauS, Decidable.not_not.mp h9]]
    refine j_aload_n (pc := 42) X dX1_standBy_42 rfl (q := 1) rfl ?_
    refine j_get (pc := 43) X (C := RX1) (T := TX1) (N := 9) wz_X1 0 rfl rfl 2 (by decide) wf_X1_23 rfl dX1_standBy_43 ?_
    refine j_iload_n (pc := 46) X dX1_standBy_46 rfl (q := 2) rfl ?_
    refine j_bipush (pc := 47) X (v := (nI 7)) dX1_standBy_47 (by decide) ?_
    refine j_iconst (pc := 49) X (v := (nI 1)) dX1_standBy_49 (by decide) ?_
    refine j_callV (pc := 50) X (st := []) (w' := (stW tA a (uB (cauS s b) (tSet 8 (sB (cauS s b)) b 7 (tGet 8 (sB (cauS s b)) b 7 + 1))))) (c_X2_increase l D tA (a 3) (a 8) 30 8 (sB (cauS s b)) b 7 (nI 1) (tGet 8 (sB (cauS s b)) b 7 + 1) (by decide) (by decide) (show (sB (cauS s b)).1 ≤ 30 by rw [hcB.1]; omega) (show b < (sB (cauS s b)).1 by rw [hcB.1]; exact hb) (by decide) (by decide) (nI_add _ _)) cd_X2_increase wm_X1_95 6 rfl rfl rfl [6, 7] rfl rfl (tb_fst.trans tb_fst.symm) rfl ⟨Nat.le_of_ble_eq_true rfl, Nat.le_of_ble_eq_true rfl⟩ ⟨Nat.zero_le _, Nat.zero_le _⟩ rfl (Nat.le_of_ble_eq_true rfl) dX1_standBy_50 ?_
    refine j_aload_n (pc := 53) X dX1_standBy_53 rfl (q := 1) rfl ?_
    refine j_iload_n (pc := 54) X dX1_standBy_54 rfl (q := 2) rfl ?_
    refine j_callV (pc := 55) X (st := []) (w' := (stW tA a (cryS (uB (cauS s b) (tSet 8 (sB (cauS s b)) b 7 (tGet 8 (sB (cauS s b)) b 7 + 1))) b))) (c_X1_carryOver l D tA a (uB (cauS s b) (tSet 8 (sB (cauS s b)) b 7 (tGet 8 (sB (cauS s b)) b 7 + 1))) b (Wf.inc hcw) (show b < (sB (cauS s b)).1 by rw [hcB.1]; exact hb)) cd_X1_carryOver wm_X1_143 0 rfl rfl rfl [0, 1, 2, 3, 4, 5, 6, 7, 8, 9] rfl rfl (st_fst.trans st_fst.symm) rfl ⟨Nat.le_of_ble_eq_true rfl, Nat.le_of_ble_eq_true rfl⟩ ⟨Nat.zero_le _, Nat.zero_le _⟩ rfl (Nat.le_of_ble_eq_true rfl) dX1_standBy_55 ?_
    exact j_endV (pc := 58) E dX1_standBy_58 rfl
theorem stp_skip {s2 : Sg} {k i : Nat} (h : ¬ (tGet 8 (sB s2) i 5 = 0 ∧ tGet 8 (sB s2) i 2 = sN s2)) : stpB (s2, k) i = (s2, k) := by
  unfold stpB; exact if_neg h
theorem stp_stb {s2 : Sg} {k i : Nat} (h : tGet 8 (sB s2) i 5 = 0 ∧ tGet 8 (sB s2) i 2 = sN s2) (hm : must s2 i = true) : stpB (s2, k) i = (stbS s2 i, k) := by
  unfold stpB; rw [if_pos h, if_pos hm]
theorem stp_lft {s2 : Sg} {k i : Nat} (h : tGet 8 (sB s2) i 5 = 0 ∧ tGet 8 (sB s2) i 2 = sN s2) (hm : ¬ must s2 i = true) : stpB (s2, k) i = (lftS s2 i, k + 1) := by
  unfold stpB; rw [if_pos h, if_neg hm]
theorem cd_X1_passHalfDay : kCardV yX1_passHalfDay cX1_passHalfDay 3 (some .int) 0 := ⟨⟨wc_X1_passHalfDay, wi_X1, by decide +kernel, by decide +kernel, rfl⟩, wk_X1_passHalfDay, ws_X1_passHalfDay⟩
set_option maxHeartbeats 4000000 in
set_option maxRecDepth 100000 in
theorem c_X1_passHalfDay (l : Launch) (D : va_G) (tA : Nat → ClassId) (a : Nat → Nat) (s : Sg)  (hw : Wf s) : Kx l D tA yX1_passHalfDay cX1_passHalfDay 3 (some .int) 5 117 [.ref (a 0)] (stW tA a s) (some (.int (nI ((psH s).2)))) (stW tA a ((psH s).1)) := by
  refine kx_int rfl (Nat.le_of_ble_eq_true rfl) (fun G X E => ?_)
  show J l D G 0 0 (stW tA a s) [(0, .ref (a 0))] 0 []
  have hn := hw.n
  have hw1 : Wf (clo 10 s (sN s)) := Wf.xclo 10 hw (sN s)
  have hn1 := hw1.n
  refine j_aload_n (pc := 0) X dX1_passHalfDay_0 rfl (q := 0) rfl ?_
  refine j_aload_n (pc := 1) X dX1_passHalfDay_1 rfl (q := 0) rfl ?_
  refine j_get (pc := 2) X (C := RX1) (T := TX1) (N := 9) wz_X1 0 rfl rfl 5 (by decide) wf_X1_49 rfl dX1_passHalfDay_2 ?_
  refine j_callV (pc := 5) X (st := []) (w' := (stW tA a (clo 10 s (sN s)))) (c_X1_closeMovesUpTo l D tA a s (sN s) (by first | assumption | omega | decide) (by first | assumption | omega | decide)) cd_X1_closeMovesUpTo wm_X1_125 0 rfl rfl rfl [0, 1, 2, 3, 4, 5, 6, 7, 8, 9] rfl rfl (st_fst.trans st_fst.symm) rfl ⟨Nat.le_of_ble_eq_true rfl, Nat.le_of_ble_eq_true rfl⟩ ⟨Nat.zero_le _, Nat.zero_le _⟩ rfl (Nat.le_of_ble_eq_true rfl) dX1_passHalfDay_5 ?_
  refine j_iconst (pc := 8) X (v := (nI 0)) dX1_passHalfDay_8 (by decide) ?_
  refine j_istore_n (pc := 9) X (lv' := [(1, .int (nI 0)), (0, .ref (a 0))]) dX1_passHalfDay_9 rfl (by decide) rfl ?_
  refine j_iconst (pc := 10) X (v := (nI 0)) dX1_passHalfDay_10 (by decide) ?_
  refine j_istore_n (pc := 11) X (lv' := [(2, .int (nI 0)), (1, .int (nI 0)), (0, .ref (a 0))]) dX1_passHalfDay_11 rfl (by decide) rfl ?_
  have L_12 : ∀ (fu : Nat) (i : Nat) (s2 : Sg) (k : Nat), i ≤ (sB (clo 10 s (sN s))).1 → (s2, k) = psB i (clo 10 s (sN s)) → (sB (clo 10 s (sN s))).1 - i < fu → J l D G 0 0 (stW tA a s2) [(0, .ref (a 0)), (1, .int (nI k)), (2, .int (nI i))] 12 [] := by
    intro fu
    induction fu with
    | zero => intro i s2 k hi hq hfu; exact absurd hfu (Nat.not_lt_zero _)
    | succ fu ih_12 =>
      intro i s2 k hi hq hfu
      have hw2 : Wf s2 := by have := Wf.xpsB hw1 i hi; rw [← hq] at this; exact this
      have hn2 := hw2.n
      have hB2 : (sB s2).1 = (sB (clo 10 s (sN s))).1 := by have := (psB_B (clo 10 s (sN s)) i).1; rw [← hq] at this; exact this
      refine j_iload_n (pc := 12) X dX1_passHalfDay_12 rfl (q := 2) rfl ?_
      refine j_aload_n (pc := 13) X dX1_passHalfDay_13 rfl (q := 0) rfl ?_
      refine j_get (pc := 14) X (C := RX1) (T := TX1) (N := 9) wz_X1 0 rfl rfl 2 (by decide) wf_X1_23 rfl dX1_passHalfDay_14 ?_
      refine j_callVR (pc := 17) X (st := [.int (nI i)])  (c_X2_size l D tA (a 3) (a 8) 30 8 (sB s2)  ) cd_X2_size wm_X1_66 6 rfl rfl rfl [6, 7] rfl rfl ⟨Nat.le_of_ble_eq_true rfl, Nat.le_of_ble_eq_true rfl⟩ ⟨Nat.zero_le _, Nat.zero_le _⟩ rfl (Nat.le_of_ble_eq_true rfl) dX1_passHalfDay_17 ?_
      refine j_icmp_ge (pc := 20) X (tgt := 80) (P := ((sB s2).1) ≤ i) dX1_passHalfDay_20 (by decide) (nI_leI (by omega) (by omega)) (fun h20 => ?_) (fun h20 => ?_)
      · skip
        have hC : psC s = (s2, k) := by rw [psC, hq, show i = (sB (clo 10 s (sN s))).1 by omega]
        refine j_aload_n (pc := 80) X dX1_passHalfDay_80 rfl (q := 0) rfl ?_
        refine j_dup (pc := 81) X dX1_passHalfDay_81 rfl ?_
        refine j_get (pc := 82) X (C := RX1) (T := TX1) (N := 9) wz_X1 0 rfl rfl 5 (by decide) wf_X1_49 rfl dX1_passHalfDay_82 ?_
        refine j_iconst (pc := 85) X (v := (nI 1)) dX1_passHalfDay_85 (by decide) ?_
        refine j_iadd (pc := 86) X (v := (nI ((sN s2) + 1))) dX1_passHalfDay_86 (nI_add _ _) ?_
        refine j_put (pc := 87) X (C := RX1) (T := TX1) (N := 9) wz_X1 tyX1 tyX1_ok nmX1 0 rfl rfl 5 (by decide) wf_X1_49 rfl rfl rfl (Nat.le_of_ble_eq_true rfl) (w' := (stW tA a (uN s2 ((sN s2) + 1)))) rfl dX1_passHalfDay_87 ?_
        refine j_iload_n (pc := 90) X dX1_passHalfDay_90 rfl (q := 1) rfl ?_
        exact j_endI (pc := 91) E dX1_passHalfDay_91 (by rw [psH, hC]) (congrArg (stW tA a) (by rw [psH, hC] <;> rfl))
      · skip
        refine j_aload_n (pc := 23) X dX1_passHalfDay_23 rfl (q := 0) rfl ?_
        refine j_iload_n (pc := 24) X dX1_passHalfDay_24 rfl (q := 2) rfl ?_
        have hb2 := hw2.b (show i < (sB s2).1 by omega)
        refine j_callVR (pc := 25) X (st := [])  (c_X1_isBooked l D tA a s2 i hw2 (by omega)) cd_X1_isBooked wm_X1_128 0 rfl rfl rfl [0, 1, 2, 3, 4, 5, 6, 7, 8, 9] rfl rfl ⟨Nat.le_of_ble_eq_true rfl, Nat.le_of_ble_eq_true rfl⟩ ⟨Nat.zero_le _, Nat.zero_le _⟩ rfl (Nat.le_of_ble_eq_true rfl) dX1_passHalfDay_25 ?_
        refine j_if_eq (pc := 28) X (tgt := 74) (P := (decide (tGet 8 (sB s2) i 5 = 0)) = false) dX1_passHalfDay_28 (by decide) (bI_0 _) (fun h28 => ?_) (fun h28 => ?_)
        · skip
          refine j_iinc (pc := 74) X (v := (nI (i + 1))) (lv' := [(2, .int (nI (i + 1))), (0, .ref (a 0)), (1, .int (nI k))]) dX1_passHalfDay_74 (q := 2) rfl (nI_add _ _) (by decide) rfl ?_
          refine j_goto (pc := 77) X (tgt := 12) dX1_passHalfDay_77 (by decide) ?_
          refine j_lv X (lv' := [(0, .ref (a 0)), (1, .int (nI k)), (2, .int (nI (i + 1)))]) [1, 2, 0] rfl ?_
          exact ih_12 (i + 1) s2 k (by omega) (by rw [psB, ← hq, stp_skip (fun q => absurd q.1 (by simpa using h28))]) (by omega)
        · skip
          refine j_aload_n (pc := 31) X dX1_passHalfDay_31 rfl (q := 0) rfl ?_
          refine j_get (pc := 32) X (C := RX1) (T := TX1) (N := 9) wz_X1 0 rfl rfl 2 (by decide) wf_X1_23 rfl dX1_passHalfDay_32 ?_
          refine j_iload_n (pc := 35) X dX1_passHalfDay_35 rfl (q := 2) rfl ?_
          refine j_iconst (pc := 36) X (v := (nI 2)) dX1_passHalfDay_36 (by decide) ?_
          refine j_callVR (pc := 37) X (st := [])  (c_X2_get l D tA (a 3) (a 8) 30 8 (sB s2) i 2 (by first | assumption | omega | decide) (by first | assumption | omega | decide) (by first | assumption | omega | decide) (by first | assumption | omega | decide) (by first | assumption | omega | decide) (by first | assumption | omega | decide)) cd_X2_get wm_X1_70 6 rfl rfl rfl [6, 7] rfl rfl ⟨Nat.le_of_ble_eq_true rfl, Nat.le_of_ble_eq_true rfl⟩ ⟨Nat.zero_le _, Nat.zero_le _⟩ rfl (Nat.le_of_ble_eq_true rfl) dX1_passHalfDay_37 ?_
          refine j_aload_n (pc := 40) X dX1_passHalfDay_40 rfl (q := 0) rfl ?_
          refine j_get (pc := 41) X (C := RX1) (T := TX1) (N := 9) wz_X1 0 rfl rfl 5 (by decide) wf_X1_49 rfl dX1_passHalfDay_41 ?_
          refine j_icmp_eq (pc := 44) X (tgt := 50) (P := (tGet 8 (sB s2) i 2) = (sN s2)) dX1_passHalfDay_44 (by decide) (nI_eq (by omega) (by omega)) (fun h44 => ?_) (fun h44 => ?_)
          · skip
            refine j_aload_n (pc := 50) X dX1_passHalfDay_50 rfl (q := 0) rfl ?_
            refine j_iload_n (pc := 51) X dX1_passHalfDay_51 rfl (q := 2) rfl ?_
            refine j_callVR (pc := 52) X (st := [])  (c_X1_mustStandBy l D tA a s2 i hw2 (by omega)) cd_X1_mustStandBy wm_X1_131 0 rfl rfl rfl [0, 1, 2, 3, 4, 5, 6, 7, 8, 9] rfl rfl ⟨Nat.le_of_ble_eq_true rfl, Nat.le_of_ble_eq_true rfl⟩ ⟨Nat.zero_le _, Nat.zero_le _⟩ rfl (Nat.le_of_ble_eq_true rfl) dX1_passHalfDay_52 ?_
            refine j_if_eq (pc := 55) X (tgt := 66) (P := (must s2 i) = false) dX1_passHalfDay_55 (by decide) (bI_0 _) (fun h55 => ?_) (fun h55 => ?_)
            · skip
              refine j_aload_n (pc := 66) X dX1_passHalfDay_66 rfl (q := 0) rfl ?_
              refine j_iload_n (pc := 67) X dX1_passHalfDay_67 rfl (q := 2) rfl ?_
              refine j_callV (pc := 68) X (st := []) (w' := (stW tA a (lftS s2 i))) (c_X1_lift l D tA a s2 i hw2 (by omega)) cd_X1_lift wm_X1_137 0 rfl rfl rfl [0, 1, 2, 3, 4, 5, 6, 7, 8, 9] rfl rfl (st_fst.trans st_fst.symm) rfl ⟨Nat.le_of_ble_eq_true rfl, Nat.le_of_ble_eq_true rfl⟩ ⟨Nat.zero_le _, Nat.zero_le _⟩ rfl (Nat.le_of_ble_eq_true rfl) dX1_passHalfDay_68 ?_
              refine j_iinc (pc := 71) X (v := (nI (k + 1))) (lv' := [(1, .int (nI (k + 1))), (0, .ref (a 0)), (2, .int (nI i))]) dX1_passHalfDay_71 (q := 1) rfl (nI_add _ _) (by decide) rfl ?_
              refine j_iinc (pc := 74) X (v := (nI (i + 1))) (lv' := [(2, .int (nI (i + 1))), (1, .int (nI (k + 1))), (0, .ref (a 0))]) dX1_passHalfDay_74 (q := 2) rfl (nI_add _ _) (by decide) rfl ?_
              refine j_goto (pc := 77) X (tgt := 12) dX1_passHalfDay_77 (by decide) ?_
              refine j_lv X (lv' := [(0, .ref (a 0)), (1, .int (nI (k + 1))), (2, .int (nI (i + 1)))]) [2, 1, 0] rfl ?_
              exact ih_12 (i + 1) (lftS s2 i) (k + 1) (by omega) (by rw [psB, ← hq, stp_lft ⟨by simpa using h28, h44⟩ (by rw [h55]; decide)]) (by omega)
            · skip
              refine j_aload_n (pc := 58) X dX1_passHalfDay_58 rfl (q := 0) rfl ?_
              refine j_iload_n (pc := 59) X dX1_passHalfDay_59 rfl (q := 2) rfl ?_
              refine j_callV (pc := 60) X (st := []) (w' := (stW tA a (stbS s2 i))) (c_X1_standBy l D tA a s2 i hw2 (by omega)) cd_X1_standBy wm_X1_134 0 rfl rfl rfl [0, 1, 2, 3, 4, 5, 6, 7, 8, 9] rfl rfl (st_fst.trans st_fst.symm) rfl ⟨Nat.le_of_ble_eq_true rfl, Nat.le_of_ble_eq_true rfl⟩ ⟨Nat.zero_le _, Nat.zero_le _⟩ rfl (Nat.le_of_ble_eq_true rfl) dX1_passHalfDay_60 ?_
              refine j_goto (pc := 63) X (tgt := 74) dX1_passHalfDay_63 (by decide) ?_
              refine j_iinc (pc := 74) X (v := (nI (i + 1))) (lv' := [(2, .int (nI (i + 1))), (0, .ref (a 0)), (1, .int (nI k))]) dX1_passHalfDay_74 (q := 2) rfl (nI_add _ _) (by decide) rfl ?_
              refine j_goto (pc := 77) X (tgt := 12) dX1_passHalfDay_77 (by decide) ?_
              refine j_lv X (lv' := [(0, .ref (a 0)), (1, .int (nI k)), (2, .int (nI (i + 1)))]) [1, 2, 0] rfl ?_
              exact ih_12 (i + 1) (stbS s2 i) k (by omega) (by rw [psB, ← hq, stp_stb ⟨by simpa using h28, h44⟩ (t5 h55)]) (by omega)
          · skip
            refine j_goto (pc := 47) X (tgt := 74) dX1_passHalfDay_47 (by decide) ?_
            refine j_iinc (pc := 74) X (v := (nI (i + 1))) (lv' := [(2, .int (nI (i + 1))), (0, .ref (a 0)), (1, .int (nI k))]) dX1_passHalfDay_74 (q := 2) rfl (nI_add _ _) (by decide) rfl ?_
            refine j_goto (pc := 77) X (tgt := 12) dX1_passHalfDay_77 (by decide) ?_
            refine j_lv X (lv' := [(0, .ref (a 0)), (1, .int (nI k)), (2, .int (nI (i + 1)))]) [1, 2, 0] rfl ?_
            exact ih_12 (i + 1) s2 k (by omega) (by rw [psB, ← hq, stp_skip (fun q => h44 q.2)]) (by omega)
  refine j_lv X (lv' := [(0, .ref (a 0)), (1, .int (nI 0)), (2, .int (nI 0))]) [2, 1, 0] rfl ?_
  exact L_12 _ 0 (clo 10 s (sN s)) 0 (Nat.zero_le _) rfl (Nat.lt_succ_self _)
end
section
section
variable {l : Launch} {D : va_G} {tA : Nat → ClassId} {G : kCx} {cc : ByteArray} {nL : Nat} {own : String} {fr lo n k : Nat} {w : va_W} {lv : List (Nat × Value)} {pc : Nat} {st : List Value}
theorem j_aald (X : kX D tA G cc nL own fr lo) (q0 : Nat) {a N i v : Nat} {f : Nat → Option Nat} (he : w[q0]? = some (a, .inl (tA 2, N, .inr (.inr (.inr (.inr f)))))) (hi : i < N) (hN : N < 65536) (hv : f i = some v) (hdg : decode cc pc = .ok (.aaload, 1)) (kk : J l D G n k w lv (pc + 1) (.ref v :: st)) : J l D G n k w lv pc (.int (nI i) :: .ref a :: st) :=
  fun H locs ls hP hD hS hl => va_aldq (D := D) (cl := vwCl) (ws := w) (tys := kTY tA) X.1 X.2.1 X.2.2.2.2.2.1.1 hP q0 2 he rfl (vp_in_nI hi (by omega)) hdg (by rw [nI_clamp (by omega), hv]; exact kk H locs ls hP hD hS hl)
theorem j_cast (X : kX D tA G cc nL own fr lo) (q0 : Nat) {a N i v : Nat} {f : Nat → Nat} (he : w[q0]? = some (a, .inl (tA 1, N, .inl (nF f)))) (hi : i < N) (hN : N < 65536) (hv : v < 65536) {w' : va_W} (hw : w.set q0 (a, .inl (tA 1, N, .inl (nF (va_up f i v)))) = w') (hdg : decode cc pc = .ok (.castore, 1)) (kk : J l D G n k w' lv (pc + 1) st) : J l D G n k w lv pc (.int (nI v) :: .int (nI i) :: .ref a :: st) :=
  fun H locs ls hP hD hS hl => va_cast (D := D) (cl := vwCl) (ws := w) (tys := kTY tA) X.1 X.2.1 X.2.2.2.2.2.1.1 hP hD hS q0 1 he rfl (vp_in_nI hi (by omega)) hdg (fun H1 locs1 hP1 hD1 hS1 => by
    have e : vp_nar .char (nI v) = nI v := by unfold vp_nar; rw [(pk_charN hv).1]
    rw [nI_clamp (by omega), e, upd_nF, hw] at hP1 hD1
    exact kk H1 locs1 ls hP1 hD1 hS1 hl)
end
theorem nI_eq32 {a b : Nat} (ha : a < 2 ^ 32) (hb : b < 2 ^ 32) : nI a = nI b ↔ a = b := by
  refine ⟨fun h => ?_, fun h => by rw [h]⟩
  have := congrArg (fun x : Int32 => x.toBitVec.toNat) h
  simp only [pk_tn ha, pk_tn hb] at this
  exact this
/-- the ring of the latest states -/
abbrev Hs : Type := (Nat → Sg) × Nat × Nat
def hsW (tA : Nat → ClassId) (h : Nat → Nat) (d : Nat → Nat → Nat) (v : Hs) : va_W :=
  [(h 0, .inr (0, [.ref (h 1), .int (nI v.2.1), .int (nI v.2.2)])), (h 1, .inl (tA 2, 4, .inr (.inr (.inr (.inr (fun i => some (d i 0)))))))] ++ (stW tA (d 0) (v.1 0) ++ (stW tA (d 1) (v.1 1) ++ (stW tA (d 2) (v.1 2) ++ stW tA (d 3) (v.1 3))))
theorem hs_fst {tA : Nat → ClassId} {h : Nat → Nat} {d : Nat → Nat → Nat} {v : Hs} : (hsW tA h d v).map Prod.fst = [h 0, h 1] ++ (stA (d 0) ++ (stA (d 1) ++ (stA (d 2) ++ stA (d 3)))) := by
  show (_ ++ _ : va_W).map Prod.fst = _
  rw [List.map_append, List.map_append, List.map_append, List.map_append, st_fst, st_fst, st_fst, st_fst]
  rfl
theorem hs_flat {tA : Nat → ClassId} {h : Nat → Nat} {d : Nat → Nat → Nat} {v : Hs} {a : Nat → Nat} {s : Sg} : hsW tA h d v ++ stW tA a s = [(h 0, .inr (0, [.ref (h 1), .int (nI v.2.1), .int (nI v.2.2)])), (h 1, .inl (tA 2, 4, .inr (.inr (.inr (.inr (fun i => some (d i 0)))))))] ++ (stW tA (d 0) (v.1 0) ++ (stW tA (d 1) (v.1 1) ++ (stW tA (d 2) (v.1 2) ++ (stW tA (d 3) (v.1 3) ++ stW tA a s)))) := by
  simp only [hsW, List.append_assoc]
def hPush (v : Hs) (s : Sg) : Hs := (va_up v.1 v.2.1 s, (v.2.1 + 1) % 4, min (v.2.2 + 1) 4)
def hLast (v : Hs) : Nat := (v.2.1 + 4 - 1) % 4
def hPop (v : Hs) : Hs := (v.1, hLast v, v.2.2 - 1)
theorem cd_X1_copyFrom : kCardV yX1_copyFrom cX1_copyFrom 2 none 1 := ⟨⟨wc_X1_copyFrom, wi_X1, by decide +kernel, by decide +kernel, rfl⟩, wk_X1_copyFrom, ws_X1_copyFrom⟩
set_option maxHeartbeats 4000000 in
set_option maxRecDepth 100000 in
theorem c_X1_copyFrom (l : Launch) (D : va_G) (tA : Nat → ClassId) (a : Nat → Nat) (s : Sg) (b : Nat → Nat) (s2 : Sg) (hw : Wf s) (hw2 : Wf s2) : Kx l D tA yX1_copyFrom cX1_copyFrom 2 none 2 39 [.ref (a 0), .ref (b 0)] (stW tA a s ++ (stW tA b s2)) none (stW tA a s2 ++ (stW tA b s2)) := by
  refine kx_void rfl (Nat.le_of_ble_eq_true rfl) (fun G X E => ?_)
  show J l D G 0 0 (stW tA a s ++ (stW tA b s2)) [(0, .ref (a 0)), (1, .ref (b 0))] 0 []
  have hn := hw.n
  have hn2 := hw2.n
  refine j_aload_n (pc := 0) X dX1_copyFrom_0 rfl (q := 0) rfl ?_
  refine j_get (pc := 1) X (C := RX1) (T := TX1) (N := 9) wz_X1 0 rfl rfl 0 (by decide) wf_X1_14 rfl dX1_copyFrom_1 ?_
  refine j_aload_n (pc := 4) X dX1_copyFrom_4 rfl (q := 1) rfl ?_
  refine j_get (pc := 5) X (C := RX1) (T := TX1) (N := 9) wz_X1 10 rfl rfl 0 (by decide) wf_X1_14 rfl dX1_copyFrom_5 ?_
  refine j_callV (pc := 8) X (st := []) (w' := (stW tA a (uM s (sM s2)) ++ (stW tA b s2))) (c_X2_copyFrom l D tA (a 1) (a 6) 5 3 (sM s) (b 1) (b 6) (sM s2) (by decide) (by decide) (by first | assumption | omega | decide) (by first | assumption | omega | decide)) cd_X2_copyFrom wm_X1_33 2 rfl rfl rfl [2, 3, 12, 13] rfl rfl (fst_app (tb_fst.trans tb_fst.symm) rfl) rfl ⟨Nat.le_of_ble_eq_true rfl, Nat.le_of_ble_eq_true rfl⟩ ⟨Nat.zero_le _, Nat.zero_le _⟩ rfl (Nat.le_of_ble_eq_true rfl) dX1_copyFrom_8 ?_
  refine j_aload_n (pc := 11) X dX1_copyFrom_11 rfl (q := 0) rfl ?_
  refine j_get (pc := 12) X (C := RX1) (T := TX1) (N := 9) wz_X1 0 rfl rfl 1 (by decide) wf_X1_20 rfl dX1_copyFrom_12 ?_
  refine j_aload_n (pc := 15) X dX1_copyFrom_15 rfl (q := 1) rfl ?_
  refine j_get (pc := 16) X (C := RX1) (T := TX1) (N := 9) wz_X1 10 rfl rfl 1 (by decide) wf_X1_20 rfl dX1_copyFrom_16 ?_
  refine j_callV (pc := 19) X (st := []) (w' := (stW tA a (uP (uM s (sM s2)) (sP s2)) ++ (stW tA b s2))) (c_X2_copyFrom l D tA (a 2) (a 7) 8 2 (sP s) (b 2) (b 7) (sP s2) (by decide) (by decide) (by first | assumption | omega | decide) (by first | assumption | omega | decide)) cd_X2_copyFrom wm_X1_33 4 rfl rfl rfl [4, 5, 14, 15] rfl rfl (fst_app (tb_fst.trans tb_fst.symm) rfl) rfl ⟨Nat.le_of_ble_eq_true rfl, Nat.le_of_ble_eq_true rfl⟩ ⟨Nat.zero_le _, Nat.zero_le _⟩ rfl (Nat.le_of_ble_eq_true rfl) dX1_copyFrom_19 ?_
  refine j_aload_n (pc := 22) X dX1_copyFrom_22 rfl (q := 0) rfl ?_
  refine j_get (pc := 23) X (C := RX1) (T := TX1) (N := 9) wz_X1 0 rfl rfl 2 (by decide) wf_X1_23 rfl dX1_copyFrom_23 ?_
  refine j_aload_n (pc := 26) X dX1_copyFrom_26 rfl (q := 1) rfl ?_
  refine j_get (pc := 27) X (C := RX1) (T := TX1) (N := 9) wz_X1 10 rfl rfl 2 (by decide) wf_X1_23 rfl dX1_copyFrom_27 ?_
  refine j_callV (pc := 30) X (st := []) (w' := (stW tA a (uB (uP (uM s (sM s2)) (sP s2)) (sB s2)) ++ (stW tA b s2))) (c_X2_copyFrom l D tA (a 3) (a 8) 30 8 (sB s) (b 3) (b 8) (sB s2) (by decide) (by decide) (by first | assumption | omega | decide) (by first | assumption | omega | decide)) cd_X2_copyFrom wm_X1_33 6 rfl rfl rfl [6, 7, 16, 17] rfl rfl (fst_app (tb_fst.trans tb_fst.symm) rfl) rfl ⟨Nat.le_of_ble_eq_true rfl, Nat.le_of_ble_eq_true rfl⟩ ⟨Nat.zero_le _, Nat.zero_le _⟩ rfl (Nat.le_of_ble_eq_true rfl) dX1_copyFrom_30 ?_
  refine j_aload_n (pc := 33) X dX1_copyFrom_33 rfl (q := 0) rfl ?_
  refine j_get (pc := 34) X (C := RX1) (T := TX1) (N := 9) wz_X1 0 rfl rfl 3 (by decide) wf_X1_26 rfl dX1_copyFrom_34 ?_
  refine j_aload_n (pc := 37) X dX1_copyFrom_37 rfl (q := 1) rfl ?_
  refine j_get (pc := 38) X (C := RX1) (T := TX1) (N := 9) wz_X1 10 rfl rfl 3 (by decide) wf_X1_26 rfl dX1_copyFrom_38 ?_
  refine j_callV (pc := 41) X (st := []) (w' := (stW tA a (uV (uB (uP (uM s (sM s2)) (sP s2)) (sB s2)) (sV s2)) ++ (stW tA b s2))) (c_X2_copyFrom l D tA (a 4) (a 9) 10 5 (sV s) (b 4) (b 9) (sV s2) (by decide) (by decide) (by first | assumption | omega | decide) (by first | assumption | omega | decide)) cd_X2_copyFrom wm_X1_33 8 rfl rfl rfl [8, 9, 18, 19] rfl rfl (fst_app (tb_fst.trans tb_fst.symm) rfl) rfl ⟨Nat.le_of_ble_eq_true rfl, Nat.le_of_ble_eq_true rfl⟩ ⟨Nat.zero_le _, Nat.zero_le _⟩ rfl (Nat.le_of_ble_eq_true rfl) dX1_copyFrom_41 ?_
  refine j_aload_n (pc := 44) X dX1_copyFrom_44 rfl (q := 1) rfl ?_
  refine j_get (pc := 45) X (C := RX1) (T := TX1) (N := 9) wz_X1 10 rfl rfl 4 (by decide) wf_X1_29 rfl dX1_copyFrom_45 ?_
  refine j_iconst (pc := 48) X (v := (nI 0)) dX1_copyFrom_48 (by decide) ?_
  refine j_aload_n (pc := 49) X dX1_copyFrom_49 rfl (q := 0) rfl ?_
  refine j_get (pc := 50) X (C := RX1) (T := TX1) (N := 9) wz_X1 0 rfl rfl 4 (by decide) wf_X1_29 rfl dX1_copyFrom_50 ?_
  refine j_iconst (pc := 53) X (v := (nI 0)) dX1_copyFrom_53 (by decide) ?_
  refine j_aload_n (pc := 54) X dX1_copyFrom_54 rfl (q := 1) rfl ?_
  refine j_get (pc := 55) X (C := RX1) (T := TX1) (N := 9) wz_X1 10 rfl rfl 4 (by decide) wf_X1_29 rfl dX1_copyFrom_55 ?_
  refine j_alen (pc := 58) X 11 0 rfl rfl dX1_copyFrom_58 ?_
  refine j_aload_n (pc := 59) X dX1_copyFrom_59 rfl (q := 0) rfl ?_
  refine j_get (pc := 60) X (C := RX1) (T := TX1) (N := 9) wz_X1 0 rfl rfl 4 (by decide) wf_X1_29 rfl dX1_copyFrom_60 ?_
  refine j_alen (pc := 63) X 1 0 rfl rfl dX1_copyFrom_63 ?_
  refine j_mmin (pc := 64) X wm_X1_37 (Nat.le_of_ble_eq_true rfl) (Nat.le_of_ble_eq_true rfl) ⟨Nat.zero_le _, Nat.zero_le _⟩ (v := (nI 200)) (by decide +kernel) dX1_copyFrom_64 ?_
  refine j_copy (pc := 67) X 11 1 rfl rfl (by omega) wm_X1_43 (Nat.le_of_ble_eq_true rfl) (Nat.le_of_ble_eq_true rfl) (w' := (stW tA a (uW (uV (uB (uP (uM s (sM s2)) (sP s2)) (sB s2)) (sV s2)) (sW s2)) ++ (stW tA b s2))) rfl dX1_copyFrom_67 ?_
  refine j_aload_n (pc := 70) X dX1_copyFrom_70 rfl (q := 0) rfl ?_
  refine j_aload_n (pc := 71) X dX1_copyFrom_71 rfl (q := 1) rfl ?_
  refine j_get (pc := 72) X (C := RX1) (T := TX1) (N := 9) wz_X1 10 rfl rfl 5 (by decide) wf_X1_49 rfl dX1_copyFrom_72 ?_
  refine j_put (pc := 75) X (C := RX1) (T := TX1) (N := 9) wz_X1 tyX1 tyX1_ok nmX1 0 rfl rfl 5 (by decide) wf_X1_49 rfl rfl rfl (Nat.le_of_ble_eq_true rfl) (w' := (stW tA a (uN (uW (uV (uB (uP (uM s (sM s2)) (sP s2)) (sB s2)) (sV s2)) (sW s2)) (sN s2)) ++ (stW tA b s2))) rfl dX1_copyFrom_75 ?_
  refine j_aload_n (pc := 78) X dX1_copyFrom_78 rfl (q := 0) rfl ?_
  refine j_aload_n (pc := 79) X dX1_copyFrom_79 rfl (q := 1) rfl ?_
  refine j_get (pc := 80) X (C := RX1) (T := TX1) (N := 9) wz_X1 10 rfl rfl 6 (by decide) wf_X1_53 rfl dX1_copyFrom_80 ?_
  refine j_put (pc := 83) X (C := RX1) (T := TX1) (N := 9) wz_X1 tyX1 tyX1_ok nmX1 0 rfl rfl 6 (by decide) wf_X1_53 rfl rfl rfl (Nat.le_of_ble_eq_true rfl) (w' := (stW tA a (uD (uN (uW (uV (uB (uP (uM s (sM s2)) (sP s2)) (sB s2)) (sV s2)) (sW s2)) (sN s2)) (sD s2)) ++ (stW tA b s2))) rfl dX1_copyFrom_83 ?_
  refine j_aload_n (pc := 86) X dX1_copyFrom_86 rfl (q := 0) rfl ?_
  refine j_aload_n (pc := 87) X dX1_copyFrom_87 rfl (q := 1) rfl ?_
  refine j_get (pc := 88) X (C := RX1) (T := TX1) (N := 9) wz_X1 10 rfl rfl 7 (by decide) wf_X1_56 rfl dX1_copyFrom_88 ?_
  refine j_put (pc := 91) X (C := RX1) (T := TX1) (N := 9) wz_X1 tyX1 tyX1_ok nmX1 0 rfl rfl 7 (by decide) wf_X1_56 rfl rfl rfl (Nat.le_of_ble_eq_true rfl) (w' := (stW tA a (uF (uD (uN (uW (uV (uB (uP (uM s (sM s2)) (sP s2)) (sB s2)) (sV s2)) (sW s2)) (sN s2)) (sD s2)) (sF s2)) ++ (stW tA b s2))) rfl dX1_copyFrom_91 ?_
  refine j_aload_n (pc := 94) X dX1_copyFrom_94 rfl (q := 0) rfl ?_
  refine j_aload_n (pc := 95) X dX1_copyFrom_95 rfl (q := 1) rfl ?_
  refine j_get (pc := 96) X (C := RX1) (T := TX1) (N := 9) wz_X1 10 rfl rfl 8 (by decide) wf_X1_59 rfl dX1_copyFrom_96 ?_
  refine j_put (pc := 99) X (C := RX1) (T := TX1) (N := 9) wz_X1 tyX1 tyX1_ok nmX1 0 rfl rfl 8 (by decide) wf_X1_59 rfl rfl rfl (Nat.le_of_ble_eq_true rfl) (w' := (stW tA a (uX (uF (uD (uN (uW (uV (uB (uP (uM s (sM s2)) (sP s2)) (sB s2)) (sV s2)) (sW s2)) (sN s2)) (sD s2)) (sF s2)) (sX s2)) ++ (stW tA b s2))) rfl dX1_copyFrom_99 ?_
  exact j_endV (pc := 102) E dX1_copyFrom_102 rfl
theorem cd_X0_size : kCardV yX0_size cX0_size 1 (some .int) 0 := ⟨⟨wc_X0_size, wi_X0, by decide +kernel, by decide +kernel, rfl⟩, wk_X0_size, ws_X0_size⟩
set_option maxHeartbeats 4000000 in
set_option maxRecDepth 100000 in
theorem c_X0_size (l : Launch) (D : va_G) (tA : Nat → ClassId) (h : Nat → Nat) (d : Nat → Nat → Nat) (nx sz : Nat)  : Kx l D tA yX0_size cX0_size 1 (some .int) 0 0 [.ref (h 0)] ([(h 0, .inr (0, [.ref (h 1), .int (nI nx), .int (nI sz)])), (h 1, .inl (tA 2, 4, .inr (.inr (.inr (.inr (fun i => some (d i 0)))))))]) (some (.int (nI sz))) ([(h 0, .inr (0, [.ref (h 1), .int (nI nx), .int (nI sz)])), (h 1, .inl (tA 2, 4, .inr (.inr (.inr (.inr (fun i => some (d i 0)))))))]) := by
  refine kx_int rfl (Nat.le_of_ble_eq_true rfl) (fun G X E => ?_)
  show J l D G 0 0 ([(h 0, .inr (0, [.ref (h 1), .int (nI nx), .int (nI sz)])), (h 1, .inl (tA 2, 4, .inr (.inr (.inr (.inr (fun i => some (d i 0)))))))]) [(0, .ref (h 0))] 0 []
  refine j_aload_n (pc := 0) X dX0_size_0 rfl (q := 0) rfl ?_
  refine j_get (pc := 1) X (C := RX0) (T := TX0) (N := 3) wz_X0 0 rfl rfl 2 (by decide) wf_X0_18 rfl dX0_size_1 ?_
  exact j_endI (pc := 4) E dX0_size_4 rfl rfl
theorem cd_X0_stateAt : kCardV yX0_stateAt cX0_stateAt 2 (some (.object "BallastClub$State")) 1 := ⟨⟨wc_X0_stateAt, wi_X0, by decide +kernel, by decide +kernel, rfl⟩, wk_X0_stateAt, ws_X0_stateAt⟩
set_option maxHeartbeats 4000000 in
set_option maxRecDepth 100000 in
theorem c_X0_stateAt (l : Launch) (D : va_G) (tA : Nat → ClassId) (h : Nat → Nat) (d : Nat → Nat → Nat) (nx sz i : Nat) (hi : i < 4) : Kx l D tA yX0_stateAt cX0_stateAt 2 (some (.object "BallastClub$State")) 0 0 [.ref (h 0), .int (nI i)] ([(h 0, .inr (0, [.ref (h 1), .int (nI nx), .int (nI sz)])), (h 1, .inl (tA 2, 4, .inr (.inr (.inr (.inr (fun i => some (d i 0)))))))]) (some (.ref (d i 0))) ([(h 0, .inr (0, [.ref (h 1), .int (nI nx), .int (nI sz)])), (h 1, .inl (tA 2, 4, .inr (.inr (.inr (.inr (fun i => some (d i 0)))))))]) := by
  refine kx_ref rfl (Nat.le_of_ble_eq_true rfl) (fun G X E => ?_)
  show J l D G 0 0 ([(h 0, .inr (0, [.ref (h 1), .int (nI nx), .int (nI sz)])), (h 1, .inl (tA 2, 4, .inr (.inr (.inr (.inr (fun i => some (d i 0)))))))]) [(0, .ref (h 0)), (1, .int (nI i))] 0 []
  refine j_iload_n (pc := 0) X dX0_stateAt_0 rfl (q := 1) rfl ?_
  refine j_if_lt_f (pc := 1) X (tgt := 22) dX0_stateAt_1 (by decide) (nI_pos (by omega)) ?_
  refine j_iload_n (pc := 4) X dX0_stateAt_4 rfl (q := 1) rfl ?_
  refine j_aload_n (pc := 5) X dX0_stateAt_5 rfl (q := 0) rfl ?_
  refine j_get (pc := 6) X (C := RX0) (T := TX0) (N := 3) wz_X0 0 rfl rfl 0 (by decide) wf_X0_11 rfl dX0_stateAt_6 ?_
  refine j_alen (pc := 9) X 1 2 rfl rfl dX0_stateAt_9 ?_
  refine j_icmp_ge_f (pc := 10) X (tgt := 22) dX0_stateAt_10 (by decide) (nI_ge hi (by omega)) ?_
  refine j_aload_n (pc := 13) X dX0_stateAt_13 rfl (q := 0) rfl ?_
  refine j_get (pc := 14) X (C := RX0) (T := TX0) (N := 3) wz_X0 0 rfl rfl 0 (by decide) wf_X0_11 rfl dX0_stateAt_14 ?_
  refine j_iload_n (pc := 17) X dX0_stateAt_17 rfl (q := 1) rfl ?_
  refine j_aald (pc := 18) X 1 (i := i) rfl (by omega) (by omega) (v := (d i 0)) rfl dX0_stateAt_18 ?_
  refine j_goto (pc := 19) X (tgt := 23) dX0_stateAt_19 (by decide) ?_
  exact j_endA (pc := 23) E dX0_stateAt_23 rfl rfl
theorem cd_X0_push : kCardV yX0_push cX0_push 3 none 1 := ⟨⟨wc_X0_push, wi_X0, by decide +kernel, by decide +kernel, rfl⟩, wk_X0_push, ws_X0_push⟩
theorem cd_X0_popInto : kCardV yX0_popInto cX0_popInto 4 none 1 := ⟨⟨wc_X0_popInto, wi_X0, by decide +kernel, by decide +kernel, rfl⟩, wk_X0_popInto, ws_X0_popInto⟩
set_option maxHeartbeats 4000000 in
set_option maxRecDepth 100000 in
theorem c_X0_push_0 (l : Launch) (D : va_G) (tA : Nat → ClassId) (h : Nat → Nat) (d : Nat → Nat → Nat) (hs : Nat → Sg) (sz : Nat) (a : Nat → Nat) (s : Sg) (hsz : sz ≤ 4) (hh : ∀ i, Wf (hs i)) (hw : Wf s) : Kx l D tA yX0_push cX0_push 3 none 3 60 [.ref (h 0), .ref (a 0)] ([(h 0, .inr (0, [.ref (h 1), .int (nI 0), .int (nI sz)])), (h 1, .inl (tA 2, 4, .inr (.inr (.inr (.inr (fun i => some (d i 0)))))))] ++ (stW tA (d 0) (hs 0) ++ (stW tA (d 1) (hs 1) ++ (stW tA (d 2) (hs 2) ++ (stW tA (d 3) (hs 3) ++ (stW tA a s)))))) none ([(h 0, .inr (0, [.ref (h 1), .int (nI 1), .int (nI (min (sz + 1) 4))])), (h 1, .inl (tA 2, 4, .inr (.inr (.inr (.inr (fun i => some (d i 0)))))))] ++ (stW tA (d 0) s ++ (stW tA (d 1) (hs 1) ++ (stW tA (d 2) (hs 2) ++ (stW tA (d 3) (hs 3) ++ (stW tA a s)))))) := by
  refine kx_void rfl (Nat.le_of_ble_eq_true rfl) (fun G X E => ?_)
  show J l D G 0 0 ([(h 0, .inr (0, [.ref (h 1), .int (nI 0), .int (nI sz)])), (h 1, .inl (tA 2, 4, .inr (.inr (.inr (.inr (fun i => some (d i 0)))))))] ++ (stW tA (d 0) (hs 0) ++ (stW tA (d 1) (hs 1) ++ (stW tA (d 2) (hs 2) ++ (stW tA (d 3) (hs 3) ++ (stW tA a s)))))) [(0, .ref (h 0)), (1, .ref (a 0))] 0 []
  refine j_aload_n (pc := 0) X dX0_push_0 rfl (q := 0) rfl ?_
  refine j_aload_n (pc := 1) X dX0_push_1 rfl (q := 0) rfl ?_
  refine j_get (pc := 2) X (C := RX0) (T := TX0) (N := 3) wz_X0 0 rfl rfl 1 (by decide) wf_X0_22 rfl dX0_push_2 ?_
  refine j_callVR (pc := 5) X (st := [])  (c_X0_stateAt l D tA h d 0 sz 0 (by omega)) cd_X0_stateAt wm_X0_25 0 rfl rfl rfl [0, 1] rfl rfl ⟨Nat.le_of_ble_eq_true rfl, Nat.le_of_ble_eq_true rfl⟩ ⟨Nat.zero_le _, Nat.zero_le _⟩ rfl (Nat.le_of_ble_eq_true rfl) dX0_push_5 ?_
  refine j_astore_n (pc := 8) X (lv' := [(2, .ref ((d 0) 0)), (0, .ref (h 0)), (1, .ref (a 0))]) dX0_push_8 rfl (by decide) rfl ?_
  refine j_aload_n (pc := 9) X dX0_push_9 rfl (q := 0) rfl ?_
  refine j_ifnonnull (pc := 10) X (tgt := 14) dX0_push_10 (by decide) ?_
  refine j_aload_n (pc := 14) X dX0_push_14 rfl (q := 0) rfl ?_
  refine j_aload_n (pc := 15) X dX0_push_15 rfl (q := 2) rfl ?_
  refine j_callVB (pc := 16) X (st := []) (wr := ([(h 0, .inr (0, [.ref (h 1), .int (nI 0), .int (nI sz)])), (h 1, .inl (tA 2, 4, .inr (.inr (.inr (.inr (fun i => some (d i 0)))))))] ++ (stW tA (d 1) (hs 1) ++ (stW tA (d 2) (hs 2) ++ (stW tA (d 3) (hs 3)))))) (w' := ([(h 0, .inr (0, [.ref (h 1), .int (nI 0), .int (nI sz)])), (h 1, .inl (tA 2, 4, .inr (.inr (.inr (.inr (fun i => some (d i 0)))))))] ++ (stW tA (d 0) s ++ (stW tA (d 1) (hs 1) ++ (stW tA (d 2) (hs 2) ++ (stW tA (d 3) (hs 3) ++ (stW tA a s))))))) (c_X1_copyFrom l D tA (d 0) (hs 0) a s (hh 0) hw) cd_X1_copyFrom wm_X0_29 2 rfl rfl rfl [2, 3, 4, 5, 6, 7, 8, 9, 10, 11, 42, 43, 44, 45, 46, 47, 48, 49, 50, 51] rfl rfl [0, 1, 12, 13, 14, 15, 16, 17, 18, 19, 20, 21, 22, 23, 24, 25, 26, 27, 28, 29, 30, 31, 32, 33, 34, 35, 36, 37, 38, 39, 40, 41] rfl rfl (fst_app (st_fst.trans st_fst.symm) rfl) [20, 21, 0, 1, 2, 3, 4, 5, 6, 7, 8, 9, 22, 23, 24, 25, 26, 27, 28, 29, 30, 31, 32, 33, 34, 35, 36, 37, 38, 39, 40, 41, 42, 43, 44, 45, 46, 47, 48, 49, 50, 51, 10, 11, 12, 13, 14, 15, 16, 17, 18, 19] rfl rfl ⟨Nat.le_of_ble_eq_true rfl, Nat.le_of_ble_eq_true rfl⟩ ⟨Nat.zero_le _, Nat.zero_le _⟩ rfl (Nat.le_of_ble_eq_true rfl) dX0_push_16 ?_
  refine j_aload_n (pc := 19) X dX0_push_19 rfl (q := 1) rfl ?_
  refine j_aload_n (pc := 20) X dX0_push_20 rfl (q := 1) rfl ?_
  refine j_get (pc := 21) X (C := RX0) (T := TX0) (N := 3) wz_X0 0 rfl rfl 1 (by decide) wf_X0_22 rfl dX0_push_21 ?_
  refine j_iconst (pc := 24) X (v := (nI 1)) dX0_push_24 (by decide) ?_
  refine j_iadd (pc := 25) X (v := (nI 1)) dX0_push_25 (nI_add _ _) ?_
  refine j_iconst (pc := 26) X (v := (nI 4)) dX0_push_26 (by decide) ?_
  refine j_irem (pc := 27) X (v := (nI 1)) dX0_push_27 (by decide +kernel) (by decide +kernel) ?_
  refine j_put (pc := 28) X (C := RX0) (T := TX0) (N := 3) wz_X0 tyX0 tyX0_ok nmX0 0 rfl rfl 1 (by decide) wf_X0_22 rfl rfl rfl (Nat.le_of_ble_eq_true rfl) (w' := ([(h 0, .inr (0, [.ref (h 1), .int (nI 1), .int (nI sz)])), (h 1, .inl (tA 2, 4, .inr (.inr (.inr (.inr (fun i => some (d i 0)))))))] ++ (stW tA (d 0) s ++ (stW tA (d 1) (hs 1) ++ (stW tA (d 2) (hs 2) ++ (stW tA (d 3) (hs 3) ++ (stW tA a s))))))) rfl dX0_push_28 ?_
  refine j_aload_n (pc := 31) X dX0_push_31 rfl (q := 1) rfl ?_
  refine j_aload_n (pc := 32) X dX0_push_32 rfl (q := 1) rfl ?_
  refine j_get (pc := 33) X (C := RX0) (T := TX0) (N := 3) wz_X0 0 rfl rfl 2 (by decide) wf_X0_18 rfl dX0_push_33 ?_
  refine j_iconst (pc := 36) X (v := (nI 1)) dX0_push_36 (by decide) ?_
  refine j_iadd (pc := 37) X (v := (nI (sz + 1))) dX0_push_37 (nI_add _ _) ?_
  refine j_iconst (pc := 38) X (v := (nI 4)) dX0_push_38 (by decide) ?_
  refine j_mmin (pc := 39) X wm_X0_33 (Nat.le_of_ble_eq_true rfl) (Nat.le_of_ble_eq_true rfl) ⟨Nat.zero_le _, Nat.zero_le _⟩ (v := (nI (min (sz + 1) 4))) (nI_min (by omega) (by omega)) dX0_push_39 ?_
  refine j_put (pc := 42) X (C := RX0) (T := TX0) (N := 3) wz_X0 tyX0 tyX0_ok nmX0 0 rfl rfl 2 (by decide) wf_X0_18 rfl rfl rfl (Nat.le_of_ble_eq_true rfl) (w' := ([(h 0, .inr (0, [.ref (h 1), .int (nI 1), .int (nI (min (sz + 1) 4))])), (h 1, .inl (tA 2, 4, .inr (.inr (.inr (.inr (fun i => some (d i 0)))))))] ++ (stW tA (d 0) s ++ (stW tA (d 1) (hs 1) ++ (stW tA (d 2) (hs 2) ++ (stW tA (d 3) (hs 3) ++ (stW tA a s))))))) rfl dX0_push_42 ?_
  exact j_endV (pc := 45) E dX0_push_45 rfl
set_option maxHeartbeats 4000000 in
set_option maxRecDepth 100000 in
theorem c_X0_popInto_0 (l : Launch) (D : va_G) (tA : Nat → ClassId) (h : Nat → Nat) (d : Nat → Nat → Nat) (hs : Nat → Sg) (sz : Nat) (a : Nat → Nat) (s : Sg) (hsz : sz ≤ 4) (h0 : 1 ≤ sz) (hh : ∀ i, Wf (hs i)) (hw : Wf s) : Kx l D tA yX0_popInto cX0_popInto 4 none 3 60 [.ref (h 0), .ref (a 0)] ([(h 0, .inr (0, [.ref (h 1), .int (nI 0), .int (nI sz)])), (h 1, .inl (tA 2, 4, .inr (.inr (.inr (.inr (fun i => some (d i 0)))))))] ++ (stW tA (d 0) (hs 0) ++ (stW tA (d 1) (hs 1) ++ (stW tA (d 2) (hs 2) ++ (stW tA (d 3) (hs 3) ++ (stW tA a s)))))) none ([(h 0, .inr (0, [.ref (h 1), .int (nI 3), .int (nI (sz - 1))])), (h 1, .inl (tA 2, 4, .inr (.inr (.inr (.inr (fun i => some (d i 0)))))))] ++ (stW tA (d 0) (hs 0) ++ (stW tA (d 1) (hs 1) ++ (stW tA (d 2) (hs 2) ++ (stW tA (d 3) (hs 3) ++ (stW tA a (hs 3))))))) := by
  refine kx_void rfl (Nat.le_of_ble_eq_true rfl) (fun G X E => ?_)
  show J l D G 0 0 ([(h 0, .inr (0, [.ref (h 1), .int (nI 0), .int (nI sz)])), (h 1, .inl (tA 2, 4, .inr (.inr (.inr (.inr (fun i => some (d i 0)))))))] ++ (stW tA (d 0) (hs 0) ++ (stW tA (d 1) (hs 1) ++ (stW tA (d 2) (hs 2) ++ (stW tA (d 3) (hs 3) ++ (stW tA a s)))))) [(0, .ref (h 0)), (1, .ref (a 0))] 0 []
  refine j_aload_n (pc := 0) X dX0_popInto_0 rfl (q := 0) rfl ?_
  refine j_get (pc := 1) X (C := RX0) (T := TX0) (N := 3) wz_X0 0 rfl rfl 1 (by decide) wf_X0_22 rfl dX0_popInto_1 ?_
  refine j_iconst (pc := 4) X (v := (nI 4)) dX0_popInto_4 (by decide) ?_
  refine j_iadd (pc := 5) X (v := (nI 4)) dX0_popInto_5 (nI_add _ _) ?_
  refine j_iconst (pc := 6) X (v := (nI 1)) dX0_popInto_6 (by decide) ?_
  refine j_isub (pc := 7) X (v := (nI 3)) dX0_popInto_7 (pk_sub (by omega)) ?_
  refine j_iconst (pc := 8) X (v := (nI 4)) dX0_popInto_8 (by decide) ?_
  refine j_irem (pc := 9) X (v := (nI 3)) dX0_popInto_9 (by decide +kernel) (by decide +kernel) ?_
  refine j_istore_n (pc := 10) X (lv' := [(2, .int (nI 3)), (0, .ref (h 0)), (1, .ref (a 0))]) dX0_popInto_10 rfl (by decide) rfl ?_
  refine j_aload_n (pc := 11) X dX0_popInto_11 rfl (q := 1) rfl ?_
  refine j_iload_n (pc := 12) X dX0_popInto_12 rfl (q := 0) rfl ?_
  refine j_callVR (pc := 13) X (st := [])  (c_X0_stateAt l D tA h d 0 sz 3 (by omega)) cd_X0_stateAt wm_X0_25 0 rfl rfl rfl [0, 1] rfl rfl ⟨Nat.le_of_ble_eq_true rfl, Nat.le_of_ble_eq_true rfl⟩ ⟨Nat.zero_le _, Nat.zero_le _⟩ rfl (Nat.le_of_ble_eq_true rfl) dX0_popInto_13 ?_
  refine j_astore_n (pc := 16) X (lv' := [(3, .ref ((d 3) 0)), (2, .int (nI 3)), (0, .ref (h 0)), (1, .ref (a 0))]) dX0_popInto_16 rfl (by decide) rfl ?_
  refine j_aload_n (pc := 17) X dX0_popInto_17 rfl (q := 2) rfl ?_
  refine j_get (pc := 18) X (C := RX0) (T := TX0) (N := 3) wz_X0 0 rfl rfl 2 (by decide) wf_X0_18 rfl dX0_popInto_18 ?_
  refine j_if_eq_f (pc := 21) X (tgt := 28) dX0_popInto_21 (by decide) (nI_ne0 (by omega) (by omega)) ?_
  refine j_aload_n (pc := 24) X dX0_popInto_24 rfl (q := 0) rfl ?_
  refine j_ifnonnull (pc := 25) X (tgt := 29) dX0_popInto_25 (by decide) ?_
  refine j_aload_n (pc := 29) X dX0_popInto_29 rfl (q := 3) rfl ?_
  refine j_aload_n (pc := 30) X dX0_popInto_30 rfl (q := 0) rfl ?_
  refine j_callVB (pc := 31) X (st := []) (wr := ([(h 0, .inr (0, [.ref (h 1), .int (nI 0), .int (nI sz)])), (h 1, .inl (tA 2, 4, .inr (.inr (.inr (.inr (fun i => some (d i 0)))))))] ++ (stW tA (d 0) (hs 0) ++ (stW tA (d 1) (hs 1) ++ (stW tA (d 2) (hs 2)))))) (w' := ([(h 0, .inr (0, [.ref (h 1), .int (nI 0), .int (nI sz)])), (h 1, .inl (tA 2, 4, .inr (.inr (.inr (.inr (fun i => some (d i 0)))))))] ++ (stW tA (d 0) (hs 0) ++ (stW tA (d 1) (hs 1) ++ (stW tA (d 2) (hs 2) ++ (stW tA (d 3) (hs 3) ++ (stW tA a (hs 3)))))))) (c_X1_copyFrom l D tA a s (d 3) (hs 3) hw (hh 3)) cd_X1_copyFrom wm_X0_29 42 rfl rfl rfl [42, 43, 44, 45, 46, 47, 48, 49, 50, 51, 32, 33, 34, 35, 36, 37, 38, 39, 40, 41] rfl rfl [0, 1, 2, 3, 4, 5, 6, 7, 8, 9, 10, 11, 12, 13, 14, 15, 16, 17, 18, 19, 20, 21, 22, 23, 24, 25, 26, 27, 28, 29, 30, 31] rfl rfl (fst_app (st_fst.trans st_fst.symm) rfl) [20, 21, 22, 23, 24, 25, 26, 27, 28, 29, 30, 31, 32, 33, 34, 35, 36, 37, 38, 39, 40, 41, 42, 43, 44, 45, 46, 47, 48, 49, 50, 51, 10, 11, 12, 13, 14, 15, 16, 17, 18, 19, 0, 1, 2, 3, 4, 5, 6, 7, 8, 9] rfl rfl ⟨Nat.le_of_ble_eq_true rfl, Nat.le_of_ble_eq_true rfl⟩ ⟨Nat.zero_le _, Nat.zero_le _⟩ rfl (Nat.le_of_ble_eq_true rfl) dX0_popInto_31 ?_
  refine j_aload_n (pc := 34) X dX0_popInto_34 rfl (q := 2) rfl ?_
  refine j_iload_n (pc := 35) X dX0_popInto_35 rfl (q := 1) rfl ?_
  refine j_put (pc := 36) X (C := RX0) (T := TX0) (N := 3) wz_X0 tyX0 tyX0_ok nmX0 0 rfl rfl 1 (by decide) wf_X0_22 rfl rfl rfl (Nat.le_of_ble_eq_true rfl) (w' := ([(h 0, .inr (0, [.ref (h 1), .int (nI 3), .int (nI sz)])), (h 1, .inl (tA 2, 4, .inr (.inr (.inr (.inr (fun i => some (d i 0)))))))] ++ (stW tA (d 0) (hs 0) ++ (stW tA (d 1) (hs 1) ++ (stW tA (d 2) (hs 2) ++ (stW tA (d 3) (hs 3) ++ (stW tA a (hs 3)))))))) rfl dX0_popInto_36 ?_
  refine j_aload_n (pc := 39) X dX0_popInto_39 rfl (q := 2) rfl ?_
  refine j_dup (pc := 40) X dX0_popInto_40 rfl ?_
  refine j_get (pc := 41) X (C := RX0) (T := TX0) (N := 3) wz_X0 0 rfl rfl 2 (by decide) wf_X0_18 rfl dX0_popInto_41 ?_
  refine j_iconst (pc := 44) X (v := (nI 1)) dX0_popInto_44 (by decide) ?_
  refine j_isub (pc := 45) X (v := (nI (sz - 1))) dX0_popInto_45 (pk_sub (by omega)) ?_
  refine j_put (pc := 46) X (C := RX0) (T := TX0) (N := 3) wz_X0 tyX0 tyX0_ok nmX0 0 rfl rfl 2 (by decide) wf_X0_18 rfl rfl rfl (Nat.le_of_ble_eq_true rfl) (w' := ([(h 0, .inr (0, [.ref (h 1), .int (nI 3), .int (nI (sz - 1))])), (h 1, .inl (tA 2, 4, .inr (.inr (.inr (.inr (fun i => some (d i 0)))))))] ++ (stW tA (d 0) (hs 0) ++ (stW tA (d 1) (hs 1) ++ (stW tA (d 2) (hs 2) ++ (stW tA (d 3) (hs 3) ++ (stW tA a (hs 3)))))))) rfl dX0_popInto_46 ?_
  exact j_endV (pc := 49) E dX0_popInto_49 rfl
set_option maxHeartbeats 4000000 in
set_option maxRecDepth 100000 in
theorem c_X0_push_1 (l : Launch) (D : va_G) (tA : Nat → ClassId) (h : Nat → Nat) (d : Nat → Nat → Nat) (hs : Nat → Sg) (sz : Nat) (a : Nat → Nat) (s : Sg) (hsz : sz ≤ 4) (hh : ∀ i, Wf (hs i)) (hw : Wf s) : Kx l D tA yX0_push cX0_push 3 none 3 60 [.ref (h 0), .ref (a 0)] ([(h 0, .inr (0, [.ref (h 1), .int (nI 1), .int (nI sz)])), (h 1, .inl (tA 2, 4, .inr (.inr (.inr (.inr (fun i => some (d i 0)))))))] ++ (stW tA (d 0) (hs 0) ++ (stW tA (d 1) (hs 1) ++ (stW tA (d 2) (hs 2) ++ (stW tA (d 3) (hs 3) ++ (stW tA a s)))))) none ([(h 0, .inr (0, [.ref (h 1), .int (nI 2), .int (nI (min (sz + 1) 4))])), (h 1, .inl (tA 2, 4, .inr (.inr (.inr (.inr (fun i => some (d i 0)))))))] ++ (stW tA (d 0) (hs 0) ++ (stW tA (d 1) s ++ (stW tA (d 2) (hs 2) ++ (stW tA (d 3) (hs 3) ++ (stW tA a s)))))) := by
  refine kx_void rfl (Nat.le_of_ble_eq_true rfl) (fun G X E => ?_)
  show J l D G 0 0 ([(h 0, .inr (0, [.ref (h 1), .int (nI 1), .int (nI sz)])), (h 1, .inl (tA 2, 4, .inr (.inr (.inr (.inr (fun i => some (d i 0)))))))] ++ (stW tA (d 0) (hs 0) ++ (stW tA (d 1) (hs 1) ++ (stW tA (d 2) (hs 2) ++ (stW tA (d 3) (hs 3) ++ (stW tA a s)))))) [(0, .ref (h 0)), (1, .ref (a 0))] 0 []
  refine j_aload_n (pc := 0) X dX0_push_0 rfl (q := 0) rfl ?_
  refine j_aload_n (pc := 1) X dX0_push_1 rfl (q := 0) rfl ?_
  refine j_get (pc := 2) X (C := RX0) (T := TX0) (N := 3) wz_X0 0 rfl rfl 1 (by decide) wf_X0_22 rfl dX0_push_2 ?_
  refine j_callVR (pc := 5) X (st := [])  (c_X0_stateAt l D tA h d 1 sz 1 (by omega)) cd_X0_stateAt wm_X0_25 0 rfl rfl rfl [0, 1] rfl rfl ⟨Nat.le_of_ble_eq_true rfl, Nat.le_of_ble_eq_true rfl⟩ ⟨Nat.zero_le _, Nat.zero_le _⟩ rfl (Nat.le_of_ble_eq_true rfl) dX0_push_5 ?_
  refine j_astore_n (pc := 8) X (lv' := [(2, .ref ((d 1) 0)), (0, .ref (h 0)), (1, .ref (a 0))]) dX0_push_8 rfl (by decide) rfl ?_
  refine j_aload_n (pc := 9) X dX0_push_9 rfl (q := 0) rfl ?_
  refine j_ifnonnull (pc := 10) X (tgt := 14) dX0_push_10 (by decide) ?_
  refine j_aload_n (pc := 14) X dX0_push_14 rfl (q := 0) rfl ?_
  refine j_aload_n (pc := 15) X dX0_push_15 rfl (q := 2) rfl ?_
  refine j_callVB (pc := 16) X (st := []) (wr := ([(h 0, .inr (0, [.ref (h 1), .int (nI 1), .int (nI sz)])), (h 1, .inl (tA 2, 4, .inr (.inr (.inr (.inr (fun i => some (d i 0)))))))] ++ (stW tA (d 0) (hs 0) ++ (stW tA (d 2) (hs 2) ++ (stW tA (d 3) (hs 3)))))) (w' := ([(h 0, .inr (0, [.ref (h 1), .int (nI 1), .int (nI sz)])), (h 1, .inl (tA 2, 4, .inr (.inr (.inr (.inr (fun i => some (d i 0)))))))] ++ (stW tA (d 0) (hs 0) ++ (stW tA (d 1) s ++ (stW tA (d 2) (hs 2) ++ (stW tA (d 3) (hs 3) ++ (stW tA a s))))))) (c_X1_copyFrom l D tA (d 1) (hs 1) a s (hh 1) hw) cd_X1_copyFrom wm_X0_29 12 rfl rfl rfl [12, 13, 14, 15, 16, 17, 18, 19, 20, 21, 42, 43, 44, 45, 46, 47, 48, 49, 50, 51] rfl rfl [0, 1, 2, 3, 4, 5, 6, 7, 8, 9, 10, 11, 22, 23, 24, 25, 26, 27, 28, 29, 30, 31, 32, 33, 34, 35, 36, 37, 38, 39, 40, 41] rfl rfl (fst_app (st_fst.trans st_fst.symm) rfl) [20, 21, 22, 23, 24, 25, 26, 27, 28, 29, 30, 31, 0, 1, 2, 3, 4, 5, 6, 7, 8, 9, 32, 33, 34, 35, 36, 37, 38, 39, 40, 41, 42, 43, 44, 45, 46, 47, 48, 49, 50, 51, 10, 11, 12, 13, 14, 15, 16, 17, 18, 19] rfl rfl ⟨Nat.le_of_ble_eq_true rfl, Nat.le_of_ble_eq_true rfl⟩ ⟨Nat.zero_le _, Nat.zero_le _⟩ rfl (Nat.le_of_ble_eq_true rfl) dX0_push_16 ?_
  refine j_aload_n (pc := 19) X dX0_push_19 rfl (q := 1) rfl ?_
  refine j_aload_n (pc := 20) X dX0_push_20 rfl (q := 1) rfl ?_
  refine j_get (pc := 21) X (C := RX0) (T := TX0) (N := 3) wz_X0 0 rfl rfl 1 (by decide) wf_X0_22 rfl dX0_push_21 ?_
  refine j_iconst (pc := 24) X (v := (nI 1)) dX0_push_24 (by decide) ?_
  refine j_iadd (pc := 25) X (v := (nI 2)) dX0_push_25 (nI_add _ _) ?_
  refine j_iconst (pc := 26) X (v := (nI 4)) dX0_push_26 (by decide) ?_
  refine j_irem (pc := 27) X (v := (nI 2)) dX0_push_27 (by decide +kernel) (by decide +kernel) ?_
  refine j_put (pc := 28) X (C := RX0) (T := TX0) (N := 3) wz_X0 tyX0 tyX0_ok nmX0 0 rfl rfl 1 (by decide) wf_X0_22 rfl rfl rfl (Nat.le_of_ble_eq_true rfl) (w' := ([(h 0, .inr (0, [.ref (h 1), .int (nI 2), .int (nI sz)])), (h 1, .inl (tA 2, 4, .inr (.inr (.inr (.inr (fun i => some (d i 0)))))))] ++ (stW tA (d 0) (hs 0) ++ (stW tA (d 1) s ++ (stW tA (d 2) (hs 2) ++ (stW tA (d 3) (hs 3) ++ (stW tA a s))))))) rfl dX0_push_28 ?_
  refine j_aload_n (pc := 31) X dX0_push_31 rfl (q := 1) rfl ?_
  refine j_aload_n (pc := 32) X dX0_push_32 rfl (q := 1) rfl ?_
  refine j_get (pc := 33) X (C := RX0) (T := TX0) (N := 3) wz_X0 0 rfl rfl 2 (by decide) wf_X0_18 rfl dX0_push_33 ?_
  refine j_iconst (pc := 36) X (v := (nI 1)) dX0_push_36 (by decide) ?_
  refine j_iadd (pc := 37) X (v := (nI (sz + 1))) dX0_push_37 (nI_add _ _) ?_
  refine j_iconst (pc := 38) X (v := (nI 4)) dX0_push_38 (by decide) ?_
  refine j_mmin (pc := 39) X wm_X0_33 (Nat.le_of_ble_eq_true rfl) (Nat.le_of_ble_eq_true rfl) ⟨Nat.zero_le _, Nat.zero_le _⟩ (v := (nI (min (sz + 1) 4))) (nI_min (by omega) (by omega)) dX0_push_39 ?_
  refine j_put (pc := 42) X (C := RX0) (T := TX0) (N := 3) wz_X0 tyX0 tyX0_ok nmX0 0 rfl rfl 2 (by decide) wf_X0_18 rfl rfl rfl (Nat.le_of_ble_eq_true rfl) (w' := ([(h 0, .inr (0, [.ref (h 1), .int (nI 2), .int (nI (min (sz + 1) 4))])), (h 1, .inl (tA 2, 4, .inr (.inr (.inr (.inr (fun i => some (d i 0)))))))] ++ (stW tA (d 0) (hs 0) ++ (stW tA (d 1) s ++ (stW tA (d 2) (hs 2) ++ (stW tA (d 3) (hs 3) ++ (stW tA a s))))))) rfl dX0_push_42 ?_
  exact j_endV (pc := 45) E dX0_push_45 rfl
set_option maxHeartbeats 4000000 in
set_option maxRecDepth 100000 in
theorem c_X0_popInto_1 (l : Launch) (D : va_G) (tA : Nat → ClassId) (h : Nat → Nat) (d : Nat → Nat → Nat) (hs : Nat → Sg) (sz : Nat) (a : Nat → Nat) (s : Sg) (hsz : sz ≤ 4) (h0 : 1 ≤ sz) (hh : ∀ i, Wf (hs i)) (hw : Wf s) : Kx l D tA yX0_popInto cX0_popInto 4 none 3 60 [.ref (h 0), .ref (a 0)] ([(h 0, .inr (0, [.ref (h 1), .int (nI 1), .int (nI sz)])), (h 1, .inl (tA 2, 4, .inr (.inr (.inr (.inr (fun i => some (d i 0)))))))] ++ (stW tA (d 0) (hs 0) ++ (stW tA (d 1) (hs 1) ++ (stW tA (d 2) (hs 2) ++ (stW tA (d 3) (hs 3) ++ (stW tA a s)))))) none ([(h 0, .inr (0, [.ref (h 1), .int (nI 0), .int (nI (sz - 1))])), (h 1, .inl (tA 2, 4, .inr (.inr (.inr (.inr (fun i => some (d i 0)))))))] ++ (stW tA (d 0) (hs 0) ++ (stW tA (d 1) (hs 1) ++ (stW tA (d 2) (hs 2) ++ (stW tA (d 3) (hs 3) ++ (stW tA a (hs 0))))))) := by
  refine kx_void rfl (Nat.le_of_ble_eq_true rfl) (fun G X E => ?_)
  show J l D G 0 0 ([(h 0, .inr (0, [.ref (h 1), .int (nI 1), .int (nI sz)])), (h 1, .inl (tA 2, 4, .inr (.inr (.inr (.inr (fun i => some (d i 0)))))))] ++ (stW tA (d 0) (hs 0) ++ (stW tA (d 1) (hs 1) ++ (stW tA (d 2) (hs 2) ++ (stW tA (d 3) (hs 3) ++ (stW tA a s)))))) [(0, .ref (h 0)), (1, .ref (a 0))] 0 []
  refine j_aload_n (pc := 0) X dX0_popInto_0 rfl (q := 0) rfl ?_
  refine j_get (pc := 1) X (C := RX0) (T := TX0) (N := 3) wz_X0 0 rfl rfl 1 (by decide) wf_X0_22 rfl dX0_popInto_1 ?_
  refine j_iconst (pc := 4) X (v := (nI 4)) dX0_popInto_4 (by decide) ?_
  refine j_iadd (pc := 5) X (v := (nI 5)) dX0_popInto_5 (nI_add _ _) ?_
  refine j_iconst (pc := 6) X (v := (nI 1)) dX0_popInto_6 (by decide) ?_
  refine j_isub (pc := 7) X (v := (nI 4)) dX0_popInto_7 (pk_sub (by omega)) ?_
  refine j_iconst (pc := 8) X (v := (nI 4)) dX0_popInto_8 (by decide) ?_
  refine j_irem (pc := 9) X (v := (nI 0)) dX0_popInto_9 (by decide +kernel) (by decide +kernel) ?_
  refine j_istore_n (pc := 10) X (lv' := [(2, .int (nI 0)), (0, .ref (h 0)), (1, .ref (a 0))]) dX0_popInto_10 rfl (by decide) rfl ?_
  refine j_aload_n (pc := 11) X dX0_popInto_11 rfl (q := 1) rfl ?_
  refine j_iload_n (pc := 12) X dX0_popInto_12 rfl (q := 0) rfl ?_
  refine j_callVR (pc := 13) X (st := [])  (c_X0_stateAt l D tA h d 1 sz 0 (by omega)) cd_X0_stateAt wm_X0_25 0 rfl rfl rfl [0, 1] rfl rfl ⟨Nat.le_of_ble_eq_true rfl, Nat.le_of_ble_eq_true rfl⟩ ⟨Nat.zero_le _, Nat.zero_le _⟩ rfl (Nat.le_of_ble_eq_true rfl) dX0_popInto_13 ?_
  refine j_astore_n (pc := 16) X (lv' := [(3, .ref ((d 0) 0)), (2, .int (nI 0)), (0, .ref (h 0)), (1, .ref (a 0))]) dX0_popInto_16 rfl (by decide) rfl ?_
  refine j_aload_n (pc := 17) X dX0_popInto_17 rfl (q := 2) rfl ?_
  refine j_get (pc := 18) X (C := RX0) (T := TX0) (N := 3) wz_X0 0 rfl rfl 2 (by decide) wf_X0_18 rfl dX0_popInto_18 ?_
  refine j_if_eq_f (pc := 21) X (tgt := 28) dX0_popInto_21 (by decide) (nI_ne0 (by omega) (by omega)) ?_
  refine j_aload_n (pc := 24) X dX0_popInto_24 rfl (q := 0) rfl ?_
  refine j_ifnonnull (pc := 25) X (tgt := 29) dX0_popInto_25 (by decide) ?_
  refine j_aload_n (pc := 29) X dX0_popInto_29 rfl (q := 3) rfl ?_
  refine j_aload_n (pc := 30) X dX0_popInto_30 rfl (q := 0) rfl ?_
  refine j_callVB (pc := 31) X (st := []) (wr := ([(h 0, .inr (0, [.ref (h 1), .int (nI 1), .int (nI sz)])), (h 1, .inl (tA 2, 4, .inr (.inr (.inr (.inr (fun i => some (d i 0)))))))] ++ (stW tA (d 1) (hs 1) ++ (stW tA (d 2) (hs 2) ++ (stW tA (d 3) (hs 3)))))) (w' := ([(h 0, .inr (0, [.ref (h 1), .int (nI 1), .int (nI sz)])), (h 1, .inl (tA 2, 4, .inr (.inr (.inr (.inr (fun i => some (d i 0)))))))] ++ (stW tA (d 0) (hs 0) ++ (stW tA (d 1) (hs 1) ++ (stW tA (d 2) (hs 2) ++ (stW tA (d 3) (hs 3) ++ (stW tA a (hs 0)))))))) (c_X1_copyFrom l D tA a s (d 0) (hs 0) hw (hh 0)) cd_X1_copyFrom wm_X0_29 42 rfl rfl rfl [42, 43, 44, 45, 46, 47, 48, 49, 50, 51, 2, 3, 4, 5, 6, 7, 8, 9, 10, 11] rfl rfl [0, 1, 12, 13, 14, 15, 16, 17, 18, 19, 20, 21, 22, 23, 24, 25, 26, 27, 28, 29, 30, 31, 32, 33, 34, 35, 36, 37, 38, 39, 40, 41] rfl rfl (fst_app (st_fst.trans st_fst.symm) rfl) [20, 21, 10, 11, 12, 13, 14, 15, 16, 17, 18, 19, 22, 23, 24, 25, 26, 27, 28, 29, 30, 31, 32, 33, 34, 35, 36, 37, 38, 39, 40, 41, 42, 43, 44, 45, 46, 47, 48, 49, 50, 51, 0, 1, 2, 3, 4, 5, 6, 7, 8, 9] rfl rfl ⟨Nat.le_of_ble_eq_true rfl, Nat.le_of_ble_eq_true rfl⟩ ⟨Nat.zero_le _, Nat.zero_le _⟩ rfl (Nat.le_of_ble_eq_true rfl) dX0_popInto_31 ?_
  refine j_aload_n (pc := 34) X dX0_popInto_34 rfl (q := 2) rfl ?_
  refine j_iload_n (pc := 35) X dX0_popInto_35 rfl (q := 1) rfl ?_
  refine j_put (pc := 36) X (C := RX0) (T := TX0) (N := 3) wz_X0 tyX0 tyX0_ok nmX0 0 rfl rfl 1 (by decide) wf_X0_22 rfl rfl rfl (Nat.le_of_ble_eq_true rfl) (w' := ([(h 0, .inr (0, [.ref (h 1), .int (nI 0), .int (nI sz)])), (h 1, .inl (tA 2, 4, .inr (.inr (.inr (.inr (fun i => some (d i 0)))))))] ++ (stW tA (d 0) (hs 0) ++ (stW tA (d 1) (hs 1) ++ (stW tA (d 2) (hs 2) ++ (stW tA (d 3) (hs 3) ++ (stW tA a (hs 0)))))))) rfl dX0_popInto_36 ?_
  refine j_aload_n (pc := 39) X dX0_popInto_39 rfl (q := 2) rfl ?_
  refine j_dup (pc := 40) X dX0_popInto_40 rfl ?_
  refine j_get (pc := 41) X (C := RX0) (T := TX0) (N := 3) wz_X0 0 rfl rfl 2 (by decide) wf_X0_18 rfl dX0_popInto_41 ?_
  refine j_iconst (pc := 44) X (v := (nI 1)) dX0_popInto_44 (by decide) ?_
  refine j_isub (pc := 45) X (v := (nI (sz - 1))) dX0_popInto_45 (pk_sub (by omega)) ?_
  refine j_put (pc := 46) X (C := RX0) (T := TX0) (N := 3) wz_X0 tyX0 tyX0_ok nmX0 0 rfl rfl 2 (by decide) wf_X0_18 rfl rfl rfl (Nat.le_of_ble_eq_true rfl) (w' := ([(h 0, .inr (0, [.ref (h 1), .int (nI 0), .int (nI (sz - 1))])), (h 1, .inl (tA 2, 4, .inr (.inr (.inr (.inr (fun i => some (d i 0)))))))] ++ (stW tA (d 0) (hs 0) ++ (stW tA (d 1) (hs 1) ++ (stW tA (d 2) (hs 2) ++ (stW tA (d 3) (hs 3) ++ (stW tA a (hs 0)))))))) rfl dX0_popInto_46 ?_
  exact j_endV (pc := 49) E dX0_popInto_49 rfl
set_option maxHeartbeats 4000000 in
set_option maxRecDepth 100000 in
theorem c_X0_push_2 (l : Launch) (D : va_G) (tA : Nat → ClassId) (h : Nat → Nat) (d : Nat → Nat → Nat) (hs : Nat → Sg) (sz : Nat) (a : Nat → Nat) (s : Sg) (hsz : sz ≤ 4) (hh : ∀ i, Wf (hs i)) (hw : Wf s) : Kx l D tA yX0_push cX0_push 3 none 3 60 [.ref (h 0), .ref (a 0)] ([(h 0, .inr (0, [.ref (h 1), .int (nI 2), .int (nI sz)])), (h 1, .inl (tA 2, 4, .inr (.inr (.inr (.inr (fun i => some (d i 0)))))))] ++ (stW tA (d 0) (hs 0) ++ (stW tA (d 1) (hs 1) ++ (stW tA (d 2) (hs 2) ++ (stW tA (d 3) (hs 3) ++ (stW tA a s)))))) none ([(h 0, .inr (0, [.ref (h 1), .int (nI 3), .int (nI (min (sz + 1) 4))])), (h 1, .inl (tA 2, 4, .inr (.inr (.inr (.inr (fun i => some (d i 0)))))))] ++ (stW tA (d 0) (hs 0) ++ (stW tA (d 1) (hs 1) ++ (stW tA (d 2) s ++ (stW tA (d 3) (hs 3) ++ (stW tA a s)))))) := by
  refine kx_void rfl (Nat.le_of_ble_eq_true rfl) (fun G X E => ?_)
  show J l D G 0 0 ([(h 0, .inr (0, [.ref (h 1), .int (nI 2), .int (nI sz)])), (h 1, .inl (tA 2, 4, .inr (.inr (.inr (.inr (fun i => some (d i 0)))))))] ++ (stW tA (d 0) (hs 0) ++ (stW tA (d 1) (hs 1) ++ (stW tA (d 2) (hs 2) ++ (stW tA (d 3) (hs 3) ++ (stW tA a s)))))) [(0, .ref (h 0)), (1, .ref (a 0))] 0 []
  refine j_aload_n (pc := 0) X dX0_push_0 rfl (q := 0) rfl ?_
  refine j_aload_n (pc := 1) X dX0_push_1 rfl (q := 0) rfl ?_
  refine j_get (pc := 2) X (C := RX0) (T := TX0) (N := 3) wz_X0 0 rfl rfl 1 (by decide) wf_X0_22 rfl dX0_push_2 ?_
  refine j_callVR (pc := 5) X (st := [])  (c_X0_stateAt l D tA h d 2 sz 2 (by omega)) cd_X0_stateAt wm_X0_25 0 rfl rfl rfl [0, 1] rfl rfl ⟨Nat.le_of_ble_eq_true rfl, Nat.le_of_ble_eq_true rfl⟩ ⟨Nat.zero_le _, Nat.zero_le _⟩ rfl (Nat.le_of_ble_eq_true rfl) dX0_push_5 ?_
  refine j_astore_n (pc := 8) X (lv' := [(2, .ref ((d 2) 0)), (0, .ref (h 0)), (1, .ref (a 0))]) dX0_push_8 rfl (by decide) rfl ?_
  refine j_aload_n (pc := 9) X dX0_push_9 rfl (q := 0) rfl ?_
  refine j_ifnonnull (pc := 10) X (tgt := 14) dX0_push_10 (by decide) ?_
  refine j_aload_n (pc := 14) X dX0_push_14 rfl (q := 0) rfl ?_
  refine j_aload_n (pc := 15) X dX0_push_15 rfl (q := 2) rfl ?_
  refine j_callVB (pc := 16) X (st := []) (wr := ([(h 0, .inr (0, [.ref (h 1), .int (nI 2), .int (nI sz)])), (h 1, .inl (tA 2, 4, .inr (.inr (.inr (.inr (fun i => some (d i 0)))))))] ++ (stW tA (d 0) (hs 0) ++ (stW tA (d 1) (hs 1) ++ (stW tA (d 3) (hs 3)))))) (w' := ([(h 0, .inr (0, [.ref (h 1), .int (nI 2), .int (nI sz)])), (h 1, .inl (tA 2, 4, .inr (.inr (.inr (.inr (fun i => some (d i 0)))))))] ++ (stW tA (d 0) (hs 0) ++ (stW tA (d 1) (hs 1) ++ (stW tA (d 2) s ++ (stW tA (d 3) (hs 3) ++ (stW tA a s))))))) (c_X1_copyFrom l D tA (d 2) (hs 2) a s (hh 2) hw) cd_X1_copyFrom wm_X0_29 22 rfl rfl rfl [22, 23, 24, 25, 26, 27, 28, 29, 30, 31, 42, 43, 44, 45, 46, 47, 48, 49, 50, 51] rfl rfl [0, 1, 2, 3, 4, 5, 6, 7, 8, 9, 10, 11, 12, 13, 14, 15, 16, 17, 18, 19, 20, 21, 32, 33, 34, 35, 36, 37, 38, 39, 40, 41] rfl rfl (fst_app (st_fst.trans st_fst.symm) rfl) [20, 21, 22, 23, 24, 25, 26, 27, 28, 29, 30, 31, 32, 33, 34, 35, 36, 37, 38, 39, 40, 41, 0, 1, 2, 3, 4, 5, 6, 7, 8, 9, 42, 43, 44, 45, 46, 47, 48, 49, 50, 51, 10, 11, 12, 13, 14, 15, 16, 17, 18, 19] rfl rfl ⟨Nat.le_of_ble_eq_true rfl, Nat.le_of_ble_eq_true rfl⟩ ⟨Nat.zero_le _, Nat.zero_le _⟩ rfl (Nat.le_of_ble_eq_true rfl) dX0_push_16 ?_
  refine j_aload_n (pc := 19) X dX0_push_19 rfl (q := 1) rfl ?_
  refine j_aload_n (pc := 20) X dX0_push_20 rfl (q := 1) rfl ?_
  refine j_get (pc := 21) X (C := RX0) (T := TX0) (N := 3) wz_X0 0 rfl rfl 1 (by decide) wf_X0_22 rfl dX0_push_21 ?_
  refine j_iconst (pc := 24) X (v := (nI 1)) dX0_push_24 (by decide) ?_
  refine j_iadd (pc := 25) X (v := (nI 3)) dX0_push_25 (nI_add _ _) ?_
  refine j_iconst (pc := 26) X (v := (nI 4)) dX0_push_26 (by decide) ?_
  refine j_irem (pc := 27) X (v := (nI 3)) dX0_push_27 (by decide +kernel) (by decide +kernel) ?_
  refine j_put (pc := 28) X (C := RX0) (T := TX0) (N := 3) wz_X0 tyX0 tyX0_ok nmX0 0 rfl rfl 1 (by decide) wf_X0_22 rfl rfl rfl (Nat.le_of_ble_eq_true rfl) (w' := ([(h 0, .inr (0, [.ref (h 1), .int (nI 3), .int (nI sz)])), (h 1, .inl (tA 2, 4, .inr (.inr (.inr (.inr (fun i => some (d i 0)))))))] ++ (stW tA (d 0) (hs 0) ++ (stW tA (d 1) (hs 1) ++ (stW tA (d 2) s ++ (stW tA (d 3) (hs 3) ++ (stW tA a s))))))) rfl dX0_push_28 ?_
  refine j_aload_n (pc := 31) X dX0_push_31 rfl (q := 1) rfl ?_
  refine j_aload_n (pc := 32) X dX0_push_32 rfl (q := 1) rfl ?_
  refine j_get (pc := 33) X (C := RX0) (T := TX0) (N := 3) wz_X0 0 rfl rfl 2 (by decide) wf_X0_18 rfl dX0_push_33 ?_
  refine j_iconst (pc := 36) X (v := (nI 1)) dX0_push_36 (by decide) ?_
  refine j_iadd (pc := 37) X (v := (nI (sz + 1))) dX0_push_37 (nI_add _ _) ?_
  refine j_iconst (pc := 38) X (v := (nI 4)) dX0_push_38 (by decide) ?_
  refine j_mmin (pc := 39) X wm_X0_33 (Nat.le_of_ble_eq_true rfl) (Nat.le_of_ble_eq_true rfl) ⟨Nat.zero_le _, Nat.zero_le _⟩ (v := (nI (min (sz + 1) 4))) (nI_min (by omega) (by omega)) dX0_push_39 ?_
  refine j_put (pc := 42) X (C := RX0) (T := TX0) (N := 3) wz_X0 tyX0 tyX0_ok nmX0 0 rfl rfl 2 (by decide) wf_X0_18 rfl rfl rfl (Nat.le_of_ble_eq_true rfl) (w' := ([(h 0, .inr (0, [.ref (h 1), .int (nI 3), .int (nI (min (sz + 1) 4))])), (h 1, .inl (tA 2, 4, .inr (.inr (.inr (.inr (fun i => some (d i 0)))))))] ++ (stW tA (d 0) (hs 0) ++ (stW tA (d 1) (hs 1) ++ (stW tA (d 2) s ++ (stW tA (d 3) (hs 3) ++ (stW tA a s))))))) rfl dX0_push_42 ?_
  exact j_endV (pc := 45) E dX0_push_45 rfl
set_option maxHeartbeats 4000000 in
set_option maxRecDepth 100000 in
theorem c_X0_popInto_2 (l : Launch) (D : va_G) (tA : Nat → ClassId) (h : Nat → Nat) (d : Nat → Nat → Nat) (hs : Nat → Sg) (sz : Nat) (a : Nat → Nat) (s : Sg) (hsz : sz ≤ 4) (h0 : 1 ≤ sz) (hh : ∀ i, Wf (hs i)) (hw : Wf s) : Kx l D tA yX0_popInto cX0_popInto 4 none 3 60 [.ref (h 0), .ref (a 0)] ([(h 0, .inr (0, [.ref (h 1), .int (nI 2), .int (nI sz)])), (h 1, .inl (tA 2, 4, .inr (.inr (.inr (.inr (fun i => some (d i 0)))))))] ++ (stW tA (d 0) (hs 0) ++ (stW tA (d 1) (hs 1) ++ (stW tA (d 2) (hs 2) ++ (stW tA (d 3) (hs 3) ++ (stW tA a s)))))) none ([(h 0, .inr (0, [.ref (h 1), .int (nI 1), .int (nI (sz - 1))])), (h 1, .inl (tA 2, 4, .inr (.inr (.inr (.inr (fun i => some (d i 0)))))))] ++ (stW tA (d 0) (hs 0) ++ (stW tA (d 1) (hs 1) ++ (stW tA (d 2) (hs 2) ++ (stW tA (d 3) (hs 3) ++ (stW tA a (hs 1))))))) := by
  refine kx_void rfl (Nat.le_of_ble_eq_true rfl) (fun G X E => ?_)
  show J l D G 0 0 ([(h 0, .inr (0, [.ref (h 1), .int (nI 2), .int (nI sz)])), (h 1, .inl (tA 2, 4, .inr (.inr (.inr (.inr (fun i => some (d i 0)))))))] ++ (stW tA (d 0) (hs 0) ++ (stW tA (d 1) (hs 1) ++ (stW tA (d 2) (hs 2) ++ (stW tA (d 3) (hs 3) ++ (stW tA a s)))))) [(0, .ref (h 0)), (1, .ref (a 0))] 0 []
  refine j_aload_n (pc := 0) X dX0_popInto_0 rfl (q := 0) rfl ?_
  refine j_get (pc := 1) X (C := RX0) (T := TX0) (N := 3) wz_X0 0 rfl rfl 1 (by decide) wf_X0_22 rfl dX0_popInto_1 ?_
  refine j_iconst (pc := 4) X (v := (nI 4)) dX0_popInto_4 (by decide) ?_
  refine j_iadd (pc := 5) X (v := (nI 6)) dX0_popInto_5 (nI_add _ _) ?_
  refine j_iconst (pc := 6) X (v := (nI 1)) dX0_popInto_6 (by decide) ?_
  refine j_isub (pc := 7) X (v := (nI 5)) dX0_popInto_7 (pk_sub (by omega)) ?_
  refine j_iconst (pc := 8) X (v := (nI 4)) dX0_popInto_8 (by decide) ?_
  refine j_irem (pc := 9) X (v := (nI 1)) dX0_popInto_9 (by decide +kernel) (by decide +kernel) ?_
  refine j_istore_n (pc := 10) X (lv' := [(2, .int (nI 1)), (0, .ref (h 0)), (1, .ref (a 0))]) dX0_popInto_10 rfl (by decide) rfl ?_
  refine j_aload_n (pc := 11) X dX0_popInto_11 rfl (q := 1) rfl ?_
  refine j_iload_n (pc := 12) X dX0_popInto_12 rfl (q := 0) rfl ?_
  refine j_callVR (pc := 13) X (st := [])  (c_X0_stateAt l D tA h d 2 sz 1 (by omega)) cd_X0_stateAt wm_X0_25 0 rfl rfl rfl [0, 1] rfl rfl ⟨Nat.le_of_ble_eq_true rfl, Nat.le_of_ble_eq_true rfl⟩ ⟨Nat.zero_le _, Nat.zero_le _⟩ rfl (Nat.le_of_ble_eq_true rfl) dX0_popInto_13 ?_
  refine j_astore_n (pc := 16) X (lv' := [(3, .ref ((d 1) 0)), (2, .int (nI 1)), (0, .ref (h 0)), (1, .ref (a 0))]) dX0_popInto_16 rfl (by decide) rfl ?_
  refine j_aload_n (pc := 17) X dX0_popInto_17 rfl (q := 2) rfl ?_
  refine j_get (pc := 18) X (C := RX0) (T := TX0) (N := 3) wz_X0 0 rfl rfl 2 (by decide) wf_X0_18 rfl dX0_popInto_18 ?_
  refine j_if_eq_f (pc := 21) X (tgt := 28) dX0_popInto_21 (by decide) (nI_ne0 (by omega) (by omega)) ?_
  refine j_aload_n (pc := 24) X dX0_popInto_24 rfl (q := 0) rfl ?_
  refine j_ifnonnull (pc := 25) X (tgt := 29) dX0_popInto_25 (by decide) ?_
  refine j_aload_n (pc := 29) X dX0_popInto_29 rfl (q := 3) rfl ?_
  refine j_aload_n (pc := 30) X dX0_popInto_30 rfl (q := 0) rfl ?_
  refine j_callVB (pc := 31) X (st := []) (wr := ([(h 0, .inr (0, [.ref (h 1), .int (nI 2), .int (nI sz)])), (h 1, .inl (tA 2, 4, .inr (.inr (.inr (.inr (fun i => some (d i 0)))))))] ++ (stW tA (d 0) (hs 0) ++ (stW tA (d 2) (hs 2) ++ (stW tA (d 3) (hs 3)))))) (w' := ([(h 0, .inr (0, [.ref (h 1), .int (nI 2), .int (nI sz)])), (h 1, .inl (tA 2, 4, .inr (.inr (.inr (.inr (fun i => some (d i 0)))))))] ++ (stW tA (d 0) (hs 0) ++ (stW tA (d 1) (hs 1) ++ (stW tA (d 2) (hs 2) ++ (stW tA (d 3) (hs 3) ++ (stW tA a (hs 1)))))))) (c_X1_copyFrom l D tA a s (d 1) (hs 1) hw (hh 1)) cd_X1_copyFrom wm_X0_29 42 rfl rfl rfl [42, 43, 44, 45, 46, 47, 48, 49, 50, 51, 12, 13, 14, 15, 16, 17, 18, 19, 20, 21] rfl rfl [0, 1, 2, 3, 4, 5, 6, 7, 8, 9, 10, 11, 22, 23, 24, 25, 26, 27, 28, 29, 30, 31, 32, 33, 34, 35, 36, 37, 38, 39, 40, 41] rfl rfl (fst_app (st_fst.trans st_fst.symm) rfl) [20, 21, 22, 23, 24, 25, 26, 27, 28, 29, 30, 31, 10, 11, 12, 13, 14, 15, 16, 17, 18, 19, 32, 33, 34, 35, 36, 37, 38, 39, 40, 41, 42, 43, 44, 45, 46, 47, 48, 49, 50, 51, 0, 1, 2, 3, 4, 5, 6, 7, 8, 9] rfl rfl ⟨Nat.le_of_ble_eq_true rfl, Nat.le_of_ble_eq_true rfl⟩ ⟨Nat.zero_le _, Nat.zero_le _⟩ rfl (Nat.le_of_ble_eq_true rfl) dX0_popInto_31 ?_
  refine j_aload_n (pc := 34) X dX0_popInto_34 rfl (q := 2) rfl ?_
  refine j_iload_n (pc := 35) X dX0_popInto_35 rfl (q := 1) rfl ?_
  refine j_put (pc := 36) X (C := RX0) (T := TX0) (N := 3) wz_X0 tyX0 tyX0_ok nmX0 0 rfl rfl 1 (by decide) wf_X0_22 rfl rfl rfl (Nat.le_of_ble_eq_true rfl) (w' := ([(h 0, .inr (0, [.ref (h 1), .int (nI 1), .int (nI sz)])), (h 1, .inl (tA 2, 4, .inr (.inr (.inr (.inr (fun i => some (d i 0)))))))] ++ (stW tA (d 0) (hs 0) ++ (stW tA (d 1) (hs 1) ++ (stW tA (d 2) (hs 2) ++ (stW tA (d 3) (hs 3) ++ (stW tA a (hs 1)))))))) rfl dX0_popInto_36 ?_
  refine j_aload_n (pc := 39) X dX0_popInto_39 rfl (q := 2) rfl ?_
  refine j_dup (pc := 40) X dX0_popInto_40 rfl ?_
  refine j_get (pc := 41) X (C := RX0) (T := TX0) (N := 3) wz_X0 0 rfl rfl 2 (by decide) wf_X0_18 rfl dX0_popInto_41 ?_
  refine j_iconst (pc := 44) X (v := (nI 1)) dX0_popInto_44 (by decide) ?_
  refine j_isub (pc := 45) X (v := (nI (sz - 1))) dX0_popInto_45 (pk_sub (by omega)) ?_
  refine j_put (pc := 46) X (C := RX0) (T := TX0) (N := 3) wz_X0 tyX0 tyX0_ok nmX0 0 rfl rfl 2 (by decide) wf_X0_18 rfl rfl rfl (Nat.le_of_ble_eq_true rfl) (w' := ([(h 0, .inr (0, [.ref (h 1), .int (nI 1), .int (nI (sz - 1))])), (h 1, .inl (tA 2, 4, .inr (.inr (.inr (.inr (fun i => some (d i 0)))))))] ++ (stW tA (d 0) (hs 0) ++ (stW tA (d 1) (hs 1) ++ (stW tA (d 2) (hs 2) ++ (stW tA (d 3) (hs 3) ++ (stW tA a (hs 1)))))))) rfl dX0_popInto_46 ?_
  exact j_endV (pc := 49) E dX0_popInto_49 rfl
set_option maxHeartbeats 4000000 in
set_option maxRecDepth 100000 in
theorem c_X0_push_3 (l : Launch) (D : va_G) (tA : Nat → ClassId) (h : Nat → Nat) (d : Nat → Nat → Nat) (hs : Nat → Sg) (sz : Nat) (a : Nat → Nat) (s : Sg) (hsz : sz ≤ 4) (hh : ∀ i, Wf (hs i)) (hw : Wf s) : Kx l D tA yX0_push cX0_push 3 none 3 60 [.ref (h 0), .ref (a 0)] ([(h 0, .inr (0, [.ref (h 1), .int (nI 3), .int (nI sz)])), (h 1, .inl (tA 2, 4, .inr (.inr (.inr (.inr (fun i => some (d i 0)))))))] ++ (stW tA (d 0) (hs 0) ++ (stW tA (d 1) (hs 1) ++ (stW tA (d 2) (hs 2) ++ (stW tA (d 3) (hs 3) ++ (stW tA a s)))))) none ([(h 0, .inr (0, [.ref (h 1), .int (nI 0), .int (nI (min (sz + 1) 4))])), (h 1, .inl (tA 2, 4, .inr (.inr (.inr (.inr (fun i => some (d i 0)))))))] ++ (stW tA (d 0) (hs 0) ++ (stW tA (d 1) (hs 1) ++ (stW tA (d 2) (hs 2) ++ (stW tA (d 3) s ++ (stW tA a s)))))) := by
  refine kx_void rfl (Nat.le_of_ble_eq_true rfl) (fun G X E => ?_)
  show J l D G 0 0 ([(h 0, .inr (0, [.ref (h 1), .int (nI 3), .int (nI sz)])), (h 1, .inl (tA 2, 4, .inr (.inr (.inr (.inr (fun i => some (d i 0)))))))] ++ (stW tA (d 0) (hs 0) ++ (stW tA (d 1) (hs 1) ++ (stW tA (d 2) (hs 2) ++ (stW tA (d 3) (hs 3) ++ (stW tA a s)))))) [(0, .ref (h 0)), (1, .ref (a 0))] 0 []
  refine j_aload_n (pc := 0) X dX0_push_0 rfl (q := 0) rfl ?_
  refine j_aload_n (pc := 1) X dX0_push_1 rfl (q := 0) rfl ?_
  refine j_get (pc := 2) X (C := RX0) (T := TX0) (N := 3) wz_X0 0 rfl rfl 1 (by decide) wf_X0_22 rfl dX0_push_2 ?_
  refine j_callVR (pc := 5) X (st := [])  (c_X0_stateAt l D tA h d 3 sz 3 (by omega)) cd_X0_stateAt wm_X0_25 0 rfl rfl rfl [0, 1] rfl rfl ⟨Nat.le_of_ble_eq_true rfl, Nat.le_of_ble_eq_true rfl⟩ ⟨Nat.zero_le _, Nat.zero_le _⟩ rfl (Nat.le_of_ble_eq_true rfl) dX0_push_5 ?_
  refine j_astore_n (pc := 8) X (lv' := [(2, .ref ((d 3) 0)), (0, .ref (h 0)), (1, .ref (a 0))]) dX0_push_8 rfl (by decide) rfl ?_
  refine j_aload_n (pc := 9) X dX0_push_9 rfl (q := 0) rfl ?_
  refine j_ifnonnull (pc := 10) X (tgt := 14) dX0_push_10 (by decide) ?_
  refine j_aload_n (pc := 14) X dX0_push_14 rfl (q := 0) rfl ?_
  refine j_aload_n (pc := 15) X dX0_push_15 rfl (q := 2) rfl ?_
  refine j_callVB (pc := 16) X (st := []) (wr := ([(h 0, .inr (0, [.ref (h 1), .int (nI 3), .int (nI sz)])), (h 1, .inl (tA 2, 4, .inr (.inr (.inr (.inr (fun i => some (d i 0)))))))] ++ (stW tA (d 0) (hs 0) ++ (stW tA (d 1) (hs 1) ++ (stW tA (d 2) (hs 2)))))) (w' := ([(h 0, .inr (0, [.ref (h 1), .int (nI 3), .int (nI sz)])), (h 1, .inl (tA 2, 4, .inr (.inr (.inr (.inr (fun i => some (d i 0)))))))] ++ (stW tA (d 0) (hs 0) ++ (stW tA (d 1) (hs 1) ++ (stW tA (d 2) (hs 2) ++ (stW tA (d 3) s ++ (stW tA a s))))))) (c_X1_copyFrom l D tA (d 3) (hs 3) a s (hh 3) hw) cd_X1_copyFrom wm_X0_29 32 rfl rfl rfl [32, 33, 34, 35, 36, 37, 38, 39, 40, 41, 42, 43, 44, 45, 46, 47, 48, 49, 50, 51] rfl rfl [0, 1, 2, 3, 4, 5, 6, 7, 8, 9, 10, 11, 12, 13, 14, 15, 16, 17, 18, 19, 20, 21, 22, 23, 24, 25, 26, 27, 28, 29, 30, 31] rfl rfl (fst_app (st_fst.trans st_fst.symm) rfl) [20, 21, 22, 23, 24, 25, 26, 27, 28, 29, 30, 31, 32, 33, 34, 35, 36, 37, 38, 39, 40, 41, 42, 43, 44, 45, 46, 47, 48, 49, 50, 51, 0, 1, 2, 3, 4, 5, 6, 7, 8, 9, 10, 11, 12, 13, 14, 15, 16, 17, 18, 19] rfl rfl ⟨Nat.le_of_ble_eq_true rfl, Nat.le_of_ble_eq_true rfl⟩ ⟨Nat.zero_le _, Nat.zero_le _⟩ rfl (Nat.le_of_ble_eq_true rfl) dX0_push_16 ?_
  refine j_aload_n (pc := 19) X dX0_push_19 rfl (q := 1) rfl ?_
  refine j_aload_n (pc := 20) X dX0_push_20 rfl (q := 1) rfl ?_
  refine j_get (pc := 21) X (C := RX0) (T := TX0) (N := 3) wz_X0 0 rfl rfl 1 (by decide) wf_X0_22 rfl dX0_push_21 ?_
  refine j_iconst (pc := 24) X (v := (nI 1)) dX0_push_24 (by decide) ?_
  refine j_iadd (pc := 25) X (v := (nI 4)) dX0_push_25 (nI_add _ _) ?_
  refine j_iconst (pc := 26) X (v := (nI 4)) dX0_push_26 (by decide) ?_
  refine j_irem (pc := 27) X (v := (nI 0)) dX0_push_27 (by decide +kernel) (by decide +kernel) ?_
  refine j_put (pc := 28) X (C := RX0) (T := TX0) (N := 3) wz_X0 tyX0 tyX0_ok nmX0 0 rfl rfl 1 (by decide) wf_X0_22 rfl rfl rfl (Nat.le_of_ble_eq_true rfl) (w' := ([(h 0, .inr (0, [.ref (h 1), .int (nI 0), .int (nI sz)])), (h 1, .inl (tA 2, 4, .inr (.inr (.inr (.inr (fun i => some (d i 0)))))))] ++ (stW tA (d 0) (hs 0) ++ (stW tA (d 1) (hs 1) ++ (stW tA (d 2) (hs 2) ++ (stW tA (d 3) s ++ (stW tA a s))))))) rfl dX0_push_28 ?_
  refine j_aload_n (pc := 31) X dX0_push_31 rfl (q := 1) rfl ?_
  refine j_aload_n (pc := 32) X dX0_push_32 rfl (q := 1) rfl ?_
  refine j_get (pc := 33) X (C := RX0) (T := TX0) (N := 3) wz_X0 0 rfl rfl 2 (by decide) wf_X0_18 rfl dX0_push_33 ?_
  refine j_iconst (pc := 36) X (v := (nI 1)) dX0_push_36 (by decide) ?_
  refine j_iadd (pc := 37) X (v := (nI (sz + 1))) dX0_push_37 (nI_add _ _) ?_
  refine j_iconst (pc := 38) X (v := (nI 4)) dX0_push_38 (by decide) ?_
  refine j_mmin (pc := 39) X wm_X0_33 (Nat.le_of_ble_eq_true rfl) (Nat.le_of_ble_eq_true rfl) ⟨Nat.zero_le _, Nat.zero_le _⟩ (v := (nI (min (sz + 1) 4))) (nI_min (by omega) (by omega)) dX0_push_39 ?_
  refine j_put (pc := 42) X (C := RX0) (T := TX0) (N := 3) wz_X0 tyX0 tyX0_ok nmX0 0 rfl rfl 2 (by decide) wf_X0_18 rfl rfl rfl (Nat.le_of_ble_eq_true rfl) (w' := ([(h 0, .inr (0, [.ref (h 1), .int (nI 0), .int (nI (min (sz + 1) 4))])), (h 1, .inl (tA 2, 4, .inr (.inr (.inr (.inr (fun i => some (d i 0)))))))] ++ (stW tA (d 0) (hs 0) ++ (stW tA (d 1) (hs 1) ++ (stW tA (d 2) (hs 2) ++ (stW tA (d 3) s ++ (stW tA a s))))))) rfl dX0_push_42 ?_
  exact j_endV (pc := 45) E dX0_push_45 rfl
set_option maxHeartbeats 4000000 in
set_option maxRecDepth 100000 in
theorem c_X0_popInto_3 (l : Launch) (D : va_G) (tA : Nat → ClassId) (h : Nat → Nat) (d : Nat → Nat → Nat) (hs : Nat → Sg) (sz : Nat) (a : Nat → Nat) (s : Sg) (hsz : sz ≤ 4) (h0 : 1 ≤ sz) (hh : ∀ i, Wf (hs i)) (hw : Wf s) : Kx l D tA yX0_popInto cX0_popInto 4 none 3 60 [.ref (h 0), .ref (a 0)] ([(h 0, .inr (0, [.ref (h 1), .int (nI 3), .int (nI sz)])), (h 1, .inl (tA 2, 4, .inr (.inr (.inr (.inr (fun i => some (d i 0)))))))] ++ (stW tA (d 0) (hs 0) ++ (stW tA (d 1) (hs 1) ++ (stW tA (d 2) (hs 2) ++ (stW tA (d 3) (hs 3) ++ (stW tA a s)))))) none ([(h 0, .inr (0, [.ref (h 1), .int (nI 2), .int (nI (sz - 1))])), (h 1, .inl (tA 2, 4, .inr (.inr (.inr (.inr (fun i => some (d i 0)))))))] ++ (stW tA (d 0) (hs 0) ++ (stW tA (d 1) (hs 1) ++ (stW tA (d 2) (hs 2) ++ (stW tA (d 3) (hs 3) ++ (stW tA a (hs 2))))))) := by
  refine kx_void rfl (Nat.le_of_ble_eq_true rfl) (fun G X E => ?_)
  show J l D G 0 0 ([(h 0, .inr (0, [.ref (h 1), .int (nI 3), .int (nI sz)])), (h 1, .inl (tA 2, 4, .inr (.inr (.inr (.inr (fun i => some (d i 0)))))))] ++ (stW tA (d 0) (hs 0) ++ (stW tA (d 1) (hs 1) ++ (stW tA (d 2) (hs 2) ++ (stW tA (d 3) (hs 3) ++ (stW tA a s)))))) [(0, .ref (h 0)), (1, .ref (a 0))] 0 []
  refine j_aload_n (pc := 0) X dX0_popInto_0 rfl (q := 0) rfl ?_
  refine j_get (pc := 1) X (C := RX0) (T := TX0) (N := 3) wz_X0 0 rfl rfl 1 (by decide) wf_X0_22 rfl dX0_popInto_1 ?_
  refine j_iconst (pc := 4) X (v := (nI 4)) dX0_popInto_4 (by decide) ?_
  refine j_iadd (pc := 5) X (v := (nI 7)) dX0_popInto_5 (nI_add _ _) ?_
  refine j_iconst (pc := 6) X (v := (nI 1)) dX0_popInto_6 (by decide) ?_
  refine j_isub (pc := 7) X (v := (nI 6)) dX0_popInto_7 (pk_sub (by omega)) ?_
  refine j_iconst (pc := 8) X (v := (nI 4)) dX0_popInto_8 (by decide) ?_
  refine j_irem (pc := 9) X (v := (nI 2)) dX0_popInto_9 (by decide +kernel) (by decide +kernel) ?_
  refine j_istore_n (pc := 10) X (lv' := [(2, .int (nI 2)), (0, .ref (h 0)), (1, .ref (a 0))]) dX0_popInto_10 rfl (by decide) rfl ?_
  refine j_aload_n (pc := 11) X dX0_popInto_11 rfl (q := 1) rfl ?_
  refine j_iload_n (pc := 12) X dX0_popInto_12 rfl (q := 0) rfl ?_
  refine j_callVR (pc := 13) X (st := [])  (c_X0_stateAt l D tA h d 3 sz 2 (by omega)) cd_X0_stateAt wm_X0_25 0 rfl rfl rfl [0, 1] rfl rfl ⟨Nat.le_of_ble_eq_true rfl, Nat.le_of_ble_eq_true rfl⟩ ⟨Nat.zero_le _, Nat.zero_le _⟩ rfl (Nat.le_of_ble_eq_true rfl) dX0_popInto_13 ?_
  refine j_astore_n (pc := 16) X (lv' := [(3, .ref ((d 2) 0)), (2, .int (nI 2)), (0, .ref (h 0)), (1, .ref (a 0))]) dX0_popInto_16 rfl (by decide) rfl ?_
  refine j_aload_n (pc := 17) X dX0_popInto_17 rfl (q := 2) rfl ?_
  refine j_get (pc := 18) X (C := RX0) (T := TX0) (N := 3) wz_X0 0 rfl rfl 2 (by decide) wf_X0_18 rfl dX0_popInto_18 ?_
  refine j_if_eq_f (pc := 21) X (tgt := 28) dX0_popInto_21 (by decide) (nI_ne0 (by omega) (by omega)) ?_
  refine j_aload_n (pc := 24) X dX0_popInto_24 rfl (q := 0) rfl ?_
  refine j_ifnonnull (pc := 25) X (tgt := 29) dX0_popInto_25 (by decide) ?_
  refine j_aload_n (pc := 29) X dX0_popInto_29 rfl (q := 3) rfl ?_
  refine j_aload_n (pc := 30) X dX0_popInto_30 rfl (q := 0) rfl ?_
  refine j_callVB (pc := 31) X (st := []) (wr := ([(h 0, .inr (0, [.ref (h 1), .int (nI 3), .int (nI sz)])), (h 1, .inl (tA 2, 4, .inr (.inr (.inr (.inr (fun i => some (d i 0)))))))] ++ (stW tA (d 0) (hs 0) ++ (stW tA (d 1) (hs 1) ++ (stW tA (d 3) (hs 3)))))) (w' := ([(h 0, .inr (0, [.ref (h 1), .int (nI 3), .int (nI sz)])), (h 1, .inl (tA 2, 4, .inr (.inr (.inr (.inr (fun i => some (d i 0)))))))] ++ (stW tA (d 0) (hs 0) ++ (stW tA (d 1) (hs 1) ++ (stW tA (d 2) (hs 2) ++ (stW tA (d 3) (hs 3) ++ (stW tA a (hs 2)))))))) (c_X1_copyFrom l D tA a s (d 2) (hs 2) hw (hh 2)) cd_X1_copyFrom wm_X0_29 42 rfl rfl rfl [42, 43, 44, 45, 46, 47, 48, 49, 50, 51, 22, 23, 24, 25, 26, 27, 28, 29, 30, 31] rfl rfl [0, 1, 2, 3, 4, 5, 6, 7, 8, 9, 10, 11, 12, 13, 14, 15, 16, 17, 18, 19, 20, 21, 32, 33, 34, 35, 36, 37, 38, 39, 40, 41] rfl rfl (fst_app (st_fst.trans st_fst.symm) rfl) [20, 21, 22, 23, 24, 25, 26, 27, 28, 29, 30, 31, 32, 33, 34, 35, 36, 37, 38, 39, 40, 41, 10, 11, 12, 13, 14, 15, 16, 17, 18, 19, 42, 43, 44, 45, 46, 47, 48, 49, 50, 51, 0, 1, 2, 3, 4, 5, 6, 7, 8, 9] rfl rfl ⟨Nat.le_of_ble_eq_true rfl, Nat.le_of_ble_eq_true rfl⟩ ⟨Nat.zero_le _, Nat.zero_le _⟩ rfl (Nat.le_of_ble_eq_true rfl) dX0_popInto_31 ?_
  refine j_aload_n (pc := 34) X dX0_popInto_34 rfl (q := 2) rfl ?_
  refine j_iload_n (pc := 35) X dX0_popInto_35 rfl (q := 1) rfl ?_
  refine j_put (pc := 36) X (C := RX0) (T := TX0) (N := 3) wz_X0 tyX0 tyX0_ok nmX0 0 rfl rfl 1 (by decide) wf_X0_22 rfl rfl rfl (Nat.le_of_ble_eq_true rfl) (w' := ([(h 0, .inr (0, [.ref (h 1), .int (nI 2), .int (nI sz)])), (h 1, .inl (tA 2, 4, .inr (.inr (.inr (.inr (fun i => some (d i 0)))))))] ++ (stW tA (d 0) (hs 0) ++ (stW tA (d 1) (hs 1) ++ (stW tA (d 2) (hs 2) ++ (stW tA (d 3) (hs 3) ++ (stW tA a (hs 2)))))))) rfl dX0_popInto_36 ?_
  refine j_aload_n (pc := 39) X dX0_popInto_39 rfl (q := 2) rfl ?_
  refine j_dup (pc := 40) X dX0_popInto_40 rfl ?_
  refine j_get (pc := 41) X (C := RX0) (T := TX0) (N := 3) wz_X0 0 rfl rfl 2 (by decide) wf_X0_18 rfl dX0_popInto_41 ?_
  refine j_iconst (pc := 44) X (v := (nI 1)) dX0_popInto_44 (by decide) ?_
  refine j_isub (pc := 45) X (v := (nI (sz - 1))) dX0_popInto_45 (pk_sub (by omega)) ?_
  refine j_put (pc := 46) X (C := RX0) (T := TX0) (N := 3) wz_X0 tyX0 tyX0_ok nmX0 0 rfl rfl 2 (by decide) wf_X0_18 rfl rfl rfl (Nat.le_of_ble_eq_true rfl) (w' := ([(h 0, .inr (0, [.ref (h 1), .int (nI 2), .int (nI (sz - 1))])), (h 1, .inl (tA 2, 4, .inr (.inr (.inr (.inr (fun i => some (d i 0)))))))] ++ (stW tA (d 0) (hs 0) ++ (stW tA (d 1) (hs 1) ++ (stW tA (d 2) (hs 2) ++ (stW tA (d 3) (hs 3) ++ (stW tA a (hs 2)))))))) rfl dX0_popInto_46 ?_
  exact j_endV (pc := 49) E dX0_popInto_49 rfl
theorem c_X0_push (l : Launch) (D : va_G) (tA : Nat → ClassId) (h : Nat → Nat) (d : Nat → Nat → Nat) (v : Hs) (a : Nat → Nat) (s : Sg) (hnx : v.2.1 < 4) (hsz : v.2.2 ≤ 4) (hh : ∀ i, Wf (v.1 i)) (hw : Wf s) : Kx l D tA yX0_push cX0_push 3 none 3 60 [.ref (h 0), .ref (a 0)] (hsW tA h d v ++ stW tA a s) none (hsW tA h d (hPush v s) ++ stW tA a s) := by
  obtain ⟨hs, nx, sz⟩ := v
  have hnx : nx < 4 := hnx
  rcases (show nx = 0 ∨ nx = 1 ∨ nx = 2 ∨ nx = 3 by omega) with rfl | rfl | rfl | rfl
  · rw [show hPush (hs, 0, sz) s = (va_up hs 0 s, 1, min (sz + 1) 4) by simp [hPush], hs_flat, hs_flat]
    exact c_X0_push_0 l D tA h d hs sz a s hsz hh hw
  · rw [show hPush (hs, 1, sz) s = (va_up hs 1 s, 2, min (sz + 1) 4) by simp [hPush], hs_flat, hs_flat]
    exact c_X0_push_1 l D tA h d hs sz a s hsz hh hw
  · rw [show hPush (hs, 2, sz) s = (va_up hs 2 s, 3, min (sz + 1) 4) by simp [hPush], hs_flat, hs_flat]
    exact c_X0_push_2 l D tA h d hs sz a s hsz hh hw
  · rw [show hPush (hs, 3, sz) s = (va_up hs 3 s, 0, min (sz + 1) 4) by simp [hPush], hs_flat, hs_flat]
    exact c_X0_push_3 l D tA h d hs sz a s hsz hh hw
theorem c_X0_popInto (l : Launch) (D : va_G) (tA : Nat → ClassId) (h : Nat → Nat) (d : Nat → Nat → Nat) (v : Hs) (a : Nat → Nat) (s : Sg) (hnx : v.2.1 < 4) (hsz : v.2.2 ≤ 4) (h0 : 1 ≤ v.2.2) (hh : ∀ i, Wf (v.1 i)) (hw : Wf s) : Kx l D tA yX0_popInto cX0_popInto 4 none 3 60 [.ref (h 0), .ref (a 0)] (hsW tA h d v ++ stW tA a s) none (hsW tA h d (hPop v) ++ stW tA a (v.1 (hLast v))) := by
  obtain ⟨hs, nx, sz⟩ := v
  have hnx : nx < 4 := hnx
  rcases (show nx = 0 ∨ nx = 1 ∨ nx = 2 ∨ nx = 3 by omega) with rfl | rfl | rfl | rfl
  · rw [show hPop (hs, 0, sz) = (hs, 3, sz - 1) by simp [hPop, hLast], show hLast (hs, 0, sz) = 3 by simp [hLast], hs_flat, hs_flat]
    exact c_X0_popInto_0 l D tA h d hs sz a s hsz h0 hh hw
  · rw [show hPop (hs, 1, sz) = (hs, 0, sz - 1) by simp [hPop, hLast], show hLast (hs, 1, sz) = 0 by simp [hLast], hs_flat, hs_flat]
    exact c_X0_popInto_1 l D tA h d hs sz a s hsz h0 hh hw
  · rw [show hPop (hs, 2, sz) = (hs, 1, sz - 1) by simp [hPop, hLast], show hLast (hs, 2, sz) = 1 by simp [hLast], hs_flat, hs_flat]
    exact c_X0_popInto_2 l D tA h d hs sz a s hsz h0 hh hw
  · rw [show hPop (hs, 3, sz) = (hs, 2, sz - 1) by simp [hPop, hLast], show hLast (hs, 3, sz) = 2 by simp [hLast], hs_flat, hs_flat]
    exact c_X0_popInto_3 l D tA h d hs sz a s hsz h0 hh hw
end
section
theorem j_top {l : Launch} {D : va_G} {G : kCx} {n k : Nat} {w : va_W} {lv : List (Nat × Value)} {pc : Nat} {st : List Value} {v v' : Int32} (h : v = v') (kk : J l D G n k w lv pc (.int v' :: st)) : J l D G n k w lv pc (.int v :: st) := h ▸ kk
def rN : Option Nat → Int32
  | some b => nI b
  | none => (-1)
theorem rN_none {o : Option Nat} (h : ∀ b, o = some b → b < 2 ^ 31) : rN o = (-1) ↔ o = none := by
  cases o with
  | none => exact ⟨fun _ => rfl, fun _ => rfl⟩
  | some b =>
    refine ⟨fun q => ?_, fun q => (by cases q)⟩
    have h1 : nI b = (-1) := q
    have h2 := nI_toInt (h b rfl)
    rw [h1] at h2
    have h3 : ((-1 : Int32)).toInt = -1 := by decide
    omega
/-- a text: its signs, its length, where the reader stands, the winds found -/
abbrev Tx : Type := (Nat → Nat) × Nat × Nat × Tb
def txW (tA : Nat → ClassId) (x : Nat → Nat) (c : Nat → Nat) (len p : Nat) (t : Tb) : va_W :=
  [(x 0, .inr (3, [.ref (x 1), .int (nI len), .int (nI p), .ref (x 2)])), (x 1, .inl (tA 1, 60, .inl (nF c))), (x 2, .inr (2, [.ref (x 3), .int (nI 15), .int (nI 2), .int (nI t.1)])), (x 3, .inl (tA 0, 15 * 2, .inl (nF t.2)))]
theorem tx_fst {tA : Nat → ClassId} {x : Nat → Nat} {c : Nat → Nat} {len p : Nat} {t : Tb} : (txW tA x c len p t).map Prod.fst = [x 0, x 1, x 2, x 3] := rfl
/-- the sign at a place, as it stands in a cell: -1 behind the text -/
def sgN (c : Nat → Nat) (len p : Nat) : Nat := if p < len then c p else 4294967295
def isD (c : Nat → Nat) (len p : Nat) : Bool := decide (p < len ∧ 48 ≤ c p ∧ c p ≤ 57)
def dgt (x : Int32) : Bool := decide (48 ≤ x.toInt ∧ x.toInt ≤ 57)
theorem dgt_sg {c : Nat → Nat} (hc : ∀ j, c j < 65536) (len p : Nat) : dgt (nI (sgN c len p)) = isD c len p := by
  unfold dgt isD sgN
  have := hc p
  by_cases h : p < len
  · rw [if_pos h, nI_toInt (by omega), decide_eq_decide]
    omega
  · rw [if_neg h]
    have e : (nI 4294967295).toInt = -1 := by decide +kernel
    rw [e, decide_eq_decide]
    omega
def rdL (c : Nat → Nat) (len : Nat) : Nat → Nat → Nat → Nat × Nat
  | 0, p, v => (v, p)
  | n + 1, p, v => if isD c len p = true then rdL c len n (p + 1) (v * 10 + c p - 48) else (v, p)
def rdK (c : Nat → Nat) (k p : Nat) : Nat := if c p = 48 then 1 else k
/-- a number of k digits at most: what it is, and where the reader stands then -/
def rdM (c : Nat → Nat) (len k p : Nat) : Option Nat × Nat := if isD c len p = true then (some (rdL c len (rdK c k p) p 0).1, (rdL c len (rdK c k p) p 0).2) else (none, p)
def rdW (c : Nat → Nat) (len p : Nat) : Option (Nat × Nat) × Nat := match rdM c len 3 p with
  | (none, p1) => (none, p1)
  | (some h, p1) => if p1 < len ∧ c p1 = 58 then (match rdM c len 2 (p1 + 1) with
    | (none, p2) => (none, p2)
    | (some w, p2) => (some (h, w), p2)) else (none, p1)
def prs (c : Nat → Nat) (len : Nat) : Nat → Nat → Tb → Option Nat × Nat × Tb
  | 0, p, t => (some p, p, t)
  | n + 1, p, t => match rdW c len p with
    | (none, q) => (some q, q, t)
    | (some (h, w), q) =>
      if len ≤ q then (none, q, tSet 2 (tSet 2 (tAdd 2 t) t.1 0 h) t.1 1 w)
      else if c q = 59 then prs c len n (q + 1) (tSet 2 (tSet 2 (tAdd 2 t) t.1 0 h) t.1 1 w)
      else (some q, q, tSet 2 (tSet 2 (tAdd 2 t) t.1 0 h) t.1 1 w)
theorem rdL_in (c : Nat → Nat) (len : Nat) : ∀ (n p v : Nat), p ≤ len → p ≤ (rdL c len n p v).2 ∧ (rdL c len n p v).2 ≤ len
  | 0, p, v, h => ⟨Nat.le_refl _, h⟩
  | n + 1, p, v, h => by
    unfold rdL
    split
    · next q =>
      simp only [isD, decide_eq_true_eq] at q
      have := rdL_in c len n (p + 1) (v * 10 + c p - 48) (by omega)
      omega
    · exact ⟨Nat.le_refl _, h⟩
theorem rdL_lt (c : Nat → Nat) (len : Nat) : ∀ (n p v : Nat), (rdL c len n p v).1 < (v + 1) * 10 ^ n
  | 0, p, v => by show v < (v + 1) * 1; omega
  | n + 1, p, v => by
    unfold rdL
    split
    · next q =>
      simp only [isD, decide_eq_true_eq] at q
      have h1 := rdL_lt c len n (p + 1) (v * 10 + c p - 48)
      have h2 : (v * 10 + c p - 48 + 1) * 10 ^ n ≤ ((v + 1) * 10) * 10 ^ n := Nat.mul_le_mul_right _ (by omega)
      have h3 : (v + 1) * 10 ^ (n + 1) = ((v + 1) * 10) * 10 ^ n := by rw [Nat.pow_succ, Nat.mul_assoc, Nat.mul_comm 10]
      omega
    · have : 1 ≤ 10 ^ (n + 1) := Nat.one_le_pow _ _ (by decide)
      show v < (v + 1) * 10 ^ (n + 1)
      exact Nat.lt_of_lt_of_le (Nat.lt_succ_self v) (by have := Nat.mul_le_mul_left (v + 1) this; rwa [Nat.mul_one] at this)
theorem rdM_in {c : Nat → Nat} {len k p : Nat} (hp : p ≤ len) (hk : 1 ≤ k) : p ≤ (rdM c len k p).2 ∧ (rdM c len k p).2 ≤ len ∧ ∀ v, (rdM c len k p).1 = some v → p + 1 ≤ (rdM c len k p).2 ∧ v < 10 ^ k := by
  unfold rdM
  split
  · next q =>
    obtain ⟨m, hm, hmk⟩ : ∃ m, rdK c k p = m + 1 ∧ m + 1 ≤ k := by
      unfold rdK
      split
      · exact ⟨0, rfl, hk⟩
      · exact ⟨k - 1, by omega, by omega⟩
    have h1 := rdL_in c len (rdK c k p) p 0 hp
    refine ⟨h1.1, h1.2, fun v hv => ⟨?_, ?_⟩⟩
    · show p + 1 ≤ (rdL c len (rdK c k p) p 0).2
      rw [hm]
      unfold rdL
      rw [if_pos q]
      simp only [isD, decide_eq_true_eq] at q
      exact (rdL_in c len m (p + 1) _ (by omega)).1
    · have h2 := rdL_lt c len (rdK c k p) p 0
      have h3 : (rdL c len (rdK c k p) p 0).1 = v := Option.some.inj hv
      rw [h3, hm] at h2
      have h4 : 10 ^ (m + 1) ≤ 10 ^ k := Nat.pow_le_pow_right (by decide) hmk
      omega
  · exact ⟨Nat.le_refl _, hp, fun v hv => (by cases hv)⟩
theorem rdW_in {c : Nat → Nat} {len p : Nat} (hp : p ≤ len) : (rdW c len p).2 ≤ len ∧ p ≤ (rdW c len p).2 ∧ ∀ h w, (rdW c len p).1 = some (h, w) → p + 3 ≤ (rdW c len p).2 ∧ h < 1000 ∧ w < 100 := by
  have h1 := rdM_in (c := c) (k := 3) hp (by decide)
  unfold rdW
  rcases e1 : rdM c len 3 p with ⟨o1, p1⟩
  rw [e1] at h1
  cases o1 with
  | none => exact ⟨h1.2.1, h1.1, fun h w q => (by cases q)⟩
  | some h =>
    have h2 := h1.2.2 h rfl
    by_cases q : p1 < len ∧ c p1 = 58
    · simp only [if_pos q]
      have h3 := rdM_in (c := c) (k := 2) (show p1 + 1 ≤ len by omega) (by decide)
      rcases e2 : rdM c len 2 (p1 + 1) with ⟨o2, p2⟩
      rw [e2] at h3
      cases o2 with
      | none => exact ⟨h3.2.1, by have := h3.1; have := h2.1; show p ≤ p2; simp only at *; omega, fun h w q => (by cases q)⟩
      | some w =>
        have h4 := h3.2.2 w rfl
        refine ⟨h3.2.1, by have := h3.1; have := h2.1; show p ≤ p2; simp only at *; omega, fun h' w' q' => ?_⟩
        cases q'
        refine ⟨by have := h4.1; have := h2.1; show p + 3 ≤ p2; simp only at *; omega, by have := h2.2; omega, by have := h4.2; omega⟩
    · simp only [if_neg q]
      exact ⟨h1.2.1, h1.1, fun h w q => (by cases q)⟩
theorem cd_X3_length : kCardV yX3_length cX3_length 1 (some .int) 0 := ⟨⟨wc_X3_length, wi_X3, by decide +kernel, by decide +kernel, rfl⟩, wk_X3_length, ws_X3_length⟩
set_option maxHeartbeats 4000000 in
set_option maxRecDepth 100000 in
theorem c_X3_length (l : Launch) (D : va_G) (tA : Nat → ClassId) (x : Nat → Nat) (c : Nat → Nat) (len p : Nat) (t : Tb)   : Kx l D tA yX3_length cX3_length 1 (some .int) 0 0 [.ref (x 0)] (txW tA x c len p t) (some (.int (nI len))) (txW tA x c len p t) := by
  refine kx_int rfl (Nat.le_of_ble_eq_true rfl) (fun G X E => ?_)
  show J l D G 0 0 (txW tA x c len p t) [(0, .ref (x 0))] 0 []
  refine j_aload_n (pc := 0) X dX3_length_0 rfl (q := 0) rfl ?_
  refine j_get (pc := 1) X (C := RX3) (T := TX3) (N := 4) wz_X3 0 rfl rfl 1 (by decide) wf_X3_24 rfl dX3_length_1 ?_
  exact j_endI (pc := 4) E dX3_length_4 rfl rfl
theorem cd_X3_append : kCardV yX3_append cX3_append 2 (some .boolean) 1 := ⟨⟨wc_X3_append, wi_X3, by decide +kernel, by decide +kernel, rfl⟩, wk_X3_append, ws_X3_append⟩
set_option maxHeartbeats 4000000 in
set_option maxRecDepth 100000 in
theorem c_X3_append (l : Launch) (D : va_G) (tA : Nat → ClassId) (x : Nat → Nat) (c : Nat → Nat) (len p : Nat) (t : Tb) (v : Nat) (hl : len ≤ 60) (hc : ∀ j, c j < 65536) (hp : p ≤ len) (hv : v < 65536) : Kx l D tA yX3_append cX3_append 2 (some .boolean) 0 0 [.ref (x 0), .int (nI v)] (txW tA x c len p t) (some (.int (bI (decide (len < 60))))) (txW tA x (if len < 60 then va_up c len v else c) (if len < 60 then len + 1 else len) p t) := by
  refine kx_bool rfl (Nat.le_of_ble_eq_true rfl) (fun G X E => ?_)
  show J l D G 0 0 (txW tA x c len p t) [(0, .ref (x 0)), (1, .int (nI v))] 0 []
  refine j_aload_n (pc := 0) X dX3_append_0 rfl (q := 0) rfl ?_
  refine j_get (pc := 1) X (C := RX3) (T := TX3) (N := 4) wz_X3 0 rfl rfl 1 (by decide) wf_X3_24 rfl dX3_append_1 ?_
  refine j_if_lt_f (pc := 4) X (tgt := 19) dX3_append_4 (by decide) (nI_pos (by omega)) ?_
  refine j_aload_n (pc := 7) X dX3_append_7 rfl (q := 0) rfl ?_
  refine j_get (pc := 8) X (C := RX3) (T := TX3) (N := 4) wz_X3 0 rfl rfl 1 (by decide) wf_X3_24 rfl dX3_append_8 ?_
  refine j_aload_n (pc := 11) X dX3_append_11 rfl (q := 0) rfl ?_
  refine j_get (pc := 12) X (C := RX3) (T := TX3) (N := 4) wz_X3 0 rfl rfl 0 (by decide) wf_X3_9 rfl dX3_append_12 ?_
  refine j_alen (pc := 15) X 1 1 rfl rfl dX3_append_15 ?_
  refine j_icmp_lt (pc := 16) X (tgt := 21) (P := len < 60) dX3_append_16 (by decide) (nI_ltI (by omega) (by omega)) (fun h16 => ?_) (fun h16 => ?_)
  · skip
    refine j_aload_n (pc := 21) X dX3_append_21 rfl (q := 0) rfl ?_
    refine j_get (pc := 22) X (C := RX3) (T := TX3) (N := 4) wz_X3 0 rfl rfl 0 (by decide) wf_X3_9 rfl dX3_append_22 ?_
    refine j_aload_n (pc := 25) X dX3_append_25 rfl (q := 0) rfl ?_
    refine j_get (pc := 26) X (C := RX3) (T := TX3) (N := 4) wz_X3 0 rfl rfl 1 (by decide) wf_X3_24 rfl dX3_append_26 ?_
    refine j_iload_n (pc := 29) X dX3_append_29 rfl (q := 1) rfl ?_
    refine j_cast (pc := 30) X 1 (i := len) (v := v) rfl (by omega) (by omega) (by omega) (w' := (txW tA x (va_up c len v) len p t)) rfl dX3_append_30 ?_
    refine j_aload_n (pc := 31) X dX3_append_31 rfl (q := 0) rfl ?_
    refine j_dup (pc := 32) X dX3_append_32 rfl ?_
    refine j_get (pc := 33) X (C := RX3) (T := TX3) (N := 4) wz_X3 0 rfl rfl 1 (by decide) wf_X3_24 rfl dX3_append_33 ?_
    refine j_iconst (pc := 36) X (v := (nI 1)) dX3_append_36 (by decide) ?_
    refine j_iadd (pc := 37) X (v := (nI (len + 1))) dX3_append_37 (nI_add _ _) ?_
    refine j_put (pc := 38) X (C := RX3) (T := TX3) (N := 4) wz_X3 tyX3 tyX3_ok nmX3 0 rfl rfl 1 (by decide) wf_X3_24 rfl rfl rfl (Nat.le_of_ble_eq_true rfl) (w' := (txW tA x (va_up c len v) (len + 1) p t)) rfl dX3_append_38 ?_
    refine j_iconst (pc := 41) X (v := (nI 1)) dX3_append_41 (by decide) ?_
    exact j_endI (pc := 42) E dX3_append_42 (bI_t (by simp only [decide_eq_true_eq]; omega)) (by rw [if_pos h16, if_pos h16])
  · skip
    refine j_iconst (pc := 19) X (v := (nI 0)) dX3_append_19 (by decide) ?_
    exact j_endI (pc := 20) E dX3_append_20 (bI_f (by simp only [decide_eq_false_iff_not]; omega)) (by rw [if_neg h16, if_neg h16])
theorem cd_X3_empty : kCardV yX3_empty cX3_empty 1 none 0 := ⟨⟨wc_X3_empty, wi_X3, by decide +kernel, by decide +kernel, rfl⟩, wk_X3_empty, ws_X3_empty⟩
set_option maxHeartbeats 4000000 in
set_option maxRecDepth 100000 in
theorem c_X3_empty (l : Launch) (D : va_G) (tA : Nat → ClassId) (x : Nat → Nat) (c : Nat → Nat) (len p : Nat) (t : Tb)   : Kx l D tA yX3_empty cX3_empty 1 none 0 0 [.ref (x 0)] (txW tA x c len p t) none (txW tA x c 0 p t) := by
  refine kx_void rfl (Nat.le_of_ble_eq_true rfl) (fun G X E => ?_)
  show J l D G 0 0 (txW tA x c len p t) [(0, .ref (x 0))] 0 []
  refine j_aload_n (pc := 0) X dX3_empty_0 rfl (q := 0) rfl ?_
  refine j_iconst (pc := 1) X (v := (nI 0)) dX3_empty_1 (by decide) ?_
  refine j_put (pc := 2) X (C := RX3) (T := TX3) (N := 4) wz_X3 tyX3 tyX3_ok nmX3 0 rfl rfl 1 (by decide) wf_X3_24 rfl rfl rfl (Nat.le_of_ble_eq_true rfl) (w' := (txW tA x c 0 p t)) rfl dX3_empty_2 ?_
  exact j_endV (pc := 5) E dX3_empty_5 rfl
theorem cd_X3_isDigit : kCardS yX3_isDigit cX3_isDigit 1 (some .boolean) 1 := ⟨⟨wc_X3_isDigit, wi_X3, by decide +kernel, by decide +kernel, rfl⟩, wt_X3_isDigit⟩
set_option maxHeartbeats 4000000 in
set_option maxRecDepth 100000 in
theorem c_X3_isDigit (l : Launch) (D : va_G) (tA : Nat → ClassId) (x : Int32)  : Kx l D tA yX3_isDigit cX3_isDigit 1 (some .boolean) 0 0 [.int x] ([] : va_W) (some (.int (bI (dgt x)))) ([] : va_W) := by
  refine kx_bool rfl (Nat.le_of_ble_eq_true rfl) (fun G X E => ?_)
  show J l D G 0 0 ([] : va_W) [(0, .int x)] 0 []
  refine j_iload_n (pc := 0) X dX3_isDigit_0 rfl (q := 0) rfl ?_
  refine j_bipush (pc := 1) X (v := (nI 48)) dX3_isDigit_1 (by decide) ?_
  refine j_icmp_lt (pc := 3) X (tgt := 16) (P := x.toInt < ((48 : Nat) : Int)) dX3_isDigit_3 (by decide) (iC_ltn (by omega)) (fun h3 => ?_) (fun h3 => ?_)
  · skip
    refine j_iconst (pc := 16) X (v := (nI 0)) dX3_isDigit_16 (by decide) ?_
    exact j_endI (pc := 17) E dX3_isDigit_17 (bI_f (by simp only [dgt, decide_eq_false_iff_not]; omega)) rfl
  · skip
    refine j_iload_n (pc := 6) X dX3_isDigit_6 rfl (q := 0) rfl ?_
    refine j_bipush (pc := 7) X (v := (nI 57)) dX3_isDigit_7 (by decide) ?_
    refine j_icmp_gt (pc := 9) X (tgt := 16) (P := ((57 : Nat) : Int) < x.toInt) dX3_isDigit_9 (by decide) (iC_gtn (by omega)) (fun h9 => ?_) (fun h9 => ?_)
    · skip
      refine j_iconst (pc := 16) X (v := (nI 0)) dX3_isDigit_16 (by decide) ?_
      exact j_endI (pc := 17) E dX3_isDigit_17 (bI_f (by simp only [dgt, decide_eq_false_iff_not]; omega)) rfl
    · skip
      refine j_iconst (pc := 12) X (v := (nI 1)) dX3_isDigit_12 (by decide) ?_
      refine j_goto (pc := 13) X (tgt := 17) dX3_isDigit_13 (by decide) ?_
      exact j_endI (pc := 17) E dX3_isDigit_17 (bI_t (by simp only [dgt, decide_eq_true_eq]; omega)) rfl
theorem cd_X3_sign : kCardV yX3_sign cX3_sign 1 (some .int) 0 := ⟨⟨wc_X3_sign, wi_X3, by decide +kernel, by decide +kernel, rfl⟩, wk_X3_sign, ws_X3_sign⟩
set_option maxHeartbeats 4000000 in
set_option maxRecDepth 100000 in
theorem c_X3_sign (l : Launch) (D : va_G) (tA : Nat → ClassId) (x : Nat → Nat) (c : Nat → Nat) (len p : Nat) (t : Tb)  (hl : len ≤ 60) (hc : ∀ j, c j < 65536) (hp : p ≤ len) : Kx l D tA yX3_sign cX3_sign 1 (some .int) 0 0 [.ref (x 0)] (txW tA x c len p t) (some (.int (nI (sgN c len p)))) (txW tA x c len p t) := by
  refine kx_int rfl (Nat.le_of_ble_eq_true rfl) (fun G X E => ?_)
  show J l D G 0 0 (txW tA x c len p t) [(0, .ref (x 0))] 0 []
  refine j_aload_n (pc := 0) X dX3_sign_0 rfl (q := 0) rfl ?_
  refine j_get (pc := 1) X (C := RX3) (T := TX3) (N := 4) wz_X3 0 rfl rfl 2 (by decide) wf_X3_31 rfl dX3_sign_1 ?_
  refine j_if_lt_f (pc := 4) X (tgt := 30) dX3_sign_4 (by decide) (nI_pos (by omega)) ?_
  refine j_aload_n (pc := 7) X dX3_sign_7 rfl (q := 0) rfl ?_
  refine j_get (pc := 8) X (C := RX3) (T := TX3) (N := 4) wz_X3 0 rfl rfl 2 (by decide) wf_X3_31 rfl dX3_sign_8 ?_
  refine j_aload_n (pc := 11) X dX3_sign_11 rfl (q := 0) rfl ?_
  refine j_get (pc := 12) X (C := RX3) (T := TX3) (N := 4) wz_X3 0 rfl rfl 1 (by decide) wf_X3_24 rfl dX3_sign_12 ?_
  refine j_icmp_ge (pc := 15) X (tgt := 30) (P := len ≤ p) dX3_sign_15 (by decide) (nI_leI (by omega) (by omega)) (fun h15 => ?_) (fun h15 => ?_)
  · skip
    refine j_iconst (pc := 30) X (v := (-1)) dX3_sign_30 (by decide) ?_
    exact j_endI (pc := 31) E dX3_sign_31 (by rw [sgN, if_neg (by omega)]; decide +kernel) rfl
  · skip
    refine j_aload_n (pc := 18) X dX3_sign_18 rfl (q := 0) rfl ?_
    refine j_get (pc := 19) X (C := RX3) (T := TX3) (N := 4) wz_X3 0 rfl rfl 2 (by decide) wf_X3_31 rfl dX3_sign_19 ?_
    refine j_aload_n (pc := 22) X dX3_sign_22 rfl (q := 0) rfl ?_
    refine j_get (pc := 23) X (C := RX3) (T := TX3) (N := 4) wz_X3 0 rfl rfl 0 (by decide) wf_X3_9 rfl dX3_sign_23 ?_
    refine j_alen (pc := 26) X 1 1 rfl rfl dX3_sign_26 ?_
    refine j_icmp_lt_t (pc := 27) X (tgt := 32) dX3_sign_27 (by decide) (nI_lt (show p < 60 by omega) (by omega)) ?_
    refine j_aload_n (pc := 32) X dX3_sign_32 rfl (q := 0) rfl ?_
    refine j_get (pc := 33) X (C := RX3) (T := TX3) (N := 4) wz_X3 0 rfl rfl 0 (by decide) wf_X3_9 rfl dX3_sign_33 ?_
    refine j_aload_n (pc := 36) X dX3_sign_36 rfl (q := 0) rfl ?_
    refine j_get (pc := 37) X (C := RX3) (T := TX3) (N := 4) wz_X3 0 rfl rfl 2 (by decide) wf_X3_31 rfl dX3_sign_37 ?_
    refine j_cald (pc := 40) X 1 (i := p) rfl (by omega) (by omega) dX3_sign_40 ?_
    exact j_endI (pc := 41) E dX3_sign_41 (by rw [sgN, if_pos (by omega)]) rfl
theorem sg_eq {c : Nat → Nat} (hc : ∀ j, c j < 65536) {len p v : Nat} (hv : v < 65536) : nI (sgN c len p) = nI v ↔ (p < len ∧ c p = v) := by
  have := hc p
  have e : sgN c len p < 2 ^ 32 := by unfold sgN; split <;> omega
  rw [nI_eq32 e (by omega)]
  unfold sgN
  split
  · next h => exact ⟨fun q => ⟨h, q⟩, fun q => q.2⟩
  · next h => exact ⟨fun q => by omega, fun q => absurd q.1 h⟩
def sgnB (c : Nat → Nat) (len p v : Nat) : Bool := decide (p < len ∧ c p = v)
theorem cd_X3_readSign : kCardV yX3_readSign cX3_readSign 2 (some .boolean) 1 := ⟨⟨wc_X3_readSign, wi_X3, by decide +kernel, by decide +kernel, rfl⟩, wk_X3_readSign, ws_X3_readSign⟩
set_option maxHeartbeats 4000000 in
set_option maxRecDepth 100000 in
theorem c_X3_readSign (l : Launch) (D : va_G) (tA : Nat → ClassId) (x : Nat → Nat) (c : Nat → Nat) (len p : Nat) (t : Tb) (v : Nat) (hl : len ≤ 60) (hc : ∀ j, c j < 65536) (hp : p ≤ len) (hv : v < 65536) : Kx l D tA yX3_readSign cX3_readSign 2 (some .boolean) 1 20 [.ref (x 0), .int (nI v)] (txW tA x c len p t) (some (.int (bI (sgnB c len p v)))) (txW tA x c len (if sgnB c len p v = true then p + 1 else p) t) := by
  refine kx_bool rfl (Nat.le_of_ble_eq_true rfl) (fun G X E => ?_)
  show J l D G 0 0 (txW tA x c len p t) [(0, .ref (x 0)), (1, .int (nI v))] 0 []
  refine j_aload_n (pc := 0) X dX3_readSign_0 rfl (q := 0) rfl ?_
  refine j_callVR (pc := 1) X (st := [])  (c_X3_sign l D tA x c len p t  (by first | assumption | omega | decide) (by first | assumption | omega | decide) (by first | assumption | omega | decide)) cd_X3_sign wm_X3_50 0 rfl rfl rfl [0, 1, 2, 3] rfl rfl ⟨Nat.le_of_ble_eq_true rfl, Nat.le_of_ble_eq_true rfl⟩ ⟨Nat.zero_le _, Nat.zero_le _⟩ rfl (Nat.le_of_ble_eq_true rfl) dX3_readSign_1 ?_
  refine j_iload_n (pc := 4) X dX3_readSign_4 rfl (q := 1) rfl ?_
  refine j_icmp_eq (pc := 5) X (tgt := 10) (P := p < len ∧ c p = v) dX3_readSign_5 (by decide) (sg_eq hc hv) (fun h5 => ?_) (fun h5 => ?_)
  · skip
    refine j_aload_n (pc := 10) X dX3_readSign_10 rfl (q := 0) rfl ?_
    refine j_dup (pc := 11) X dX3_readSign_11 rfl ?_
    refine j_get (pc := 12) X (C := RX3) (T := TX3) (N := 4) wz_X3 0 rfl rfl 2 (by decide) wf_X3_31 rfl dX3_readSign_12 ?_
    refine j_iconst (pc := 15) X (v := (nI 1)) dX3_readSign_15 (by decide) ?_
    refine j_iadd (pc := 16) X (v := (nI (p + 1))) dX3_readSign_16 (nI_add _ _) ?_
    refine j_put (pc := 17) X (C := RX3) (T := TX3) (N := 4) wz_X3 tyX3 tyX3_ok nmX3 0 rfl rfl 2 (by decide) wf_X3_31 rfl rfl rfl (Nat.le_of_ble_eq_true rfl) (w' := (txW tA x c len (p + 1) t)) rfl dX3_readSign_17 ?_
    refine j_iconst (pc := 20) X (v := (nI 1)) dX3_readSign_20 (by decide) ?_
    exact j_endI (pc := 21) E dX3_readSign_21 (bI_t (by simp only [sgnB, decide_eq_true_eq]; exact h5)) (by rw [if_pos (by simp only [sgnB, decide_eq_true_eq]; exact h5)])
  · skip
    refine j_iconst (pc := 8) X (v := (nI 0)) dX3_readSign_8 (by decide) ?_
    exact j_endI (pc := 9) E dX3_readSign_9 (bI_f (by simp only [sgnB, decide_eq_false_iff_not]; exact h5)) (by rw [if_neg (by simp only [sgnB, decide_eq_true_eq]; exact h5)])
theorem cd_X3_readNumber : kCardV yX3_readNumber cX3_readNumber 5 (some .int) 1 := ⟨⟨wc_X3_readNumber, wi_X3, by decide +kernel, by decide +kernel, rfl⟩, wk_X3_readNumber, ws_X3_readNumber⟩
set_option maxHeartbeats 4000000 in
set_option maxRecDepth 100000 in
theorem c_X3_readNumber (l : Launch) (D : va_G) (tA : Nat → ClassId) (x : Nat → Nat) (c : Nat → Nat) (len p : Nat) (t : Tb) (k : Nat) (hl : len ≤ 60) (hc : ∀ j, c j < 65536) (hp : p ≤ len) (hk : k ≤ 3) : Kx l D tA yX3_readNumber cX3_readNumber 5 (some .int) 1 20 [.ref (x 0), .int (nI k)] (txW tA x c len p t) (some (.int (rN ((rdM c len k p).1)))) (txW tA x c len ((rdM c len k p).2) t) := by
  refine kx_int rfl (Nat.le_of_ble_eq_true rfl) (fun G X E => ?_)
  show J l D G 0 0 (txW tA x c len p t) [(0, .ref (x 0)), (1, .int (nI k))] 0 []
  refine j_aload_n (pc := 0) X dX3_readNumber_0 rfl (q := 0) rfl ?_
  refine j_callVR (pc := 1) X (st := [])  (c_X3_sign l D tA x c len p t  (by first | assumption | omega | decide) (by first | assumption | omega | decide) (by first | assumption | omega | decide)) cd_X3_sign wm_X3_50 0 rfl rfl rfl [0, 1, 2, 3] rfl rfl ⟨Nat.le_of_ble_eq_true rfl, Nat.le_of_ble_eq_true rfl⟩ ⟨Nat.zero_le _, Nat.zero_le _⟩ rfl (Nat.le_of_ble_eq_true rfl) dX3_readNumber_1 ?_
  refine j_callSR (pc := 4) X (st := [])  (c_X3_isDigit l D tA (nI (sgN c len p))) cd_X3_isDigit wm_X3_53 rfl [] rfl rfl ⟨Nat.le_of_ble_eq_true rfl, Nat.le_of_ble_eq_true rfl⟩ ⟨Nat.zero_le _, Nat.zero_le _⟩ rfl (Nat.le_of_ble_eq_true rfl) dX3_readNumber_4 ?_
  refine j_if_ne (pc := 7) X (tgt := 12) (P := isD c len p = true) dX3_readNumber_7 (by decide) ((bI_n0 _).trans (by rw [dgt_sg hc])) (fun h7 => ?_) (fun h7 => ?_)
  · skip
    have hd7 : p < len ∧ 48 ≤ c p ∧ c p ≤ 57 := by simpa only [isD, decide_eq_true_eq] using h7
    refine j_aload_n (pc := 12) X dX3_readNumber_12 rfl (q := 0) rfl ?_
    refine j_callVR (pc := 13) X (st := [])  (c_X3_sign l D tA x c len p t  (by first | assumption | omega | decide) (by first | assumption | omega | decide) (by first | assumption | omega | decide)) cd_X3_sign wm_X3_50 0 rfl rfl rfl [0, 1, 2, 3] rfl rfl ⟨Nat.le_of_ble_eq_true rfl, Nat.le_of_ble_eq_true rfl⟩ ⟨Nat.zero_le _, Nat.zero_le _⟩ rfl (Nat.le_of_ble_eq_true rfl) dX3_readNumber_13 ?_
    refine j_bipush (pc := 16) X (v := (nI 48)) dX3_readNumber_16 (by decide) ?_
    refine j_icmp_ne (pc := 18) X (tgt := 25) (P := ¬ c p = 48) dX3_readNumber_18 (by decide) (not_congr ((sg_eq hc (by decide)).trans (and_iff_right (by omega)))) (fun h18 => ?_) (fun h18 => ?_)
    · skip
      refine j_iload_n (pc := 25) X dX3_readNumber_25 rfl (q := 1) rfl ?_
      refine j_top (v' := nI (rdK c k p)) (by rw [rdK, if_neg h18]) ?_
      refine j_istore_n (pc := 26) X (lv' := [(2, .int (nI (rdK c k p))), (0, .ref (x 0)), (1, .int (nI k))]) dX3_readNumber_26 rfl (by decide) rfl ?_
      refine j_iconst (pc := 27) X (v := (nI 0)) dX3_readNumber_27 (by decide) ?_
      refine j_istore_n (pc := 28) X (lv' := [(3, .int (nI 0)), (2, .int (nI (rdK c k p))), (0, .ref (x 0)), (1, .int (nI k))]) dX3_readNumber_28 rfl (by decide) rfl ?_
      refine j_iconst (pc := 29) X (v := (nI 0)) dX3_readNumber_29 (by decide) ?_
      refine j_istore (pc := 30) X (lv' := [(4, .int (nI 0)), (3, .int (nI 0)), (2, .int (nI (rdK c k p))), (0, .ref (x 0)), (1, .int (nI k))]) dX3_readNumber_30 (by decide) rfl ?_
      have L_32 : ∀ (fu : Nat) (i q v : Nat), i ≤ rdK c k p → q ≤ len → rdL c len (rdK c k p - i) q v = rdL c len (rdK c k p) p 0 → rdK c k p - i < fu → J l D G 0 0 (txW tA x c len q t) [(0, .ref (x 0)), (1, .int (nI k)), (2, .int (nI (rdK c k p))), (3, .int (nI v)), (4, .int (nI i))] 32 [] := by
        intro fu
        induction fu with
        | zero => intro i q v hi hq hk2 hfu; exact absurd hfu (Nat.not_lt_zero _)
        | succ fu ih_32 =>
          intro i q v hi hq hk2 hfu
          refine j_iload (pc := 32) X dX3_readNumber_32 (q := 4) rfl ?_
          have hk3 : rdK c k p ≤ 3 := by unfold rdK; split <;> omega
          refine j_iload_n (pc := 34) X dX3_readNumber_34 rfl (q := 2) rfl ?_
          refine j_icmp_ge (pc := 35) X (tgt := 77) (P := (rdK c k p) ≤ i) dX3_readNumber_35 (by decide) (nI_leI (by omega) (by omega)) (fun h35 => ?_) (fun h35 => ?_)
          · skip
            refine j_iload_n (pc := 77) X dX3_readNumber_77 rfl (q := 3) rfl ?_
            exact j_endI (pc := 78) E dX3_readNumber_78 (by rw [rdM, if_pos h7, ← hk2, show rdK c k p - i = 0 by omega]; rfl) (by rw [rdM, if_pos h7, ← hk2, show rdK c k p - i = 0 by omega]; rfl)
          · skip
            refine j_aload_n (pc := 38) X dX3_readNumber_38 rfl (q := 0) rfl ?_
            refine j_callVR (pc := 39) X (st := [])  (c_X3_sign l D tA x c len q t  hl hc (by omega)) cd_X3_sign wm_X3_50 0 rfl rfl rfl [0, 1, 2, 3] rfl rfl ⟨Nat.le_of_ble_eq_true rfl, Nat.le_of_ble_eq_true rfl⟩ ⟨Nat.zero_le _, Nat.zero_le _⟩ rfl (Nat.le_of_ble_eq_true rfl) dX3_readNumber_39 ?_
            refine j_callSR (pc := 42) X (st := [])  (c_X3_isDigit l D tA (nI (sgN c len q))) cd_X3_isDigit wm_X3_53 rfl [] rfl rfl ⟨Nat.le_of_ble_eq_true rfl, Nat.le_of_ble_eq_true rfl⟩ ⟨Nat.zero_le _, Nat.zero_le _⟩ rfl (Nat.le_of_ble_eq_true rfl) dX3_readNumber_42 ?_
            refine j_if_eq (pc := 45) X (tgt := 77) (P := isD c len q = false) dX3_readNumber_45 (by decide) ((bI_0 _).trans (by rw [dgt_sg hc])) (fun h45 => ?_) (fun h45 => ?_)
            · skip
              refine j_iload_n (pc := 77) X dX3_readNumber_77 rfl (q := 3) rfl ?_
              exact j_endI (pc := 78) E dX3_readNumber_78 (by rw [rdM, if_pos h7, ← hk2, show rdK c k p - i = (rdK c k p - (i + 1)) + 1 by omega, rdL, if_neg (by rw [h45]; decide)]; rfl) (by rw [rdM, if_pos h7, ← hk2, show rdK c k p - i = (rdK c k p - (i + 1)) + 1 by omega, rdL, if_neg (by rw [h45]; decide)])
            · skip
              have h45 := t5 h45
              have hd45 : q < len ∧ 48 ≤ c q ∧ c q ≤ 57 := by simpa only [isD, decide_eq_true_eq] using h45
              refine j_iload_n (pc := 48) X dX3_readNumber_48 rfl (q := 3) rfl ?_
              refine j_bipush (pc := 49) X (v := (nI 10)) dX3_readNumber_49 (by decide) ?_
              refine j_imul (pc := 51) X (v := (nI (v * 10))) dX3_readNumber_51 (pk_mul _ _) ?_
              refine j_aload_n (pc := 52) X dX3_readNumber_52 rfl (q := 0) rfl ?_
              refine j_callVR (pc := 53) X (st := [.int (nI (v * 10))])  (c_X3_sign l D tA x c len q t  hl hc (by omega)) cd_X3_sign wm_X3_50 0 rfl rfl rfl [0, 1, 2, 3] rfl rfl ⟨Nat.le_of_ble_eq_true rfl, Nat.le_of_ble_eq_true rfl⟩ ⟨Nat.zero_le _, Nat.zero_le _⟩ rfl (Nat.le_of_ble_eq_true rfl) dX3_readNumber_53 ?_
              rw [show sgN c len q = c q from by rw [sgN, if_pos (by omega)]]
              refine j_iadd (pc := 56) X (v := (nI ((v * 10) + (c q)))) dX3_readNumber_56 (nI_add _ _) ?_
              refine j_bipush (pc := 57) X (v := (nI 48)) dX3_readNumber_57 (by decide) ?_
              refine j_isub (pc := 59) X (v := (nI (((v * 10) + (c q)) - 48))) dX3_readNumber_59 (pk_sub (by omega)) ?_
              refine j_istore_n (pc := 60) X (lv' := [(3, .int (nI (((v * 10) + (c q)) - 48))), (0, .ref (x 0)), (1, .int (nI k)), (2, .int (nI (rdK c k p))), (4, .int (nI i))]) dX3_readNumber_60 rfl (by decide) rfl ?_
              refine j_aload_n (pc := 61) X dX3_readNumber_61 rfl (q := 1) rfl ?_
              refine j_dup (pc := 62) X dX3_readNumber_62 rfl ?_
              refine j_get (pc := 63) X (C := RX3) (T := TX3) (N := 4) wz_X3 0 rfl rfl 2 (by decide) wf_X3_31 rfl dX3_readNumber_63 ?_
              refine j_iconst (pc := 66) X (v := (nI 1)) dX3_readNumber_66 (by decide) ?_
              refine j_iadd (pc := 67) X (v := (nI (q + 1))) dX3_readNumber_67 (nI_add _ _) ?_
              refine j_put (pc := 68) X (C := RX3) (T := TX3) (N := 4) wz_X3 tyX3 tyX3_ok nmX3 0 rfl rfl 2 (by decide) wf_X3_31 rfl rfl rfl (Nat.le_of_ble_eq_true rfl) (w' := (txW tA x c len (q + 1) t)) rfl dX3_readNumber_68 ?_
              refine j_iinc (pc := 71) X (v := (nI (i + 1))) (lv' := [(4, .int (nI (i + 1))), (3, .int (nI (((v * 10) + (c q)) - 48))), (0, .ref (x 0)), (1, .int (nI k)), (2, .int (nI (rdK c k p)))]) dX3_readNumber_71 (q := 4) rfl (nI_add _ _) (by decide) rfl ?_
              refine j_goto (pc := 74) X (tgt := 32) dX3_readNumber_74 (by decide) ?_
              refine j_lv X (lv' := [(0, .ref (x 0)), (1, .int (nI k)), (2, .int (nI (rdK c k p))), (3, .int (nI (((v * 10) + (c q)) - 48))), (4, .int (nI (i + 1)))]) [2, 3, 4, 1, 0] rfl ?_
              exact ih_32 (i + 1) (q + 1) (v * 10 + c q - 48) (by omega) (by omega) (by rw [← hk2, show rdK c k p - i = (rdK c k p - (i + 1)) + 1 by omega, rdL, if_pos h45]) (by omega)
      refine j_lv X (lv' := [(0, .ref (x 0)), (1, .int (nI k)), (2, .int (nI (rdK c k p))), (3, .int (nI 0)), (4, .int (nI 0))]) [3, 4, 2, 1, 0] rfl ?_
      exact L_32 _ 0 p 0 (Nat.zero_le _) hp rfl (Nat.lt_succ_self _)
    · skip
      refine j_iconst (pc := 21) X (v := (nI 1)) dX3_readNumber_21 (by decide) ?_
      refine j_goto (pc := 22) X (tgt := 26) dX3_readNumber_22 (by decide) ?_
      refine j_top (v' := nI (rdK c k p)) (by rw [rdK, if_pos (Decidable.not_not.mp h18)]) ?_
      refine j_istore_n (pc := 26) X (lv' := [(2, .int (nI (rdK c k p))), (0, .ref (x 0)), (1, .int (nI k))]) dX3_readNumber_26 rfl (by decide) rfl ?_
      refine j_iconst (pc := 27) X (v := (nI 0)) dX3_readNumber_27 (by decide) ?_
      refine j_istore_n (pc := 28) X (lv' := [(3, .int (nI 0)), (2, .int (nI (rdK c k p))), (0, .ref (x 0)), (1, .int (nI k))]) dX3_readNumber_28 rfl (by decide) rfl ?_
      refine j_iconst (pc := 29) X (v := (nI 0)) dX3_readNumber_29 (by decide) ?_
      refine j_istore (pc := 30) X (lv' := [(4, .int (nI 0)), (3, .int (nI 0)), (2, .int (nI (rdK c k p))), (0, .ref (x 0)), (1, .int (nI k))]) dX3_readNumber_30 (by decide) rfl ?_
      have L_32 : ∀ (fu : Nat) (i q v : Nat), i ≤ rdK c k p → q ≤ len → rdL c len (rdK c k p - i) q v = rdL c len (rdK c k p) p 0 → rdK c k p - i < fu → J l D G 0 0 (txW tA x c len q t) [(0, .ref (x 0)), (1, .int (nI k)), (2, .int (nI (rdK c k p))), (3, .int (nI v)), (4, .int (nI i))] 32 [] := by
        intro fu
        induction fu with
        | zero => intro i q v hi hq hk2 hfu; exact absurd hfu (Nat.not_lt_zero _)
        | succ fu ih_32 =>
          intro i q v hi hq hk2 hfu
          refine j_iload (pc := 32) X dX3_readNumber_32 (q := 4) rfl ?_
          have hk3 : rdK c k p ≤ 3 := by unfold rdK; split <;> omega
          refine j_iload_n (pc := 34) X dX3_readNumber_34 rfl (q := 2) rfl ?_
          refine j_icmp_ge (pc := 35) X (tgt := 77) (P := (rdK c k p) ≤ i) dX3_readNumber_35 (by decide) (nI_leI (by omega) (by omega)) (fun h35 => ?_) (fun h35 => ?_)
          · skip
            refine j_iload_n (pc := 77) X dX3_readNumber_77 rfl (q := 3) rfl ?_
            exact j_endI (pc := 78) E dX3_readNumber_78 (by rw [rdM, if_pos h7, ← hk2, show rdK c k p - i = 0 by omega]; rfl) (by rw [rdM, if_pos h7, ← hk2, show rdK c k p - i = 0 by omega]; rfl)
          · skip
            refine j_aload_n (pc := 38) X dX3_readNumber_38 rfl (q := 0) rfl ?_
            refine j_callVR (pc := 39) X (st := [])  (c_X3_sign l D tA x c len q t  hl hc (by omega)) cd_X3_sign wm_X3_50 0 rfl rfl rfl [0, 1, 2, 3] rfl rfl ⟨Nat.le_of_ble_eq_true rfl, Nat.le_of_ble_eq_true rfl⟩ ⟨Nat.zero_le _, Nat.zero_le _⟩ rfl (Nat.le_of_ble_eq_true rfl) dX3_readNumber_39 ?_
            refine j_callSR (pc := 42) X (st := [])  (c_X3_isDigit l D tA (nI (sgN c len q))) cd_X3_isDigit wm_X3_53 rfl [] rfl rfl ⟨Nat.le_of_ble_eq_true rfl, Nat.le_of_ble_eq_true rfl⟩ ⟨Nat.zero_le _, Nat.zero_le _⟩ rfl (Nat.le_of_ble_eq_true rfl) dX3_readNumber_42 ?_
            refine j_if_eq (pc := 45) X (tgt := 77) (P := isD c len q = false) dX3_readNumber_45 (by decide) ((bI_0 _).trans (by rw [dgt_sg hc])) (fun h45 => ?_) (fun h45 => ?_)
            · skip
              refine j_iload_n (pc := 77) X dX3_readNumber_77 rfl (q := 3) rfl ?_
              exact j_endI (pc := 78) E dX3_readNumber_78 (by rw [rdM, if_pos h7, ← hk2, show rdK c k p - i = (rdK c k p - (i + 1)) + 1 by omega, rdL, if_neg (by rw [h45]; decide)]; rfl) (by rw [rdM, if_pos h7, ← hk2, show rdK c k p - i = (rdK c k p - (i + 1)) + 1 by omega, rdL, if_neg (by rw [h45]; decide)])
            · skip
              have h45 := t5 h45
              have hd45 : q < len ∧ 48 ≤ c q ∧ c q ≤ 57 := by simpa only [isD, decide_eq_true_eq] using h45
              refine j_iload_n (pc := 48) X dX3_readNumber_48 rfl (q := 3) rfl ?_
              refine j_bipush (pc := 49) X (v := (nI 10)) dX3_readNumber_49 (by decide) ?_
              refine j_imul (pc := 51) X (v := (nI (v * 10))) dX3_readNumber_51 (pk_mul _ _) ?_
              refine j_aload_n (pc := 52) X dX3_readNumber_52 rfl (q := 0) rfl ?_
              refine j_callVR (pc := 53) X (st := [.int (nI (v * 10))])  (c_X3_sign l D tA x c len q t  hl hc (by omega)) cd_X3_sign wm_X3_50 0 rfl rfl rfl [0, 1, 2, 3] rfl rfl ⟨Nat.le_of_ble_eq_true rfl, Nat.le_of_ble_eq_true rfl⟩ ⟨Nat.zero_le _, Nat.zero_le _⟩ rfl (Nat.le_of_ble_eq_true rfl) dX3_readNumber_53 ?_
              rw [show sgN c len q = c q from by rw [sgN, if_pos (by omega)]]
              refine j_iadd (pc := 56) X (v := (nI ((v * 10) + (c q)))) dX3_readNumber_56 (nI_add _ _) ?_
              refine j_bipush (pc := 57) X (v := (nI 48)) dX3_readNumber_57 (by decide) ?_
              refine j_isub (pc := 59) X (v := (nI (((v * 10) + (c q)) - 48))) dX3_readNumber_59 (pk_sub (by omega)) ?_
              refine j_istore_n (pc := 60) X (lv' := [(3, .int (nI (((v * 10) + (c q)) - 48))), (0, .ref (x 0)), (1, .int (nI k)), (2, .int (nI (rdK c k p))), (4, .int (nI i))]) dX3_readNumber_60 rfl (by decide) rfl ?_
              refine j_aload_n (pc := 61) X dX3_readNumber_61 rfl (q := 1) rfl ?_
              refine j_dup (pc := 62) X dX3_readNumber_62 rfl ?_
              refine j_get (pc := 63) X (C := RX3) (T := TX3) (N := 4) wz_X3 0 rfl rfl 2 (by decide) wf_X3_31 rfl dX3_readNumber_63 ?_
              refine j_iconst (pc := 66) X (v := (nI 1)) dX3_readNumber_66 (by decide) ?_
              refine j_iadd (pc := 67) X (v := (nI (q + 1))) dX3_readNumber_67 (nI_add _ _) ?_
              refine j_put (pc := 68) X (C := RX3) (T := TX3) (N := 4) wz_X3 tyX3 tyX3_ok nmX3 0 rfl rfl 2 (by decide) wf_X3_31 rfl rfl rfl (Nat.le_of_ble_eq_true rfl) (w' := (txW tA x c len (q + 1) t)) rfl dX3_readNumber_68 ?_
              refine j_iinc (pc := 71) X (v := (nI (i + 1))) (lv' := [(4, .int (nI (i + 1))), (3, .int (nI (((v * 10) + (c q)) - 48))), (0, .ref (x 0)), (1, .int (nI k)), (2, .int (nI (rdK c k p)))]) dX3_readNumber_71 (q := 4) rfl (nI_add _ _) (by decide) rfl ?_
              refine j_goto (pc := 74) X (tgt := 32) dX3_readNumber_74 (by decide) ?_
              refine j_lv X (lv' := [(0, .ref (x 0)), (1, .int (nI k)), (2, .int (nI (rdK c k p))), (3, .int (nI (((v * 10) + (c q)) - 48))), (4, .int (nI (i + 1)))]) [2, 3, 4, 1, 0] rfl ?_
              exact ih_32 (i + 1) (q + 1) (v * 10 + c q - 48) (by omega) (by omega) (by rw [← hk2, show rdK c k p - i = (rdK c k p - (i + 1)) + 1 by omega, rdL, if_pos h45]) (by omega)
      refine j_lv X (lv' := [(0, .ref (x 0)), (1, .int (nI k)), (2, .int (nI (rdK c k p))), (3, .int (nI 0)), (4, .int (nI 0))]) [3, 4, 2, 1, 0] rfl ?_
      exact L_32 _ 0 p 0 (Nat.zero_le _) hp rfl (Nat.lt_succ_self _)
  · skip
    refine j_iconst (pc := 10) X (v := (-1)) dX3_readNumber_10 (by decide) ?_
    exact j_endI (pc := 11) E dX3_readNumber_11 (by rw [rdM, if_neg h7]; rfl) (by rw [rdM, if_neg h7])
theorem prs_no {c : Nat → Nat} {len n p q : Nat} {t : Tb} (e : rdW c len p = (none, q)) : prs c len (n + 1) p t = (some q, q, t) := by
  unfold prs; rw [e]
theorem prs_end {c : Nat → Nat} {len n p q h w : Nat} {t : Tb} (e : rdW c len p = (some (h, w), q)) (hq : len ≤ q) : prs c len (n + 1) p t = (none, q, tSet 2 (tSet 2 (tAdd 2 t) t.1 0 h) t.1 1 w) := by
  unfold prs; rw [e]; exact if_pos hq
theorem prs_go {c : Nat → Nat} {len n p q h w : Nat} {t : Tb} (e : rdW c len p = (some (h, w), q)) (hq : ¬ len ≤ q) (h2 : c q = 59) : prs c len (n + 1) p t = prs c len n (q + 1) (tSet 2 (tSet 2 (tAdd 2 t) t.1 0 h) t.1 1 w) := by
  conv => lhs; unfold prs
  rw [e]
  show (if len ≤ q then _ else _) = _
  rw [if_neg hq, if_pos h2]
theorem prs_bad {c : Nat → Nat} {len n p q h w : Nat} {t : Tb} (e : rdW c len p = (some (h, w), q)) (hq : ¬ len ≤ q) (h2 : ¬ c q = 59) : prs c len (n + 1) p t = (some q, q, tSet 2 (tSet 2 (tAdd 2 t) t.1 0 h) t.1 1 w) := by
  unfold prs
  rw [e]
  show (if len ≤ q then _ else _) = _
  rw [if_neg hq, if_neg h2]
theorem rdW_1 {c : Nat → Nat} {len p : Nat} (h : (rdM c len 3 p).1 = none) : rdW c len p = (none, (rdM c len 3 p).2) := by
  unfold rdW
  rcases e : rdM c len 3 p with ⟨o1, p1⟩
  rw [e] at h
  have h : o1 = none := h
  subst h
  rfl
theorem rdW_2 {c : Nat → Nat} {len p a : Nat} (h : (rdM c len 3 p).1 = some a) (h2 : ¬ sgnB c len (rdM c len 3 p).2 58 = true) : rdW c len p = (none, (rdM c len 3 p).2) := by
  unfold rdW
  rcases e : rdM c len 3 p with ⟨o1, p1⟩
  rw [e] at h h2
  have h : o1 = some a := h
  subst h
  simp only [sgnB, decide_eq_true_eq] at h2
  exact if_neg h2
theorem rdW_3 {c : Nat → Nat} {len p a : Nat} (h : (rdM c len 3 p).1 = some a) (h2 : sgnB c len (rdM c len 3 p).2 58 = true) (h3 : (rdM c len 2 ((rdM c len 3 p).2 + 1)).1 = none) : rdW c len p = (none, (rdM c len 2 ((rdM c len 3 p).2 + 1)).2) := by
  unfold rdW
  rcases e : rdM c len 3 p with ⟨o1, p1⟩
  rw [e] at h h2 h3
  have h : o1 = some a := h
  subst h
  simp only [sgnB, decide_eq_true_eq] at h2
  show (if p1 < len ∧ c p1 = 58 then _ else _) = _
  rw [if_pos h2]
  rcases e2 : rdM c len 2 (p1 + 1) with ⟨o2, p2⟩
  have h3 : (rdM c len 2 (p1 + 1)).1 = none := h3
  rw [e2] at h3
  have h3 : o2 = none := h3
  subst h3
  rfl
theorem rdW_4 {c : Nat → Nat} {len p a b : Nat} (h : (rdM c len 3 p).1 = some a) (h2 : sgnB c len (rdM c len 3 p).2 58 = true) (h3 : (rdM c len 2 ((rdM c len 3 p).2 + 1)).1 = some b) : rdW c len p = (some (a, b), (rdM c len 2 ((rdM c len 3 p).2 + 1)).2) := by
  unfold rdW
  rcases e : rdM c len 3 p with ⟨o1, p1⟩
  rw [e] at h h2 h3
  have h : o1 = some a := h
  subst h
  simp only [sgnB, decide_eq_true_eq] at h2
  show (if p1 < len ∧ c p1 = 58 then _ else _) = _
  rw [if_pos h2]
  rcases e2 : rdM c len 2 (p1 + 1) with ⟨o2, p2⟩
  have h3 : (rdM c len 2 (p1 + 1)).1 = some b := h3
  rw [e2] at h3
  have h3 : o2 = some b := h3
  subst h3
  rfl
theorem cd_X3_parse : kCardV yX3_parse cX3_parse 5 (some .int) 0 := ⟨⟨wc_X3_parse, wi_X3, by decide +kernel, by decide +kernel, rfl⟩, wk_X3_parse, ws_X3_parse⟩
set_option maxHeartbeats 4000000 in
set_option maxRecDepth 100000 in
theorem c_X3_parse (l : Launch) (D : va_G) (tA : Nat → ClassId) (x : Nat → Nat) (c : Nat → Nat) (len p : Nat) (t : Tb)  (hl : len ≤ 60) (hc : ∀ j, c j < 65536) (hp : p ≤ len) (ht : t.1 ≤ 15) : Kx l D tA yX3_parse cX3_parse 5 (some .int) 2 46 [.ref (x 0)] (txW tA x c len p t) (some (.int (rN ((prs c len 16 0 (0, t.2)).1)))) (txW tA x c len ((prs c len 16 0 (0, t.2)).2.1) ((prs c len 16 0 (0, t.2)).2.2)) := by
  refine kx_int rfl (Nat.le_of_ble_eq_true rfl) (fun G X E => ?_)
  show J l D G 0 0 (txW tA x c len p t) [(0, .ref (x 0))] 0 []
  refine j_aload_n (pc := 0) X dX3_parse_0 rfl (q := 0) rfl ?_
  refine j_get (pc := 1) X (C := RX3) (T := TX3) (N := 4) wz_X3 0 rfl rfl 3 (by decide) wf_X3_20 rfl dX3_parse_1 ?_
  refine j_callV (pc := 4) X (st := []) (w' := (txW tA x c len p (0, t.2))) (c_X2_removeAll l D tA (x 2) (x 3) 15 2 t  ) cd_X2_removeAll wm_X3_28 2 rfl rfl rfl [2, 3] rfl rfl (tb_fst.trans tb_fst.symm) rfl ⟨Nat.le_of_ble_eq_true rfl, Nat.le_of_ble_eq_true rfl⟩ ⟨Nat.zero_le _, Nat.zero_le _⟩ rfl (Nat.le_of_ble_eq_true rfl) dX3_parse_4 ?_
  refine j_aload_n (pc := 7) X dX3_parse_7 rfl (q := 0) rfl ?_
  refine j_iconst (pc := 8) X (v := (nI 0)) dX3_parse_8 (by decide) ?_
  refine j_put (pc := 9) X (C := RX3) (T := TX3) (N := 4) wz_X3 tyX3 tyX3_ok nmX3 0 rfl rfl 2 (by decide) wf_X3_31 rfl rfl rfl (Nat.le_of_ble_eq_true rfl) (w' := (txW tA x c len 0 (0, t.2))) rfl dX3_parse_9 ?_
  refine j_iconst (pc := 12) X (v := (nI 0)) dX3_parse_12 (by decide) ?_
  refine j_istore_n (pc := 13) X (lv' := [(1, .int (nI 0)), (0, .ref (x 0))]) dX3_parse_13 rfl (by decide) rfl ?_
  have L_14 : ∀ (fu : Nat) (k q : Nat) (t2 : Tb), k ≤ 16 → q ≤ len → 4 * k ≤ q → t2.1 = k → prs c len (16 - k) q t2 = prs c len 16 0 (0, t.2) → 16 - k < fu → J l D G 0 0 (txW tA x c len q t2) [(0, .ref (x 0)), (1, .int (nI k))] 14 [] := by
    intro fu
    induction fu with
    | zero => intro k q t2 hk hq hkq ht2 hs hfu; exact absurd hfu (Nat.not_lt_zero _)
    | succ fu ih_14 =>
      intro k q t2 hk hq hkq ht2 hs hfu
      refine j_iload_n (pc := 14) X dX3_parse_14 rfl (q := 1) rfl ?_
      refine j_bipush (pc := 15) X (v := (nI 15)) dX3_parse_15 (by decide) ?_
      refine j_icmp_gt (pc := 17) X (tgt := 125) (P := 15 < k) dX3_parse_17 (by decide) (nI_ltI (by omega) (by omega)) (fun h17 => ?_) (fun h17 => ?_)
      · skip
        refine j_aload_n (pc := 125) X dX3_parse_125 rfl (q := 0) rfl ?_
        refine j_get (pc := 126) X (C := RX3) (T := TX3) (N := 4) wz_X3 0 rfl rfl 2 (by decide) wf_X3_31 rfl dX3_parse_126 ?_
        exact j_endI (pc := 129) E dX3_parse_129 (absurd h17 (by omega)) (absurd h17 (by omega))
      · skip
        refine j_aload_n (pc := 20) X dX3_parse_20 rfl (q := 0) rfl ?_
        refine j_iconst (pc := 21) X (v := (nI 3)) dX3_parse_21 (by decide) ?_
        refine j_callV (pc := 22) X (st := []) (w' := (txW tA x c len ((rdM c len 3 q).2) t2)) (c_X3_readNumber l D tA x c len q t2 3 hl hc (by omega) (by decide)) cd_X3_readNumber wm_X3_34 0 rfl rfl rfl [0, 1, 2, 3] rfl rfl (tx_fst.trans tx_fst.symm) rfl ⟨Nat.le_of_ble_eq_true rfl, Nat.le_of_ble_eq_true rfl⟩ ⟨Nat.zero_le _, Nat.zero_le _⟩ rfl (Nat.le_of_ble_eq_true rfl) dX3_parse_22 ?_
        have hr3 := rdM_in (c := c) (k := 3) hq (by decide)
        refine j_istore_n (pc := 25) X (lv' := [(2, .int (rN ((rdM c len 3 q).1))), (0, .ref (x 0)), (1, .int (nI k))]) dX3_parse_25 rfl (by decide) rfl ?_
        refine j_iload_n (pc := 26) X dX3_parse_26 rfl (q := 0) rfl ?_
        refine j_iconst (pc := 27) X (v := (-1)) dX3_parse_27 (by decide) ?_
        refine j_icmp_eq (pc := 28) X (tgt := 40) (P := ((rdM c len 3 q).1) = none) dX3_parse_28 (by decide) (rN_none (fun b e => by have := (hr3.2.2 b e).2; omega)) (fun h28 => ?_) (fun h28 => ?_)
        · skip
          refine j_aload_n (pc := 40) X dX3_parse_40 rfl (q := 1) rfl ?_
          refine j_get (pc := 41) X (C := RX3) (T := TX3) (N := 4) wz_X3 0 rfl rfl 2 (by decide) wf_X3_31 rfl dX3_parse_41 ?_
          exact j_endI (pc := 44) E dX3_parse_44 (by rw [← hs, show 16 - k = (16 - (k + 1)) + 1 by omega, prs_no (rdW_1 h28)]; rfl) (by rw [← hs, show 16 - k = (16 - (k + 1)) + 1 by omega, prs_no (rdW_1 h28)])
        · skip
          obtain ⟨hd, hhd⟩ := Option.ne_none_iff_exists'.mp h28
          have hr3v := hr3.2.2 hd hhd
          rw [show rN (rdM c len 3 q).1 = nI hd from by rw [hhd]; rfl]
          refine j_aload_n (pc := 31) X dX3_parse_31 rfl (q := 1) rfl ?_
          refine j_bipush (pc := 32) X (v := (nI 58)) dX3_parse_32 (by decide) ?_
          refine j_callV (pc := 34) X (st := []) (w' := (txW tA x c len (if sgnB c len ((rdM c len 3 q).2) 58 = true then ((rdM c len 3 q).2) + 1 else ((rdM c len 3 q).2)) t2)) (c_X3_readSign l D tA x c len ((rdM c len 3 q).2) t2 58 hl hc hr3.2.1 (by decide)) cd_X3_readSign wm_X3_38 0 rfl rfl rfl [0, 1, 2, 3] rfl rfl (tx_fst.trans tx_fst.symm) rfl ⟨Nat.le_of_ble_eq_true rfl, Nat.le_of_ble_eq_true rfl⟩ ⟨Nat.zero_le _, Nat.zero_le _⟩ rfl (Nat.le_of_ble_eq_true rfl) dX3_parse_34 ?_
          refine j_if_ne (pc := 37) X (tgt := 45) (P := (sgnB c len ((rdM c len 3 q).2) 58) = true) dX3_parse_37 (by decide) (bI_n0 _) (fun h37 => ?_) (fun h37 => ?_)
          · skip
            rw [show (if sgnB c len (rdM c len 3 q).2 58 = true then (rdM c len 3 q).2 + 1 else (rdM c len 3 q).2) = (rdM c len 3 q).2 + 1 from if_pos h37]
            have hs58 : (rdM c len 3 q).2 < len ∧ c (rdM c len 3 q).2 = 58 := by simpa only [sgnB, decide_eq_true_eq] using h37
            refine j_aload_n (pc := 45) X dX3_parse_45 rfl (q := 1) rfl ?_
            refine j_iconst (pc := 46) X (v := (nI 2)) dX3_parse_46 (by decide) ?_
            refine j_callV (pc := 47) X (st := []) (w' := (txW tA x c len ((rdM c len 2 ((rdM c len 3 q).2 + 1)).2) t2)) (c_X3_readNumber l D tA x c len ((rdM c len 3 q).2 + 1) t2 2 hl hc (by omega) (by decide)) cd_X3_readNumber wm_X3_34 0 rfl rfl rfl [0, 1, 2, 3] rfl rfl (tx_fst.trans tx_fst.symm) rfl ⟨Nat.le_of_ble_eq_true rfl, Nat.le_of_ble_eq_true rfl⟩ ⟨Nat.zero_le _, Nat.zero_le _⟩ rfl (Nat.le_of_ble_eq_true rfl) dX3_parse_47 ?_
            have hr2 := rdM_in (c := c) (k := 2) (show (rdM c len 3 q).2 + 1 ≤ len by omega) (by decide)
            refine j_istore_n (pc := 50) X (lv' := [(3, .int (rN ((rdM c len 2 ((rdM c len 3 q).2 + 1)).1))), (2, .int (nI hd)), (0, .ref (x 0)), (1, .int (nI k))]) dX3_parse_50 rfl (by decide) rfl ?_
            refine j_iload_n (pc := 51) X dX3_parse_51 rfl (q := 0) rfl ?_
            refine j_iconst (pc := 52) X (v := (-1)) dX3_parse_52 (by decide) ?_
            refine j_icmp_ne (pc := 53) X (tgt := 61) (P := ¬ ((rdM c len 2 ((rdM c len 3 q).2 + 1)).1) = none) dX3_parse_53 (by decide) (not_congr (rN_none (fun b e => by have := (hr2.2.2 b e).2; omega))) (fun h53 => ?_) (fun h53 => ?_)
            · skip
              obtain ⟨wd, hwd⟩ := Option.ne_none_iff_exists'.mp h53
              have hr2v := hr2.2.2 wd hwd
              rw [show rN (rdM c len 2 ((rdM c len 3 q).2 + 1)).1 = nI wd from by rw [hwd]; rfl]
              refine j_aload_n (pc := 61) X dX3_parse_61 rfl (q := 2) rfl ?_
              refine j_get (pc := 62) X (C := RX3) (T := TX3) (N := 4) wz_X3 0 rfl rfl 3 (by decide) wf_X3_20 rfl dX3_parse_62 ?_
              refine j_callV (pc := 65) X (st := []) (w' := (txW tA x c len ((rdM c len 2 ((rdM c len 3 q).2 + 1)).2) (tAdd 2 t2))) (c_X2_addRow l D tA (x 2) (x 3) 15 2 t2  (by decide) (by decide) (by omega) (by decide) (by omega)) cd_X2_addRow wm_X3_42 2 rfl rfl rfl [2, 3] rfl rfl (tb_fst.trans tb_fst.symm) rfl ⟨Nat.le_of_ble_eq_true rfl, Nat.le_of_ble_eq_true rfl⟩ ⟨Nat.zero_le _, Nat.zero_le _⟩ rfl (Nat.le_of_ble_eq_true rfl) dX3_parse_65 ?_
              refine j_istore (pc := 68) X (lv' := [(4, .int (nI t2.1)), (3, .int (nI wd)), (2, .int (nI hd)), (0, .ref (x 0)), (1, .int (nI k))]) dX3_parse_68 (by decide) rfl ?_
              refine j_aload_n (pc := 70) X dX3_parse_70 rfl (q := 3) rfl ?_
              refine j_get (pc := 71) X (C := RX3) (T := TX3) (N := 4) wz_X3 0 rfl rfl 3 (by decide) wf_X3_20 rfl dX3_parse_71 ?_
              refine j_iload (pc := 74) X dX3_parse_74 (q := 0) rfl ?_
              refine j_iconst (pc := 76) X (v := (nI 0)) dX3_parse_76 (by decide) ?_
              refine j_iload_n (pc := 77) X dX3_parse_77 rfl (q := 2) rfl ?_
              refine j_callV (pc := 78) X (st := []) (w' := (txW tA x c len ((rdM c len 2 ((rdM c len 3 q).2 + 1)).2) (tSet 2 (tAdd 2 t2) t2.1 0 hd))) (c_X2_set l D tA (x 2) (x 3) 15 2 (tAdd 2 t2) t2.1 0 hd (by decide) (by decide) (show t2.1 + 1 ≤ 15 by omega) (show t2.1 < t2.1 + 1 by omega) (by decide) (by decide)) cd_X2_set wm_X3_46 2 rfl rfl rfl [2, 3] rfl rfl (tb_fst.trans tb_fst.symm) rfl ⟨Nat.le_of_ble_eq_true rfl, Nat.le_of_ble_eq_true rfl⟩ ⟨Nat.zero_le _, Nat.zero_le _⟩ rfl (Nat.le_of_ble_eq_true rfl) dX3_parse_78 ?_
              refine j_aload_n (pc := 81) X dX3_parse_81 rfl (q := 3) rfl ?_
              refine j_get (pc := 82) X (C := RX3) (T := TX3) (N := 4) wz_X3 0 rfl rfl 3 (by decide) wf_X3_20 rfl dX3_parse_82 ?_
              refine j_iload (pc := 85) X dX3_parse_85 (q := 0) rfl ?_
              refine j_iconst (pc := 87) X (v := (nI 1)) dX3_parse_87 (by decide) ?_
              refine j_iload_n (pc := 88) X dX3_parse_88 rfl (q := 1) rfl ?_
              refine j_callV (pc := 89) X (st := []) (w' := (txW tA x c len ((rdM c len 2 ((rdM c len 3 q).2 + 1)).2) (tSet 2 (tSet 2 (tAdd 2 t2) t2.1 0 hd) t2.1 1 wd))) (c_X2_set l D tA (x 2) (x 3) 15 2 (tSet 2 (tAdd 2 t2) t2.1 0 hd) t2.1 1 wd (by decide) (by decide) (show t2.1 + 1 ≤ 15 by omega) (show t2.1 < t2.1 + 1 by omega) (by decide) (by decide)) cd_X2_set wm_X3_46 2 rfl rfl rfl [2, 3] rfl rfl (tb_fst.trans tb_fst.symm) rfl ⟨Nat.le_of_ble_eq_true rfl, Nat.le_of_ble_eq_true rfl⟩ ⟨Nat.zero_le _, Nat.zero_le _⟩ rfl (Nat.le_of_ble_eq_true rfl) dX3_parse_89 ?_
              refine j_aload_n (pc := 92) X dX3_parse_92 rfl (q := 3) rfl ?_
              refine j_get (pc := 93) X (C := RX3) (T := TX3) (N := 4) wz_X3 0 rfl rfl 2 (by decide) wf_X3_31 rfl dX3_parse_93 ?_
              refine j_aload_n (pc := 96) X dX3_parse_96 rfl (q := 3) rfl ?_
              refine j_get (pc := 97) X (C := RX3) (T := TX3) (N := 4) wz_X3 0 rfl rfl 1 (by decide) wf_X3_24 rfl dX3_parse_97 ?_
              refine j_icmp_lt (pc := 100) X (tgt := 105) (P := ((rdM c len 2 ((rdM c len 3 q).2 + 1)).2) < len) dX3_parse_100 (by decide) (nI_ltI (by omega) (by omega)) (fun h100 => ?_) (fun h100 => ?_)
              · skip
                refine j_aload_n (pc := 105) X dX3_parse_105 rfl (q := 3) rfl ?_
                refine j_bipush (pc := 106) X (v := (nI 59)) dX3_parse_106 (by decide) ?_
                refine j_callV (pc := 108) X (st := []) (w' := (txW tA x c len (if sgnB c len ((rdM c len 2 ((rdM c len 3 q).2 + 1)).2) 59 = true then ((rdM c len 2 ((rdM c len 3 q).2 + 1)).2) + 1 else ((rdM c len 2 ((rdM c len 3 q).2 + 1)).2)) (tSet 2 (tSet 2 (tAdd 2 t2) t2.1 0 hd) t2.1 1 wd))) (c_X3_readSign l D tA x c len ((rdM c len 2 ((rdM c len 3 q).2 + 1)).2) (tSet 2 (tSet 2 (tAdd 2 t2) t2.1 0 hd) t2.1 1 wd) 59 hl hc hr2.2.1 (by decide)) cd_X3_readSign wm_X3_38 0 rfl rfl rfl [0, 1, 2, 3] rfl rfl (tx_fst.trans tx_fst.symm) rfl ⟨Nat.le_of_ble_eq_true rfl, Nat.le_of_ble_eq_true rfl⟩ ⟨Nat.zero_le _, Nat.zero_le _⟩ rfl (Nat.le_of_ble_eq_true rfl) dX3_parse_108 ?_
                refine j_if_ne (pc := 111) X (tgt := 119) (P := (sgnB c len ((rdM c len 2 ((rdM c len 3 q).2 + 1)).2) 59) = true) dX3_parse_111 (by decide) (bI_n0 _) (fun h111 => ?_) (fun h111 => ?_)
                · skip
                  rw [show (if sgnB c len (rdM c len 2 ((rdM c len 3 q).2 + 1)).2 59 = true then (rdM c len 2 ((rdM c len 3 q).2 + 1)).2 + 1 else (rdM c len 2 ((rdM c len 3 q).2 + 1)).2) = (rdM c len 2 ((rdM c len 3 q).2 + 1)).2 + 1 from if_pos h111]
                  have hs59 : (rdM c len 2 ((rdM c len 3 q).2 + 1)).2 < len ∧ c (rdM c len 2 ((rdM c len 3 q).2 + 1)).2 = 59 := by simpa only [sgnB, decide_eq_true_eq] using h111
                  refine j_iinc (pc := 119) X (v := (nI (k + 1))) (lv' := [(1, .int (nI (k + 1))), (4, .int (nI t2.1)), (3, .int (nI wd)), (2, .int (nI hd)), (0, .ref (x 0))]) dX3_parse_119 (q := 4) rfl (nI_add _ _) (by decide) rfl ?_
                  refine j_goto (pc := 122) X (tgt := 14) dX3_parse_122 (by decide) ?_
                  refine j_lv X (lv' := [(0, .ref (x 0)), (1, .int (nI (k + 1)))]) [4, 0] rfl ?_
                  exact ih_14 (k + 1) ((rdM c len 2 ((rdM c len 3 q).2 + 1)).2 + 1) (tSet 2 (tSet 2 (tAdd 2 t2) t2.1 0 hd) t2.1 1 wd) (by omega) (by omega) (by omega) (show t2.1 + 1 = k + 1 by omega) (by rw [← hs, show 16 - k = (16 - (k + 1)) + 1 by omega, prs_go (rdW_4 hhd h37 hwd) (by omega) hs59.2]) (by omega)
                · skip
                  rw [show (if sgnB c len (rdM c len 2 ((rdM c len 3 q).2 + 1)).2 59 = true then (rdM c len 2 ((rdM c len 3 q).2 + 1)).2 + 1 else (rdM c len 2 ((rdM c len 3 q).2 + 1)).2) = (rdM c len 2 ((rdM c len 3 q).2 + 1)).2 from if_neg h111]
                  refine j_aload_n (pc := 114) X dX3_parse_114 rfl (q := 3) rfl ?_
                  refine j_get (pc := 115) X (C := RX3) (T := TX3) (N := 4) wz_X3 0 rfl rfl 2 (by decide) wf_X3_31 rfl dX3_parse_115 ?_
                  exact j_endI (pc := 118) E dX3_parse_118 (by rw [← hs, show 16 - k = (16 - (k + 1)) + 1 by omega, prs_bad (rdW_4 hhd h37 hwd) (by omega) (fun z => h111 (by simp only [sgnB, decide_eq_true_eq]; exact ⟨by omega, z⟩))]; rfl) (by rw [← hs, show 16 - k = (16 - (k + 1)) + 1 by omega, prs_bad (rdW_4 hhd h37 hwd) (by omega) (fun z => h111 (by simp only [sgnB, decide_eq_true_eq]; exact ⟨by omega, z⟩))])
              · skip
                refine j_iconst (pc := 103) X (v := (-1)) dX3_parse_103 (by decide) ?_
                exact j_endI (pc := 104) E dX3_parse_104 (by rw [← hs, show 16 - k = (16 - (k + 1)) + 1 by omega, prs_end (rdW_4 hhd h37 hwd) (by omega)]; rfl) (by rw [← hs, show 16 - k = (16 - (k + 1)) + 1 by omega, prs_end (rdW_4 hhd h37 hwd) (by omega)])
            · skip
              refine j_aload_n (pc := 56) X dX3_parse_56 rfl (q := 2) rfl ?_
              refine j_get (pc := 57) X (C := RX3) (T := TX3) (N := 4) wz_X3 0 rfl rfl 2 (by decide) wf_X3_31 rfl dX3_parse_57 ?_
              exact j_endI (pc := 60) E dX3_parse_60 (by rw [← hs, show 16 - k = (16 - (k + 1)) + 1 by omega, prs_no (rdW_3 hhd h37 (Decidable.not_not.mp h53))]; rfl) (by rw [← hs, show 16 - k = (16 - (k + 1)) + 1 by omega, prs_no (rdW_3 hhd h37 (Decidable.not_not.mp h53))])
          · skip
            rw [show (if sgnB c len (rdM c len 3 q).2 58 = true then (rdM c len 3 q).2 + 1 else (rdM c len 3 q).2) = (rdM c len 3 q).2 from if_neg h37]
            refine j_aload_n (pc := 40) X dX3_parse_40 rfl (q := 1) rfl ?_
            refine j_get (pc := 41) X (C := RX3) (T := TX3) (N := 4) wz_X3 0 rfl rfl 2 (by decide) wf_X3_31 rfl dX3_parse_41 ?_
            exact j_endI (pc := 44) E dX3_parse_44 (by rw [← hs, show 16 - k = (16 - (k + 1)) + 1 by omega, prs_no (rdW_2 hhd (by rw [f5 h37]; decide))]; rfl) (by rw [← hs, show 16 - k = (16 - (k + 1)) + 1 by omega, prs_no (rdW_2 hhd (by rw [f5 h37]; decide))])
  refine j_lv X (lv' := [(0, .ref (x 0)), (1, .int (nI 0))]) [1, 0] rfl ?_
  exact L_14 _ 0 0 (0, t.2) (by omega) (Nat.zero_le _) (by omega) rfl rfl (Nat.lt_succ_self _)
end
