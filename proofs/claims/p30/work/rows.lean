section
-- ===== PART A: goes FIRST, ahead of the names: the tables' words, and 'selects' of the private methods out of them =====
/-- a private method of a class that the tables say can be made, by its rows of tables_1 -/
def lw_okq (q : MethodName × Nat) : Prop := (q.1.cls ≠ "java/lang/invoke/MethodHandle" ∧ q.1.cls ≠ "java/lang/invoke/VarHandle") ∧ Cond.instantiable q.1.cls q.2 ∈ tables_1 ∧ Cond.privateMethod q.1 ∈ tables_1 ∧ Cond.instanceMethod q.1 ∈ tables_1
theorem lw_p0 : lw_okq (⟨"BallastClub$History", "stateAt", "(I)LBallastClub$State;"⟩, 3) := ⟨⟨by decide +kernel, by decide +kernel⟩, List.mem_of_getElem? (i := 82) (by decide +kernel), List.mem_of_getElem? (i := 156) (by decide +kernel), List.mem_of_getElem? (i := 157) (by decide +kernel)⟩
theorem lw_p1 : lw_okq (⟨"BallastClub$State", "closeMove", "(I)V"⟩, 9) := ⟨⟨by decide +kernel, by decide +kernel⟩, List.mem_of_getElem? (i := 17) (by decide +kernel), List.mem_of_getElem? (i := 239) (by decide +kernel), List.mem_of_getElem? (i := 240) (by decide +kernel)⟩
theorem lw_p2 : lw_okq (⟨"BallastClub$State", "standBy", "(I)V"⟩, 9) := ⟨⟨by decide +kernel, by decide +kernel⟩, List.mem_of_getElem? (i := 17) (by decide +kernel), List.mem_of_getElem? (i := 286) (by decide +kernel), List.mem_of_getElem? (i := 287) (by decide +kernel)⟩
theorem lw_p3 : lw_okq (⟨"BallastClub$State", "carryOver", "(I)V"⟩, 9) := ⟨⟨by decide +kernel, by decide +kernel⟩, List.mem_of_getElem? (i := 17) (by decide +kernel), List.mem_of_getElem? (i := 294) (by decide +kernel), List.mem_of_getElem? (i := 295) (by decide +kernel)⟩
theorem lw_p4 : lw_okq (⟨"BallastClub$State", "lift", "(I)V"⟩, 9) := ⟨⟨by decide +kernel, by decide +kernel⟩, List.mem_of_getElem? (i := 17) (by decide +kernel), List.mem_of_getElem? (i := 306) (by decide +kernel), List.mem_of_getElem? (i := 307) (by decide +kernel)⟩
def lw_privs_1 : List (MethodName × Nat) := [(⟨"BallastClub$History", "stateAt", "(I)LBallastClub$State;"⟩, 3), (⟨"BallastClub$State", "closeMove", "(I)V"⟩, 9), (⟨"BallastClub$State", "standBy", "(I)V"⟩, 9), (⟨"BallastClub$State", "carryOver", "(I)V"⟩, 9), (⟨"BallastClub$State", "lift", "(I)V"⟩, 9)]
theorem lw_r1 : ∀ q ∈ lw_privs_1, lw_okq q := List.forall_mem_cons.mpr ⟨lw_p0, List.forall_mem_cons.mpr ⟨lw_p1, List.forall_mem_cons.mpr ⟨lw_p2, List.forall_mem_cons.mpr ⟨lw_p3, List.forall_mem_cons.mpr ⟨lw_p4, fun _ h => absurd h List.not_mem_nil⟩⟩⟩⟩⟩
def lw_privs : List (MethodName × Nat) := lw_privs_1
def lw_tbl : List Cond := k2_sels lw_privs ++ tables_1
theorem lw_privs_ok : ∀ q ∈ lw_privs, lw_okq q := lw_r1
end
section
def RX0 : String := "BallastClub$History"
def TX0 : u_T := fun k => match k with
  | 0 => ("BallastClub$History", "states", "[LBallastClub$State;", true)
  | 1 => ("BallastClub$History", "next", "I", false)
  | _ => ("BallastClub$History", "size", "I", false)
def tyX0 : Nat → FieldType := fun k => match k with
  | 0 => .array (.object "BallastClub$State")
  | 1 => .int
  | _ => .int
abbrev wsX00 : List Cond := u_ws RX0 TX0 3
theorem nmX0 : ∀ a, a < 3 → ∀ b, b < 3 → a ≠ b → (TX0 a).2.1 ≠ (TX0 b).2.1 := by decide +kernel
theorem tyX0_ok : ∀ k, k < 3 → parseFieldDescriptor (TX0 k).2.2.1 = some (tyX0 k) := by decide +kernel
abbrev cX0_init : ByteArray := prog_2_method_1_code
def yX0_init : MethodName := ⟨RX0, "<init>", "()V"⟩
abbrev cX0_size : ByteArray := prog_2_method_2_code
def yX0_size : MethodName := ⟨RX0, "size", "()I"⟩
abbrev cX0_stateAt : ByteArray := prog_2_method_3_code
def yX0_stateAt : MethodName := ⟨RX0, "stateAt", "(I)LBallastClub$State;"⟩
abbrev cX0_push : ByteArray := prog_2_method_4_code
def yX0_push : MethodName := ⟨RX0, "push", "(LBallastClub$State;)V"⟩
abbrev cX0_popInto : ByteArray := prog_2_method_5_code
def yX0_popInto : MethodName := ⟨RX0, "popInto", "(LBallastClub$State;)V"⟩
def RX1 : String := "BallastClub$State"
def TX1 : u_T := fun k => match k with
  | 0 => ("BallastClub$State", "machines", "LBallastClub$Table;", true)
  | 1 => ("BallastClub$State", "members", "LBallastClub$Table;", true)
  | 2 => ("BallastClub$State", "bookings", "LBallastClub$Table;", true)
  | 3 => ("BallastClub$State", "moves", "LBallastClub$Table;", true)
  | 4 => ("BallastClub$State", "winds", "[I", true)
  | 5 => ("BallastClub$State", "present", "I", false)
  | 6 => ("BallastClub$State", "movesDone", "I", false)
  | 7 => ("BallastClub$State", "movesFailed", "I", false)
  | _ => ("BallastClub$State", "standbysOfNobody", "I", false)
def tyX1 : Nat → FieldType := fun k => match k with
  | 0 => .object "BallastClub$Table"
  | 1 => .object "BallastClub$Table"
  | 2 => .object "BallastClub$Table"
  | 3 => .object "BallastClub$Table"
  | 4 => .array .int
  | 5 => .int
  | 6 => .int
  | 7 => .int
  | _ => .int
abbrev wsX10 : List Cond := u_ws RX1 TX1 9
theorem nmX1 : ∀ a, a < 9 → ∀ b, b < 9 → a ≠ b → (TX1 a).2.1 ≠ (TX1 b).2.1 := by decide +kernel
theorem tyX1_ok : ∀ k, k < 9 → parseFieldDescriptor (TX1 k).2.2.1 = some (tyX1 k) := by decide +kernel
abbrev cX1_init : ByteArray := prog_3_method_1_code
def yX1_init : MethodName := ⟨RX1, "<init>", "()V"⟩
abbrev cX1_copyFrom : ByteArray := prog_3_method_2_code
def yX1_copyFrom : MethodName := ⟨RX1, "copyFrom", "(LBallastClub$State;)V"⟩
abbrev cX1_isToCome : ByteArray := prog_3_method_3_code
def yX1_isToCome : MethodName := ⟨RX1, "isToCome", "(I)Z"⟩
abbrev cX1_windAt : ByteArray := prog_3_method_5_code
def yX1_windAt : MethodName := ⟨RX1, "windAt", "(I)I"⟩
abbrev cX1_tellWind : ByteArray := prog_3_method_6_code
def yX1_tellWind : MethodName := ⟨RX1, "tellWind", "(II)V"⟩
abbrev cX1_putMachine : ByteArray := prog_3_method_8_code
def yX1_putMachine : MethodName := ⟨RX1, "putMachine", "(II)I"⟩
abbrev cX1_borneBy : ByteArray := prog_3_method_9_code
def yX1_borneBy : MethodName := ⟨RX1, "borneBy", "(II)I"⟩
abbrev cX1_canTake : ByteArray := prog_3_method_10_code
def yX1_canTake : MethodName := ⟨RX1, "canTake", "(IIII)Z"⟩
abbrev cX1_pay : ByteArray := prog_3_method_11_code
def yX1_pay : MethodName := ⟨RX1, "pay", "(II)V"⟩
abbrev cX1_putBooking : ByteArray := prog_3_method_12_code
def yX1_putBooking : MethodName := ⟨RX1, "putBooking", "(III)I"⟩
abbrev cX1_place : ByteArray := prog_3_method_13_code
def yX1_place : MethodName := ⟨RX1, "place", "(III)V"⟩
abbrev cX1_isBooked : ByteArray := prog_3_method_14_code
def yX1_isBooked : MethodName := ⟨RX1, "isBooked", "(I)Z"⟩
abbrev cX1_bookingFor : ByteArray := prog_3_method_15_code
def yX1_bookingFor : MethodName := ⟨RX1, "bookingFor", "(II)I"⟩
abbrev cX1_limitOf : ByteArray := prog_3_method_16_code
def yX1_limitOf : MethodName := ⟨RX1, "limitOf", "(I)I"⟩
abbrev cX1_bearsLiftOf : ByteArray := prog_3_method_17_code
def yX1_bearsLiftOf : MethodName := ⟨RX1, "bearsLiftOf", "(II)Z"⟩
abbrev cX1_mustStandBy : ByteArray := prog_3_method_18_code
def yX1_mustStandBy : MethodName := ⟨RX1, "mustStandBy", "(I)Z"⟩
abbrev cX1_causerOf : ByteArray := prog_3_method_19_code
def yX1_causerOf : MethodName := ⟨RX1, "causerOf", "(I)I"⟩
abbrev cX1_putMove : ByteArray := prog_3_method_20_code
def yX1_putMove : MethodName := ⟨RX1, "putMove", "(IIIII)I"⟩
abbrev cX1_nextMoveUpTo : ByteArray := prog_3_method_21_code
def yX1_nextMoveUpTo : MethodName := ⟨RX1, "nextMoveUpTo", "(I)I"⟩
abbrev cX1_closeMovesUpTo : ByteArray := prog_3_method_22_code
def yX1_closeMovesUpTo : MethodName := ⟨RX1, "closeMovesUpTo", "(I)V"⟩
abbrev cX1_closeMove : ByteArray := prog_3_method_23_code
def yX1_closeMove : MethodName := ⟨RX1, "closeMove", "(I)V"⟩
abbrev cX1_passHalfDay : ByteArray := prog_3_method_24_code
def yX1_passHalfDay : MethodName := ⟨RX1, "passHalfDay", "()I"⟩
abbrev cX1_lift : ByteArray := prog_3_method_25_code
def yX1_lift : MethodName := ⟨RX1, "lift", "(I)V"⟩
abbrev cX1_standBy : ByteArray := prog_3_method_26_code
def yX1_standBy : MethodName := ⟨RX1, "standBy", "(I)V"⟩
abbrev cX1_carryOver : ByteArray := prog_3_method_27_code
def yX1_carryOver : MethodName := ⟨RX1, "carryOver", "(I)V"⟩
def RX2 : String := "BallastClub$Table"
def TX2 : u_T := fun k => match k with
  | 0 => ("BallastClub$Table", "cells", "[I", true)
  | 1 => ("BallastClub$Table", "mostRows", "I", true)
  | 2 => ("BallastClub$Table", "columns", "I", true)
  | _ => ("BallastClub$Table", "rows", "I", false)
def tyX2 : Nat → FieldType := fun k => match k with
  | 0 => .array .int
  | 1 => .int
  | 2 => .int
  | _ => .int
abbrev wsX20 : List Cond := u_ws RX2 TX2 4
theorem nmX2 : ∀ a, a < 4 → ∀ b, b < 4 → a ≠ b → (TX2 a).2.1 ≠ (TX2 b).2.1 := by decide +kernel
theorem tyX2_ok : ∀ k, k < 4 → parseFieldDescriptor (TX2 k).2.2.1 = some (tyX2 k) := by decide +kernel
abbrev cX2_init : ByteArray := prog_4_method_1_code
def yX2_init : MethodName := ⟨RX2, "<init>", "(II)V"⟩
abbrev cX2_size : ByteArray := prog_4_method_2_code
def yX2_size : MethodName := ⟨RX2, "size", "()I"⟩
abbrev cX2_has : ByteArray := prog_4_method_3_code
def yX2_has : MethodName := ⟨RX2, "has", "(I)Z"⟩
abbrev cX2_isFull : ByteArray := prog_4_method_4_code
def yX2_isFull : MethodName := ⟨RX2, "isFull", "()Z"⟩
abbrev cX2_get : ByteArray := prog_4_method_5_code
def yX2_get : MethodName := ⟨RX2, "get", "(II)I"⟩
abbrev cX2_set : ByteArray := prog_4_method_6_code
def yX2_set : MethodName := ⟨RX2, "set", "(III)V"⟩
abbrev cX2_increase : ByteArray := prog_4_method_7_code
def yX2_increase : MethodName := ⟨RX2, "increase", "(III)V"⟩
abbrev cX2_addRow : ByteArray := prog_4_method_8_code
def yX2_addRow : MethodName := ⟨RX2, "addRow", "()I"⟩
abbrev cX2_removeRow : ByteArray := prog_4_method_9_code
def yX2_removeRow : MethodName := ⟨RX2, "removeRow", "(I)V"⟩
abbrev cX2_countOf : ByteArray := prog_4_method_11_code
def yX2_countOf : MethodName := ⟨RX2, "countOf", "(II)I"⟩
abbrev cX2_countBoth : ByteArray := prog_4_method_12_code
def yX2_countBoth : MethodName := ⟨RX2, "countBoth", "(IIII)I"⟩
abbrev cX2_sumOf : ByteArray := prog_4_method_13_code
def yX2_sumOf : MethodName := ⟨RX2, "sumOf", "(I)I"⟩
abbrev cX2_copyFrom : ByteArray := prog_4_method_14_code
def yX2_copyFrom : MethodName := ⟨RX2, "copyFrom", "(LBallastClub$Table;)V"⟩
def RX3 : String := "BallastClub$WindText"
def TX3 : u_T := fun k => match k with
  | 0 => ("BallastClub$WindText", "signs", "[C", true)
  | 1 => ("BallastClub$WindText", "length", "I", false)
  | 2 => ("BallastClub$WindText", "at", "I", false)
  | _ => ("BallastClub$WindText", "told", "LBallastClub$Table;", true)
def tyX3 : Nat → FieldType := fun k => match k with
  | 0 => .array .char
  | 1 => .int
  | 2 => .int
  | _ => .object "BallastClub$Table"
abbrev wsX30 : List Cond := u_ws RX3 TX3 4
theorem nmX3 : ∀ a, a < 4 → ∀ b, b < 4 → a ≠ b → (TX3 a).2.1 ≠ (TX3 b).2.1 := by decide +kernel
theorem tyX3_ok : ∀ k, k < 4 → parseFieldDescriptor (TX3 k).2.2.1 = some (tyX3 k) := by decide +kernel
abbrev cX3_init : ByteArray := prog_5_method_1_code
def yX3_init : MethodName := ⟨RX3, "<init>", "()V"⟩
abbrev cX3_length : ByteArray := prog_5_method_2_code
def yX3_length : MethodName := ⟨RX3, "length", "()I"⟩
def RX4 : String := "BallastClub"
def TX4 : u_T := fun k => match k with
  | 0 => ("BallastClub", "now", "LBallastClub$State;", true)
  | 1 => ("BallastClub", "snapshot", "LBallastClub$State;", true)
  | 2 => ("BallastClub", "forecast", "LBallastClub$State;", true)
  | 3 => ("BallastClub", "history", "LBallastClub$History;", true)
  | 4 => ("BallastClub", "text", "LBallastClub$WindText;", true)
  | _ => ("BallastClub", "hasSnapshot", "Z", false)
def tyX4 : Nat → FieldType := fun k => match k with
  | 0 => .object "BallastClub$State"
  | 1 => .object "BallastClub$State"
  | 2 => .object "BallastClub$State"
  | 3 => .object "BallastClub$History"
  | 4 => .object "BallastClub$WindText"
  | _ => .boolean
abbrev wsX40 : List Cond := u_ws RX4 TX4 6
theorem nmX4 : ∀ a, a < 6 → ∀ b, b < 6 → a ≠ b → (TX4 a).2.1 ≠ (TX4 b).2.1 := by decide +kernel
theorem tyX4_ok : ∀ k, k < 6 → parseFieldDescriptor (TX4 k).2.2.1 = some (tyX4 k) := by decide +kernel
abbrev cX4_init : ByteArray := prog_1_method_1_code
def yX4_init : MethodName := ⟨RX4, "<init>", "()V"⟩
abbrev cX4_addMachine : ByteArray := prog_1_method_2_code
def yX4_addMachine : MethodName := ⟨RX4, "addMachine", "(II)I"⟩
abbrev cX4_addMember : ByteArray := prog_1_method_3_code
def yX4_addMember : MethodName := ⟨RX4, "addMember", "()I"⟩
abbrev cX4_setWind : ByteArray := prog_1_method_4_code
def yX4_setWind : MethodName := ⟨RX4, "setWind", "(II)I"⟩
abbrev cX4_book : ByteArray := prog_1_method_5_code
def yX4_book : MethodName := ⟨RX4, "book", "(IIIII)I"⟩
abbrev cX4_cancel : ByteArray := prog_1_method_6_code
def yX4_cancel : MethodName := ⟨RX4, "cancel", "(I)I"⟩
abbrev cX4_swap : ByteArray := prog_1_method_7_code
def yX4_swap : MethodName := ⟨RX4, "swap", "(II)I"⟩
abbrev cX4_order : ByteArray := prog_1_method_8_code
def yX4_order : MethodName := ⟨RX4, "order", "(IIIII)I"⟩
abbrev cX4_takeBack : ByteArray := prog_1_method_9_code
def yX4_takeBack : MethodName := ⟨RX4, "takeBack", "(I)I"⟩
abbrev cX4_pass : ByteArray := prog_1_method_10_code
def yX4_pass : MethodName := ⟨RX4, "pass", "(I)I"⟩
abbrev cX4_undo : ByteArray := prog_1_method_14_code
def yX4_undo : MethodName := ⟨RX4, "undo", "()I"⟩
abbrev cX4_keep : ByteArray := prog_1_method_15_code
def yX4_keep : MethodName := ⟨RX4, "keep", "()I"⟩
abbrev cX4_restore : ByteArray := prog_1_method_16_code
def yX4_restore : MethodName := ⟨RX4, "restore", "()I"⟩
abbrev cX4_bears : ByteArray := prog_1_method_17_code
def yX4_bears : MethodName := ⟨RX4, "bears", "(II)I"⟩
abbrev cX4_willBear : ByteArray := prog_1_method_18_code
def yX4_willBear : MethodName := ⟨RX4, "willBear", "(III)I"⟩
abbrev cX4_windLimit : ByteArray := prog_1_method_19_code
def yX4_windLimit : MethodName := ⟨RX4, "windLimit", "(II)I"⟩
abbrev cX4_machine : ByteArray := prog_1_method_20_code
def yX4_machine : MethodName := ⟨RX4, "machine", "(II)I"⟩
abbrev cX4_member : ByteArray := prog_1_method_21_code
def yX4_member : MethodName := ⟨RX4, "member", "(II)I"⟩
abbrev cX4_booking : ByteArray := prog_1_method_22_code
def yX4_booking : MethodName := ⟨RX4, "booking", "(II)I"⟩
abbrev cX4_move : ByteArray := prog_1_method_23_code
def yX4_move : MethodName := ⟨RX4, "move", "(II)I"⟩
abbrev cX4_bookedAt : ByteArray := prog_1_method_24_code
def yX4_bookedAt : MethodName := ⟨RX4, "bookedAt", "(II)I"⟩
abbrev cX4_machineFor : ByteArray := prog_1_method_25_code
def yX4_machineFor : MethodName := ⟨RX4, "machineFor", "(III)I"⟩
abbrev cX4_fate : ByteArray := prog_1_method_26_code
def yX4_fate : MethodName := ⟨RX4, "fate", "(I)I"⟩
abbrev cX4_wind : ByteArray := prog_1_method_27_code
def yX4_wind : MethodName := ⟨RX4, "wind", "(I)I"⟩
abbrev cX4_count : ByteArray := prog_1_method_28_code
def yX4_count : MethodName := ⟨RX4, "count", "(I)I"⟩
abbrev cX4_isWithin : ByteArray := prog_1_method_29_code
def yX4_isWithin : MethodName := ⟨RX4, "isWithin", "(III)Z"⟩
abbrev cX4_isHalfDay : ByteArray := prog_1_method_30_code
def yX4_isHalfDay : MethodName := ⟨RX4, "isHalfDay", "(I)Z"⟩
abbrev cX4_isRadius : ByteArray := prog_1_method_31_code
def yX4_isRadius : MethodName := ⟨RX4, "isRadius", "(I)Z"⟩
abbrev cX4_isLift : ByteArray := prog_1_method_32_code
def yX4_isLift : MethodName := ⟨RX4, "isLift", "(II)Z"⟩
abbrev cX4_limitFor : ByteArray := prog_1_method_33_code
def yX4_limitFor : MethodName := ⟨RX4, "limitFor", "(II)I"⟩
def RX5 : String := "BallastClubModel"
def TX5 : u_T := fun k => match k with
  | _ => ("", "", "", false)
def tyX5 : Nat → FieldType := fun k => match k with
  | _ => .int
abbrev wsX50 : List Cond := u_ws RX5 TX5 0
theorem nmX5 : ∀ a, a < 0 → ∀ b, b < 0 → a ≠ b → (TX5 a).2.1 ≠ (TX5 b).2.1 := by decide +kernel
theorem tyX5_ok : ∀ k, k < 0 → parseFieldDescriptor (TX5 k).2.2.1 = some (tyX5 k) := by decide +kernel
def RJ9 : String := "java/lang/Math"
def TJ9 : u_T := fun k => match k with
  | _ => ("", "", "", false)
def tyJ9 : Nat → FieldType := fun k => match k with
  | _ => .int
abbrev wsJ90 : List Cond := u_ws RJ9 TJ9 0
theorem nmJ9 : ∀ a, a < 0 → ∀ b, b < 0 → a ≠ b → (TJ9 a).2.1 ≠ (TJ9 b).2.1 := by decide +kernel
theorem tyJ9_ok : ∀ k, k < 0 → parseFieldDescriptor (TJ9 k).2.2.1 = some (tyJ9 k) := by decide +kernel
abbrev cJ9_max_7cf53 : ByteArray := prog_8_method_65_code
def yJ9_max_7cf53 : MethodName := ⟨RJ9, "max", "(II)I"⟩
abbrev cJ9_min_7cf53 : ByteArray := prog_8_method_69_code
def yJ9_min_7cf53 : MethodName := ⟨RJ9, "min", "(II)I"⟩
def RJ10 : String := "java/lang/System"
def TJ10 : u_T := fun k => match k with
  | _ => ("", "", "", false)
def tyJ10 : Nat → FieldType := fun k => match k with
  | _ => .int
abbrev wsJ100 : List Cond := u_ws RJ10 TJ10 0
theorem nmJ10 : ∀ a, a < 0 → ∀ b, b < 0 → a ≠ b → (TJ10 a).2.1 ≠ (TJ10 b).2.1 := by decide +kernel
theorem tyJ10_ok : ∀ k, k < 0 → parseFieldDescriptor (TJ10 k).2.2.1 = some (tyJ10 k) := by decide +kernel
def RL : String := "BallastClubLaw"
abbrev cL_cell : ByteArray := method_2_code
def yL_cell : MethodName := ⟨RL, "cell", "([II)I"⟩
abbrev cL_low : ByteArray := method_3_code
def yL_low : MethodName := ⟨RL, "low", "(II)I"⟩
abbrev cL_all : ByteArray := method_4_code
def yL_all : MethodName := ⟨RL, "all", "(LBallastClub;)J"⟩
abbrev cL_isSound : ByteArray := method_5_code
def yL_isSound : MethodName := ⟨RL, "isSound", "(LBallastClub;I)Z"⟩
abbrev cL_isForetold : ByteArray := method_6_code
def yL_isForetold : MethodName := ⟨RL, "isForetold", "(LBallastClub;I)Z"⟩
abbrev cL_isFound : ByteArray := method_7_code
def yL_isFound : MethodName := ⟨RL, "isFound", "(LBallastClub;I)Z"⟩
abbrev cL_acts : ByteArray := method_8_code
def yL_acts : MethodName := ⟨RL, "acts", "(LBallastClub;I)I"⟩
abbrev cL_law : ByteArray := code
def yL_law : MethodName := ⟨RL, "law", "([I)Z"⟩
abbrev vwCl : List vw_C := [(RX0, TX0, 3), (RX1, TX1, 9), (RX2, TX2, 4), (RX3, TX3, 4), (RX4, TX4, 6)]
end
section
/-- every word of the tables that a call hands on -/
def kALL : List Cond := k2_sels lw_privs ++ tables_1.filter goodWord
theorem kALL_good : ∀ w ∈ kALL, goodWord w = true := by
  intro w h
  rcases List.mem_append.mp h with h | h
  · obtain ⟨q, -, rfl⟩ := List.mem_map.mp h
    rfl
  · exact (List.mem_filter.mp h).2
theorem kALL_tbl : ∀ w ∈ kALL, w ∈ lw_tbl := fun w h => (List.mem_append.mp h).elim (fun h => List.mem_append_left _ h) (fun h => List.mem_append_right _ (List.mem_filter.mp h).1)
theorem kin {w : Cond} (h : w ∈ tables_1) (g : goodWord w = true) : w ∈ kALL := List.mem_append_right _ (List.mem_filter.mpr ⟨h, g⟩)
theorem kin1 {w : Cond} (i : Nat) (h : tables_1_1[i]? = some w) (g : goodWord w = true) : w ∈ kALL := kin (List.mem_append_left _ (List.mem_of_getElem? h)) g
theorem kin2 {w : Cond} (i : Nat) (h : tables_1_2[i]? = some w) (g : goodWord w = true) : w ∈ kALL := kin (List.mem_append_right _ (List.mem_of_getElem? h)) g
theorem kins {w : Cond} (i : Nat) (h : (k2_sels lw_privs)[i]? = some w) : w ∈ kALL := List.mem_append_left _ (List.mem_of_getElem? h)
theorem kGood {y : MethodName} {bytes : ByteArray} {nL : Nat} {ret : Option FieldType} (hc : Cond.code y bytes nL ret ∈ kALL) : GoodIn kALL (Cond.code y bytes nL ret :: kALL) := fun w h => by
  rcases List.mem_cons.mp h with rfl | h
  · exact ⟨hc, good_of_word (kALL_good _ hc)⟩
  · exact ⟨h, good_of_word (kALL_good _ h)⟩

theorem wi_L : Cond.initialized RL ∈ kALL := kin1 0 rfl rfl
theorem wi_X4 : Cond.initialized RX4 ∈ kALL := kin1 1 rfl rfl
theorem wi_X1 : Cond.initialized RX1 ∈ kALL := kin1 2 rfl rfl
theorem wi_X2 : Cond.initialized RX2 ∈ kALL := kin1 3 rfl rfl
theorem wi_J9 : Cond.initialized RJ9 ∈ kALL := kin1 4 rfl rfl
theorem wi_X0 : Cond.initialized RX0 ∈ kALL := kin1 5 rfl rfl
theorem wi_X3 : Cond.initialized RX3 ∈ kALL := kin1 6 rfl rfl
theorem wi_J10 : Cond.initialized RJ10 ∈ kALL := kin1 7 rfl rfl
theorem wl_L_13 : Cond.classLink RL 13 RX4 ∈ kALL := kin1 8 rfl rfl
theorem wn_X4 : Cond.instantiable RX4 6 ∈ kALL := kin1 9 rfl rfl
theorem wm_L_91 : Cond.methodLink RL 91 yX4_init ∈ kALL := kin1 10 rfl rfl
theorem wk_X4_init : Cond.instanceMethod yX4_init ∈ kALL := kin1 11 rfl rfl
theorem wc_X4_init : Cond.code yX4_init cX4_init 1 none ∈ kALL := kin1 12 rfl rfl
theorem wm_X4_3 : Cond.methodLink RX4 3 Lib.objectInit ∈ kALL := kin1 13 rfl rfl
theorem wk_obj : Cond.instanceMethod Lib.objectInit ∈ kALL := kin1 14 rfl rfl
theorem wc_obj : Cond.code Lib.objectInit ⟨#[0xb1]⟩ 1 none ∈ kALL := kin1 15 rfl rfl
theorem wl_X4_9 : Cond.classLink RX4 9 RX1 ∈ kALL := kin1 16 rfl rfl
theorem wn_X1 : Cond.instantiable RX1 9 ∈ kALL := kin1 17 rfl rfl
theorem wm_X4_11 : Cond.methodLink RX4 11 yX1_init ∈ kALL := kin1 18 rfl rfl
theorem wk_X1_init : Cond.instanceMethod yX1_init ∈ kALL := kin1 19 rfl rfl
theorem wc_X1_init : Cond.code yX1_init cX1_init 1 none ∈ kALL := kin1 20 rfl rfl
theorem wm_X1_3 : Cond.methodLink RX1 3 Lib.objectInit ∈ kALL := kin1 21 rfl rfl
theorem wl_X1_9 : Cond.classLink RX1 9 RX2 ∈ kALL := kin1 22 rfl rfl
theorem wn_X2 : Cond.instantiable RX2 4 ∈ kALL := kin1 23 rfl rfl
theorem wm_X1_11 : Cond.methodLink RX1 11 yX2_init ∈ kALL := kin1 24 rfl rfl
theorem wk_X2_init : Cond.instanceMethod yX2_init ∈ kALL := kin1 25 rfl rfl
theorem wc_X2_init : Cond.code yX2_init cX2_init 3 none ∈ kALL := kin1 26 rfl rfl
theorem wm_X2_3 : Cond.methodLink RX2 3 Lib.objectInit ∈ kALL := kin1 27 rfl rfl
theorem wm_X2_18 : Cond.methodLink RX2 18 Lib.Math.max.name ∈ kALL := kin1 28 rfl rfl
theorem wt_max : Cond.static Lib.Math.max.name ∈ kALL := kin1 29 rfl rfl
theorem wc_max : Cond.code Lib.Math.max.name Lib.Math.max.code 2 (some .int) ∈ kALL := kin1 30 rfl rfl
theorem wf_X2_24 : Cond.fieldLink RX2 24 RX2 "cells" "[I" ∈ kALL := kin1 31 rfl rfl
theorem wf_X2_9 : Cond.fieldLink RX2 9 RX2 "mostRows" "I" ∈ kALL := kin1 32 rfl rfl
theorem wf_X2_15 : Cond.fieldLink RX2 15 RX2 "columns" "I" ∈ kALL := kin1 33 rfl rfl
theorem wf_X2_28 : Cond.fieldLink RX2 28 RX2 "rows" "I" ∈ kALL := kin1 34 rfl rfl
theorem wa_int : Cond.arrayClass .int ∈ kALL := kin1 44 rfl rfl
theorem wf_X1_14 : Cond.fieldLink RX1 14 RX1 "machines" "LBallastClub$Table;" ∈ kALL := kin1 45 rfl rfl
theorem wf_X4_44 : Cond.fieldLink RX4 44 RX1 "machines" "LBallastClub$Table;" ∈ kALL := kin1 46 rfl rfl
theorem wf_X1_20 : Cond.fieldLink RX1 20 RX1 "members" "LBallastClub$Table;" ∈ kALL := kin1 47 rfl rfl
theorem wf_X4_62 : Cond.fieldLink RX4 62 RX1 "members" "LBallastClub$Table;" ∈ kALL := kin1 48 rfl rfl
theorem wf_X1_23 : Cond.fieldLink RX1 23 RX1 "bookings" "LBallastClub$Table;" ∈ kALL := kin1 49 rfl rfl
theorem wf_X4_92 : Cond.fieldLink RX4 92 RX1 "bookings" "LBallastClub$Table;" ∈ kALL := kin1 50 rfl rfl
theorem wf_X1_26 : Cond.fieldLink RX1 26 RX1 "moves" "LBallastClub$Table;" ∈ kALL := kin1 51 rfl rfl
theorem wf_X4_122 : Cond.fieldLink RX4 122 RX1 "moves" "LBallastClub$Table;" ∈ kALL := kin1 52 rfl rfl
theorem wf_X1_29 : Cond.fieldLink RX1 29 RX1 "winds" "[I" ∈ kALL := kin1 53 rfl rfl
theorem wf_X1_49 : Cond.fieldLink RX1 49 RX1 "present" "I" ∈ kALL := kin1 54 rfl rfl
theorem wf_X4_109 : Cond.fieldLink RX4 109 RX1 "present" "I" ∈ kALL := kin1 55 rfl rfl
theorem wf_X1_53 : Cond.fieldLink RX1 53 RX1 "movesDone" "I" ∈ kALL := kin1 56 rfl rfl
theorem wf_X4_204 : Cond.fieldLink RX4 204 RX1 "movesDone" "I" ∈ kALL := kin1 57 rfl rfl
theorem wf_X1_56 : Cond.fieldLink RX1 56 RX1 "movesFailed" "I" ∈ kALL := kin1 58 rfl rfl
theorem wf_X4_207 : Cond.fieldLink RX4 207 RX1 "movesFailed" "I" ∈ kALL := kin1 59 rfl rfl
theorem wf_X1_59 : Cond.fieldLink RX1 59 RX1 "standbysOfNobody" "I" ∈ kALL := kin1 60 rfl rfl
theorem wf_X4_213 : Cond.fieldLink RX4 213 RX1 "standbysOfNobody" "I" ∈ kALL := kin1 61 rfl rfl
theorem wl_X4_22 : Cond.classLink RX4 22 RX0 ∈ kALL := kin1 81 rfl rfl
theorem wn_X0 : Cond.instantiable RX0 3 ∈ kALL := kin1 82 rfl rfl
theorem wm_X4_24 : Cond.methodLink RX4 24 yX0_init ∈ kALL := kin1 83 rfl rfl
theorem wk_X0_init : Cond.instanceMethod yX0_init ∈ kALL := kin1 84 rfl rfl
theorem wc_X0_init : Cond.code yX0_init cX0_init 2 none ∈ kALL := kin1 85 rfl rfl
theorem wm_X0_3 : Cond.methodLink RX0 3 Lib.objectInit ∈ kALL := kin1 86 rfl rfl
theorem wl_X0_9 : Cond.classLink RX0 9 RX1 ∈ kALL := kin1 87 rfl rfl
theorem wm_X0_17 : Cond.methodLink RX0 17 yX1_init ∈ kALL := kin1 89 rfl rfl
theorem wf_X0_11 : Cond.fieldLink RX0 11 RX0 "states" "[LBallastClub$State;" ∈ kALL := kin1 90 rfl rfl
theorem wf_X0_22 : Cond.fieldLink RX0 22 RX0 "next" "I" ∈ kALL := kin1 91 rfl rfl
theorem wf_X0_18 : Cond.fieldLink RX0 18 RX0 "size" "I" ∈ kALL := kin1 92 rfl rfl
theorem wl_X4_29 : Cond.classLink RX4 29 RX3 ∈ kALL := kin1 100 rfl rfl
theorem wn_X3 : Cond.instantiable RX3 4 ∈ kALL := kin1 101 rfl rfl
theorem wm_X4_31 : Cond.methodLink RX4 31 yX3_init ∈ kALL := kin1 102 rfl rfl
theorem wk_X3_init : Cond.instanceMethod yX3_init ∈ kALL := kin1 103 rfl rfl
theorem wc_X3_init : Cond.code yX3_init cX3_init 1 none ∈ kALL := kin1 104 rfl rfl
theorem wm_X3_3 : Cond.methodLink RX3 3 Lib.objectInit ∈ kALL := kin1 105 rfl rfl
theorem wl_X3_15 : Cond.classLink RX3 15 RX2 ∈ kALL := kin1 106 rfl rfl
theorem wm_X3_17 : Cond.methodLink RX3 17 yX2_init ∈ kALL := kin1 107 rfl rfl
theorem wf_X3_9 : Cond.fieldLink RX3 9 RX3 "signs" "[C" ∈ kALL := kin1 108 rfl rfl
theorem wf_X3_24 : Cond.fieldLink RX3 24 RX3 "length" "I" ∈ kALL := kin1 109 rfl rfl
theorem wf_X3_20 : Cond.fieldLink RX3 20 RX3 "told" "LBallastClub$Table;" ∈ kALL := kin1 110 rfl rfl
theorem wa_char : Cond.arrayClass .char ∈ kALL := kin1 120 rfl rfl
theorem wf_X4_12 : Cond.fieldLink RX4 12 RX4 "now" "LBallastClub$State;" ∈ kALL := kin1 121 rfl rfl
theorem wf_X4_16 : Cond.fieldLink RX4 16 RX4 "snapshot" "LBallastClub$State;" ∈ kALL := kin1 122 rfl rfl
theorem wf_X4_19 : Cond.fieldLink RX4 19 RX4 "forecast" "LBallastClub$State;" ∈ kALL := kin1 123 rfl rfl
theorem wf_X4_25 : Cond.fieldLink RX4 25 RX4 "history" "LBallastClub$History;" ∈ kALL := kin1 124 rfl rfl
theorem wf_X4_32 : Cond.fieldLink RX4 32 RX4 "text" "LBallastClub$WindText;" ∈ kALL := kin1 125 rfl rfl
theorem wf_X4_36 : Cond.fieldLink RX4 36 RX4 "hasSnapshot" "Z" ∈ kALL := kin1 126 rfl rfl
theorem wm_L_96 : Cond.methodLink RL 96 yX4_addMachine ∈ kALL := kin1 140 rfl rfl
theorem wk_X4_addMachine : Cond.instanceMethod yX4_addMachine ∈ kALL := kin1 141 rfl rfl
theorem ws_X4_addMachine : Cond.selects RX4 yX4_addMachine yX4_addMachine ∈ kALL := kin1 142 rfl rfl
theorem wc_X4_addMachine : Cond.code yX4_addMachine cX4_addMachine 3 (some .int) ∈ kALL := kin1 143 rfl rfl
theorem wm_X4_40 : Cond.methodLink RX4 40 yX4_isWithin ∈ kALL := kin1 144 rfl rfl
theorem wt_X4_isWithin : Cond.static yX4_isWithin ∈ kALL := kin1 145 rfl rfl
theorem wc_X4_isWithin : Cond.code yX4_isWithin cX4_isWithin 3 (some .boolean) ∈ kALL := kin1 146 rfl rfl
theorem wm_X4_48 : Cond.methodLink RX4 48 yX2_isFull ∈ kALL := kin1 147 rfl rfl
theorem wk_X2_isFull : Cond.instanceMethod yX2_isFull ∈ kALL := kin1 148 rfl rfl
theorem ws_X2_isFull : Cond.selects RX2 yX2_isFull yX2_isFull ∈ kALL := kin1 149 rfl rfl
theorem wc_X2_isFull : Cond.code yX2_isFull cX2_isFull 1 (some .boolean) ∈ kALL := kin1 150 rfl rfl
theorem wm_X4_54 : Cond.methodLink RX4 54 yX0_push ∈ kALL := kin1 151 rfl rfl
theorem wk_X0_push : Cond.instanceMethod yX0_push ∈ kALL := kin1 152 rfl rfl
theorem ws_X0_push : Cond.selects RX0 yX0_push yX0_push ∈ kALL := kin1 153 rfl rfl
theorem wc_X0_push : Cond.code yX0_push cX0_push 3 none ∈ kALL := kin1 154 rfl rfl
theorem wm_X0_25 : Cond.methodLink RX0 25 yX0_stateAt ∈ kALL := kin1 155 rfl rfl
theorem wk_X0_stateAt : Cond.instanceMethod yX0_stateAt ∈ kALL := kin1 157 rfl rfl
theorem wc_X0_stateAt : Cond.code yX0_stateAt cX0_stateAt 2 (some (.object "BallastClub$State")) ∈ kALL := kin1 158 rfl rfl
theorem wm_X0_29 : Cond.methodLink RX0 29 yX1_copyFrom ∈ kALL := kin1 159 rfl rfl
theorem wk_X1_copyFrom : Cond.instanceMethod yX1_copyFrom ∈ kALL := kin1 160 rfl rfl
theorem ws_X1_copyFrom : Cond.selects RX1 yX1_copyFrom yX1_copyFrom ∈ kALL := kin1 161 rfl rfl
theorem wc_X1_copyFrom : Cond.code yX1_copyFrom cX1_copyFrom 2 none ∈ kALL := kin1 162 rfl rfl
theorem wm_X1_33 : Cond.methodLink RX1 33 yX2_copyFrom ∈ kALL := kin1 163 rfl rfl
theorem wk_X2_copyFrom : Cond.instanceMethod yX2_copyFrom ∈ kALL := kin1 164 rfl rfl
theorem ws_X2_copyFrom : Cond.selects RX2 yX2_copyFrom yX2_copyFrom ∈ kALL := kin1 165 rfl rfl
theorem wc_X2_copyFrom : Cond.code yX2_copyFrom cX2_copyFrom 2 none ∈ kALL := kin1 166 rfl rfl
theorem wm_X2_46 : Cond.methodLink RX2 46 Lib.Math.min.name ∈ kALL := kin1 167 rfl rfl
theorem wt_min : Cond.static Lib.Math.min.name ∈ kALL := kin1 168 rfl rfl
theorem wc_min : Cond.code Lib.Math.min.name Lib.Math.min.code 2 (some .int) ∈ kALL := kin1 169 rfl rfl
theorem wm_X2_49 : Cond.methodLink RX2 49 arraycopyName ∈ kALL := kin1 170 rfl rfl
theorem wt_acopy : Cond.static arraycopyName ∈ kALL := kin1 171 rfl rfl
theorem wx_acopy : Cond.native arraycopyName ∈ kALL := kin1 172 rfl rfl
theorem wm_X1_37 : Cond.methodLink RX1 37 Lib.Math.min.name ∈ kALL := kin1 173 rfl rfl
theorem wm_X1_43 : Cond.methodLink RX1 43 arraycopyName ∈ kALL := kin1 174 rfl rfl
theorem wm_X0_33 : Cond.methodLink RX0 33 Lib.Math.min.name ∈ kALL := kin1 175 rfl rfl
theorem wm_X4_58 : Cond.methodLink RX4 58 yX1_putMachine ∈ kALL := kin1 176 rfl rfl
theorem wk_X1_putMachine : Cond.instanceMethod yX1_putMachine ∈ kALL := kin1 177 rfl rfl
theorem ws_X1_putMachine : Cond.selects RX1 yX1_putMachine yX1_putMachine ∈ kALL := kin1 178 rfl rfl
theorem wc_X1_putMachine : Cond.code yX1_putMachine cX1_putMachine 4 (some .int) ∈ kALL := kin1 179 rfl rfl
theorem wm_X1_79 : Cond.methodLink RX1 79 yX2_addRow ∈ kALL := kin1 180 rfl rfl
theorem wk_X2_addRow : Cond.instanceMethod yX2_addRow ∈ kALL := kin1 181 rfl rfl
theorem ws_X2_addRow : Cond.selects RX2 yX2_addRow yX2_addRow ∈ kALL := kin1 182 rfl rfl
theorem wc_X2_addRow : Cond.code yX2_addRow cX2_addRow 3 (some .int) ∈ kALL := kin1 183 rfl rfl
theorem wm_X2_38 : Cond.methodLink RX2 38 yX2_isFull ∈ kALL := kin1 184 rfl rfl
theorem wm_X2_34 : Cond.methodLink RX2 34 yX2_set ∈ kALL := kin1 185 rfl rfl
theorem wk_X2_set : Cond.instanceMethod yX2_set ∈ kALL := kin1 186 rfl rfl
theorem ws_X2_set : Cond.selects RX2 yX2_set yX2_set ∈ kALL := kin1 187 rfl rfl
theorem wc_X2_set : Cond.code yX2_set cX2_set 5 none ∈ kALL := kin1 188 rfl rfl
theorem wm_X1_82 : Cond.methodLink RX1 82 yX2_set ∈ kALL := kin1 189 rfl rfl
theorem wm_L_73 : Cond.methodLink RL 73 yX4_addMember ∈ kALL := kin1 190 rfl rfl
theorem wk_X4_addMember : Cond.instanceMethod yX4_addMember ∈ kALL := kin1 191 rfl rfl
theorem ws_X4_addMember : Cond.selects RX4 yX4_addMember yX4_addMember ∈ kALL := kin1 192 rfl rfl
theorem wc_X4_addMember : Cond.code yX4_addMember cX4_addMember 1 (some .int) ∈ kALL := kin1 193 rfl rfl
theorem wm_X4_65 : Cond.methodLink RX4 65 yX2_addRow ∈ kALL := kin1 194 rfl rfl
theorem wm_L_76 : Cond.methodLink RL 76 yX4_setWind ∈ kALL := kin1 195 rfl rfl
theorem wk_X4_setWind : Cond.instanceMethod yX4_setWind ∈ kALL := kin1 196 rfl rfl
theorem ws_X4_setWind : Cond.selects RX4 yX4_setWind yX4_setWind ∈ kALL := kin1 197 rfl rfl
theorem wc_X4_setWind : Cond.code yX4_setWind cX4_setWind 4 (some .int) ∈ kALL := kin1 198 rfl rfl
theorem wm_X4_69 : Cond.methodLink RX4 69 yX1_isToCome ∈ kALL := kin1 199 rfl rfl
theorem wk_X1_isToCome : Cond.instanceMethod yX1_isToCome ∈ kALL := kin1 200 rfl rfl
theorem ws_X1_isToCome : Cond.selects RX1 yX1_isToCome yX1_isToCome ∈ kALL := kin1 201 rfl rfl
theorem wc_X1_isToCome : Cond.code yX1_isToCome cX1_isToCome 2 (some .boolean) ∈ kALL := kin1 202 rfl rfl
theorem wt_X4_isHalfDay : Cond.static yX4_isHalfDay ∈ kALL := kin1 204 rfl rfl
theorem wc_X4_isHalfDay : Cond.code yX4_isHalfDay cX4_isHalfDay 1 (some .boolean) ∈ kALL := kin1 205 rfl rfl
theorem wm_X4_73 : Cond.methodLink RX4 73 yX1_windAt ∈ kALL := kin1 206 rfl rfl
theorem wk_X1_windAt : Cond.instanceMethod yX1_windAt ∈ kALL := kin1 207 rfl rfl
theorem ws_X1_windAt : Cond.selects RX1 yX1_windAt yX1_windAt ∈ kALL := kin1 208 rfl rfl
theorem wc_X1_windAt : Cond.code yX1_windAt cX1_windAt 2 (some .int) ∈ kALL := kin1 209 rfl rfl
theorem wm_X4_77 : Cond.methodLink RX4 77 yX1_tellWind ∈ kALL := kin1 210 rfl rfl
theorem wk_X1_tellWind : Cond.instanceMethod yX1_tellWind ∈ kALL := kin1 211 rfl rfl
theorem ws_X1_tellWind : Cond.selects RX1 yX1_tellWind yX1_tellWind ∈ kALL := kin1 212 rfl rfl
theorem wc_X1_tellWind : Cond.code yX1_tellWind cX1_tellWind 3 none ∈ kALL := kin1 213 rfl rfl
theorem wm_L_55 : Cond.methodLink RL 55 yX4_pass ∈ kALL := kin1 214 rfl rfl
theorem wk_X4_pass : Cond.instanceMethod yX4_pass ∈ kALL := kin1 215 rfl rfl
theorem ws_X4_pass : Cond.selects RX4 yX4_pass yX4_pass ∈ kALL := kin1 216 rfl rfl
theorem wc_X4_pass : Cond.code yX4_pass cX4_pass 4 (some .int) ∈ kALL := kin1 217 rfl rfl
theorem wm_X4_136 : Cond.methodLink RX4 136 yX1_passHalfDay ∈ kALL := kin1 218 rfl rfl
theorem wk_X1_passHalfDay : Cond.instanceMethod yX1_passHalfDay ∈ kALL := kin1 219 rfl rfl
theorem ws_X1_passHalfDay : Cond.selects RX1 yX1_passHalfDay yX1_passHalfDay ∈ kALL := kin1 220 rfl rfl
theorem wc_X1_passHalfDay : Cond.code yX1_passHalfDay cX1_passHalfDay 3 (some .int) ∈ kALL := kin1 221 rfl rfl
theorem wm_X1_125 : Cond.methodLink RX1 125 yX1_closeMovesUpTo ∈ kALL := kin1 222 rfl rfl
theorem wk_X1_closeMovesUpTo : Cond.instanceMethod yX1_closeMovesUpTo ∈ kALL := kin1 223 rfl rfl
theorem ws_X1_closeMovesUpTo : Cond.selects RX1 yX1_closeMovesUpTo yX1_closeMovesUpTo ∈ kALL := kin1 224 rfl rfl
theorem wc_X1_closeMovesUpTo : Cond.code yX1_closeMovesUpTo cX1_closeMovesUpTo 4 none ∈ kALL := kin1 225 rfl rfl
theorem wm_X1_112 : Cond.methodLink RX1 112 yX1_nextMoveUpTo ∈ kALL := kin1 226 rfl rfl
theorem wk_X1_nextMoveUpTo : Cond.instanceMethod yX1_nextMoveUpTo ∈ kALL := kin1 227 rfl rfl
theorem ws_X1_nextMoveUpTo : Cond.selects RX1 yX1_nextMoveUpTo yX1_nextMoveUpTo ∈ kALL := kin1 228 rfl rfl
theorem wc_X1_nextMoveUpTo : Cond.code yX1_nextMoveUpTo cX1_nextMoveUpTo 5 (some .int) ∈ kALL := kin1 229 rfl rfl
theorem wm_X1_66 : Cond.methodLink RX1 66 yX2_size ∈ kALL := kin1 230 rfl rfl
theorem wk_X2_size : Cond.instanceMethod yX2_size ∈ kALL := kin1 231 rfl rfl
theorem ws_X2_size : Cond.selects RX2 yX2_size yX2_size ∈ kALL := kin1 232 rfl rfl
theorem wc_X2_size : Cond.code yX2_size cX2_size 1 (some .int) ∈ kALL := kin1 233 rfl rfl
theorem wm_X1_70 : Cond.methodLink RX1 70 yX2_get ∈ kALL := kin1 234 rfl rfl
theorem wk_X2_get : Cond.instanceMethod yX2_get ∈ kALL := kin1 235 rfl rfl
theorem ws_X2_get : Cond.selects RX2 yX2_get yX2_get ∈ kALL := kin1 236 rfl rfl
theorem wc_X2_get : Cond.code yX2_get cX2_get 4 (some .int) ∈ kALL := kin1 237 rfl rfl
theorem wm_X1_115 : Cond.methodLink RX1 115 yX1_closeMove ∈ kALL := kin1 238 rfl rfl
theorem wk_X1_closeMove : Cond.instanceMethod yX1_closeMove ∈ kALL := kin2 0 rfl rfl
theorem wc_X1_closeMove : Cond.code yX1_closeMove cX1_closeMove 6 none ∈ kALL := kin2 1 rfl rfl
theorem wm_X1_119 : Cond.methodLink RX1 119 yX2_removeRow ∈ kALL := kin2 2 rfl rfl
theorem wk_X2_removeRow : Cond.instanceMethod yX2_removeRow ∈ kALL := kin2 3 rfl rfl
theorem ws_X2_removeRow : Cond.selects RX2 yX2_removeRow yX2_removeRow ∈ kALL := kin2 4 rfl rfl
theorem wc_X2_removeRow : Cond.code yX2_removeRow cX2_removeRow 4 none ∈ kALL := kin2 5 rfl rfl
theorem wm_X2_42 : Cond.methodLink RX2 42 yX2_has ∈ kALL := kin2 6 rfl rfl
theorem wk_X2_has : Cond.instanceMethod yX2_has ∈ kALL := kin2 7 rfl rfl
theorem ws_X2_has : Cond.selects RX2 yX2_has yX2_has ∈ kALL := kin2 8 rfl rfl
theorem wc_X2_has : Cond.code yX2_has cX2_has 2 (some .boolean) ∈ kALL := kin2 9 rfl rfl
theorem wm_X2_31 : Cond.methodLink RX2 31 yX2_get ∈ kALL := kin2 10 rfl rfl
theorem wm_X1_122 : Cond.methodLink RX1 122 yX1_pay ∈ kALL := kin2 11 rfl rfl
theorem wk_X1_pay : Cond.instanceMethod yX1_pay ∈ kALL := kin2 12 rfl rfl
theorem ws_X1_pay : Cond.selects RX1 yX1_pay yX1_pay ∈ kALL := kin2 13 rfl rfl
theorem wc_X1_pay : Cond.code yX1_pay cX1_pay 3 none ∈ kALL := kin2 14 rfl rfl
theorem wm_X1_95 : Cond.methodLink RX1 95 yX2_increase ∈ kALL := kin2 15 rfl rfl
theorem wk_X2_increase : Cond.instanceMethod yX2_increase ∈ kALL := kin2 16 rfl rfl
theorem ws_X2_increase : Cond.selects RX2 yX2_increase yX2_increase ∈ kALL := kin2 17 rfl rfl
theorem wc_X2_increase : Cond.code yX2_increase cX2_increase 4 none ∈ kALL := kin2 18 rfl rfl
theorem wm_X1_128 : Cond.methodLink RX1 128 yX1_isBooked ∈ kALL := kin2 19 rfl rfl
theorem wk_X1_isBooked : Cond.instanceMethod yX1_isBooked ∈ kALL := kin2 20 rfl rfl
theorem ws_X1_isBooked : Cond.selects RX1 yX1_isBooked yX1_isBooked ∈ kALL := kin2 21 rfl rfl
theorem wc_X1_isBooked : Cond.code yX1_isBooked cX1_isBooked 2 (some .boolean) ∈ kALL := kin2 22 rfl rfl
theorem wm_X1_131 : Cond.methodLink RX1 131 yX1_mustStandBy ∈ kALL := kin2 23 rfl rfl
theorem wk_X1_mustStandBy : Cond.instanceMethod yX1_mustStandBy ∈ kALL := kin2 24 rfl rfl
theorem ws_X1_mustStandBy : Cond.selects RX1 yX1_mustStandBy yX1_mustStandBy ∈ kALL := kin2 25 rfl rfl
theorem wc_X1_mustStandBy : Cond.code yX1_mustStandBy cX1_mustStandBy 2 (some .boolean) ∈ kALL := kin2 26 rfl rfl
theorem wm_X1_105 : Cond.methodLink RX1 105 yX1_bearsLiftOf ∈ kALL := kin2 27 rfl rfl
theorem wk_X1_bearsLiftOf : Cond.instanceMethod yX1_bearsLiftOf ∈ kALL := kin2 28 rfl rfl
theorem ws_X1_bearsLiftOf : Cond.selects RX1 yX1_bearsLiftOf yX1_bearsLiftOf ∈ kALL := kin2 29 rfl rfl
theorem wc_X1_bearsLiftOf : Cond.code yX1_bearsLiftOf cX1_bearsLiftOf 3 (some .boolean) ∈ kALL := kin2 30 rfl rfl
theorem wm_X1_89 : Cond.methodLink RX1 89 yX1_borneBy ∈ kALL := kin2 31 rfl rfl
theorem wk_X1_borneBy : Cond.instanceMethod yX1_borneBy ∈ kALL := kin2 32 rfl rfl
theorem ws_X1_borneBy : Cond.selects RX1 yX1_borneBy yX1_borneBy ∈ kALL := kin2 33 rfl rfl
theorem wc_X1_borneBy : Cond.code yX1_borneBy cX1_borneBy 6 (some .int) ∈ kALL := kin2 34 rfl rfl
theorem wm_X1_86 : Cond.methodLink RX1 86 Lib.Math.max.name ∈ kALL := kin2 35 rfl rfl
theorem wm_X1_98 : Cond.methodLink RX1 98 yX1_windAt ∈ kALL := kin2 36 rfl rfl
theorem wm_X1_109 : Cond.methodLink RX1 109 yX1_limitOf ∈ kALL := kin2 37 rfl rfl
theorem wk_X1_limitOf : Cond.instanceMethod yX1_limitOf ∈ kALL := kin2 38 rfl rfl
theorem ws_X1_limitOf : Cond.selects RX1 yX1_limitOf yX1_limitOf ∈ kALL := kin2 39 rfl rfl
theorem wc_X1_limitOf : Cond.code yX1_limitOf cX1_limitOf 2 (some .int) ∈ kALL := kin2 40 rfl rfl
theorem wt_X4_limitFor : Cond.static yX4_limitFor ∈ kALL := kin2 42 rfl rfl
theorem wc_X4_limitFor : Cond.code yX4_limitFor cX4_limitFor 2 (some .int) ∈ kALL := kin2 43 rfl rfl
theorem wm_X4_216 : Cond.methodLink RX4 216 Lib.Math.max.name ∈ kALL := kin2 44 rfl rfl
theorem wm_X1_134 : Cond.methodLink RX1 134 yX1_standBy ∈ kALL := kin2 45 rfl rfl
theorem wk_X1_standBy : Cond.instanceMethod yX1_standBy ∈ kALL := kin2 47 rfl rfl
theorem wc_X1_standBy : Cond.code yX1_standBy cX1_standBy 3 none ∈ kALL := kin2 48 rfl rfl
theorem wm_X1_140 : Cond.methodLink RX1 140 yX1_causerOf ∈ kALL := kin2 49 rfl rfl
theorem wk_X1_causerOf : Cond.instanceMethod yX1_causerOf ∈ kALL := kin2 50 rfl rfl
theorem ws_X1_causerOf : Cond.selects RX1 yX1_causerOf yX1_causerOf ∈ kALL := kin2 51 rfl rfl
theorem wc_X1_causerOf : Cond.code yX1_causerOf cX1_causerOf 4 (some .int) ∈ kALL := kin2 52 rfl rfl
theorem wm_X1_143 : Cond.methodLink RX1 143 yX1_carryOver ∈ kALL := kin2 53 rfl rfl
theorem wk_X1_carryOver : Cond.instanceMethod yX1_carryOver ∈ kALL := kin2 55 rfl rfl
theorem wc_X1_carryOver : Cond.code yX1_carryOver cX1_carryOver 5 none ∈ kALL := kin2 56 rfl rfl
theorem wm_X1_92 : Cond.methodLink RX1 92 yX1_bookingFor ∈ kALL := kin2 57 rfl rfl
theorem wk_X1_bookingFor : Cond.instanceMethod yX1_bookingFor ∈ kALL := kin2 58 rfl rfl
theorem ws_X1_bookingFor : Cond.selects RX1 yX1_bookingFor yX1_bookingFor ∈ kALL := kin2 59 rfl rfl
theorem wc_X1_bookingFor : Cond.code yX1_bookingFor cX1_bookingFor 4 (some .int) ∈ kALL := kin2 60 rfl rfl
theorem wm_X1_146 : Cond.methodLink RX1 146 yX1_place ∈ kALL := kin2 61 rfl rfl
theorem wk_X1_place : Cond.instanceMethod yX1_place ∈ kALL := kin2 62 rfl rfl
theorem ws_X1_place : Cond.selects RX1 yX1_place yX1_place ∈ kALL := kin2 63 rfl rfl
theorem wc_X1_place : Cond.code yX1_place cX1_place 4 none ∈ kALL := kin2 64 rfl rfl
theorem wm_X1_137 : Cond.methodLink RX1 137 yX1_lift ∈ kALL := kin2 65 rfl rfl
theorem wk_X1_lift : Cond.instanceMethod yX1_lift ∈ kALL := kin2 67 rfl rfl
theorem wc_X1_lift : Cond.code yX1_lift cX1_lift 2 none ∈ kALL := kin2 68 rfl rfl
theorem wm_L_58 : Cond.methodLink RL 58 yX4_undo ∈ kALL := kin2 69 rfl rfl
theorem wk_X4_undo : Cond.instanceMethod yX4_undo ∈ kALL := kin2 70 rfl rfl
theorem ws_X4_undo : Cond.selects RX4 yX4_undo yX4_undo ∈ kALL := kin2 71 rfl rfl
theorem wc_X4_undo : Cond.code yX4_undo cX4_undo 1 (some .int) ∈ kALL := kin2 72 rfl rfl
theorem wm_X4_163 : Cond.methodLink RX4 163 yX0_size ∈ kALL := kin2 73 rfl rfl
theorem wk_X0_size : Cond.instanceMethod yX0_size ∈ kALL := kin2 74 rfl rfl
theorem ws_X0_size : Cond.selects RX0 yX0_size yX0_size ∈ kALL := kin2 75 rfl rfl
theorem wc_X0_size : Cond.code yX0_size cX0_size 1 (some .int) ∈ kALL := kin2 76 rfl rfl
theorem wm_X4_164 : Cond.methodLink RX4 164 yX0_popInto ∈ kALL := kin2 77 rfl rfl
theorem wk_X0_popInto : Cond.instanceMethod yX0_popInto ∈ kALL := kin2 78 rfl rfl
theorem ws_X0_popInto : Cond.selects RX0 yX0_popInto yX0_popInto ∈ kALL := kin2 79 rfl rfl
theorem wc_X0_popInto : Cond.code yX0_popInto cX0_popInto 4 none ∈ kALL := kin2 80 rfl rfl
theorem wm_L_113 : Cond.methodLink RL 113 yX4_keep ∈ kALL := kin2 81 rfl rfl
theorem wk_X4_keep : Cond.instanceMethod yX4_keep ∈ kALL := kin2 82 rfl rfl
theorem ws_X4_keep : Cond.selects RX4 yX4_keep yX4_keep ∈ kALL := kin2 83 rfl rfl
theorem wc_X4_keep : Cond.code yX4_keep cX4_keep 1 (some .int) ∈ kALL := kin2 84 rfl rfl
theorem wm_X4_167 : Cond.methodLink RX4 167 yX1_copyFrom ∈ kALL := kin2 85 rfl rfl
theorem wm_L_116 : Cond.methodLink RL 116 yX4_restore ∈ kALL := kin2 86 rfl rfl
theorem wk_X4_restore : Cond.instanceMethod yX4_restore ∈ kALL := kin2 87 rfl rfl
theorem ws_X4_restore : Cond.selects RX4 yX4_restore yX4_restore ∈ kALL := kin2 88 rfl rfl
theorem wc_X4_restore : Cond.code yX4_restore cX4_restore 1 (some .int) ∈ kALL := kin2 89 rfl rfl
theorem wm_L_18 : Cond.methodLink RL 18 yX4_machine ∈ kALL := kin2 90 rfl rfl
theorem wk_X4_machine : Cond.instanceMethod yX4_machine ∈ kALL := kin2 91 rfl rfl
theorem ws_X4_machine : Cond.selects RX4 yX4_machine yX4_machine ∈ kALL := kin2 92 rfl rfl
theorem wc_X4_machine : Cond.code yX4_machine cX4_machine 3 (some .int) ∈ kALL := kin2 93 rfl rfl
theorem wm_X4_81 : Cond.methodLink RX4 81 yX2_has ∈ kALL := kin2 94 rfl rfl
theorem wm_X4_106 : Cond.methodLink RX4 106 yX2_get ∈ kALL := kin2 95 rfl rfl
theorem wm_X4_182 : Cond.methodLink RX4 182 yX2_countBoth ∈ kALL := kin2 96 rfl rfl
theorem wk_X2_countBoth : Cond.instanceMethod yX2_countBoth ∈ kALL := kin2 97 rfl rfl
theorem ws_X2_countBoth : Cond.selects RX2 yX2_countBoth yX2_countBoth ∈ kALL := kin2 98 rfl rfl
theorem wc_X2_countBoth : Cond.code yX2_countBoth cX2_countBoth 7 (some .int) ∈ kALL := kin2 99 rfl rfl
theorem wm_X4_186 : Cond.methodLink RX4 186 yX2_countOf ∈ kALL := kin2 100 rfl rfl
theorem wk_X2_countOf : Cond.instanceMethod yX2_countOf ∈ kALL := kin2 101 rfl rfl
theorem ws_X2_countOf : Cond.selects RX2 yX2_countOf yX2_countOf ∈ kALL := kin2 102 rfl rfl
theorem wc_X2_countOf : Cond.code yX2_countOf cX2_countOf 5 (some .int) ∈ kALL := kin2 103 rfl rfl
theorem wm_L_22 : Cond.methodLink RL 22 yX4_member ∈ kALL := kin2 104 rfl rfl
theorem wk_X4_member : Cond.instanceMethod yX4_member ∈ kALL := kin2 105 rfl rfl
theorem ws_X4_member : Cond.selects RX4 yX4_member yX4_member ∈ kALL := kin2 106 rfl rfl
theorem wc_X4_member : Cond.code yX4_member cX4_member 3 (some .int) ∈ kALL := kin2 107 rfl rfl
theorem wm_L_25 : Cond.methodLink RL 25 yX4_booking ∈ kALL := kin2 108 rfl rfl
theorem wk_X4_booking : Cond.instanceMethod yX4_booking ∈ kALL := kin2 109 rfl rfl
theorem ws_X4_booking : Cond.selects RX4 yX4_booking yX4_booking ∈ kALL := kin2 110 rfl rfl
theorem wc_X4_booking : Cond.code yX4_booking cX4_booking 3 (some .int) ∈ kALL := kin2 111 rfl rfl
theorem wm_X4_189 : Cond.methodLink RX4 189 yX1_limitOf ∈ kALL := kin2 112 rfl rfl
theorem wm_L_28 : Cond.methodLink RL 28 yX4_move ∈ kALL := kin2 113 rfl rfl
theorem wk_X4_move : Cond.instanceMethod yX4_move ∈ kALL := kin2 114 rfl rfl
theorem ws_X4_move : Cond.selects RX4 yX4_move yX4_move ∈ kALL := kin2 115 rfl rfl
theorem wc_X4_move : Cond.code yX4_move cX4_move 3 (some .int) ∈ kALL := kin2 116 rfl rfl
theorem wm_L_37 : Cond.methodLink RL 37 yX4_bookedAt ∈ kALL := kin2 117 rfl rfl
theorem wk_X4_bookedAt : Cond.instanceMethod yX4_bookedAt ∈ kALL := kin2 118 rfl rfl
theorem ws_X4_bookedAt : Cond.selects RX4 yX4_bookedAt yX4_bookedAt ∈ kALL := kin2 119 rfl rfl
theorem wc_X4_bookedAt : Cond.code yX4_bookedAt cX4_bookedAt 3 (some .int) ∈ kALL := kin2 120 rfl rfl
theorem wm_X4_192 : Cond.methodLink RX4 192 yX4_isHalfDay ∈ kALL := kin2 121 rfl rfl
theorem wm_X4_195 : Cond.methodLink RX4 195 yX1_bookingFor ∈ kALL := kin2 122 rfl rfl
theorem wm_L_66 : Cond.methodLink RL 66 yX4_machineFor ∈ kALL := kin2 123 rfl rfl
theorem wk_X4_machineFor : Cond.instanceMethod yX4_machineFor ∈ kALL := kin2 124 rfl rfl
theorem ws_X4_machineFor : Cond.selects RX4 yX4_machineFor yX4_machineFor ∈ kALL := kin2 125 rfl rfl
theorem wc_X4_machineFor : Cond.code yX4_machineFor cX4_machineFor 5 (some .int) ∈ kALL := kin2 126 rfl rfl
theorem wm_X4_84 : Cond.methodLink RX4 84 yX4_isLift ∈ kALL := kin2 127 rfl rfl
theorem wt_X4_isLift : Cond.static yX4_isLift ∈ kALL := kin2 128 rfl rfl
theorem wc_X4_isLift : Cond.code yX4_isLift cX4_isLift 2 (some .boolean) ∈ kALL := kin2 129 rfl rfl
theorem wm_X4_170 : Cond.methodLink RX4 170 yX4_isRadius ∈ kALL := kin2 130 rfl rfl
theorem wt_X4_isRadius : Cond.static yX4_isRadius ∈ kALL := kin2 131 rfl rfl
theorem wc_X4_isRadius : Cond.code yX4_isRadius cX4_isRadius 1 (some .boolean) ∈ kALL := kin2 132 rfl rfl
theorem wm_X4_133 : Cond.methodLink RX4 133 yX2_size ∈ kALL := kin2 133 rfl rfl
theorem wm_X4_88 : Cond.methodLink RX4 88 yX1_canTake ∈ kALL := kin2 134 rfl rfl
theorem wk_X1_canTake : Cond.instanceMethod yX1_canTake ∈ kALL := kin2 135 rfl rfl
theorem ws_X1_canTake : Cond.selects RX1 yX1_canTake yX1_canTake ∈ kALL := kin2 136 rfl rfl
theorem wc_X1_canTake : Cond.code yX1_canTake cX1_canTake 5 (some .boolean) ∈ kALL := kin2 137 rfl rfl
theorem wm_L_52 : Cond.methodLink RL 52 yX4_fate ∈ kALL := kin2 138 rfl rfl
theorem wk_X4_fate : Cond.instanceMethod yX4_fate ∈ kALL := kin2 139 rfl rfl
theorem ws_X4_fate : Cond.selects RX4 yX4_fate yX4_fate ∈ kALL := kin2 140 rfl rfl
theorem wc_X4_fate : Cond.code yX4_fate cX4_fate 2 (some .int) ∈ kALL := kin2 141 rfl rfl
theorem wm_X4_103 : Cond.methodLink RX4 103 yX1_isBooked ∈ kALL := kin2 142 rfl rfl
theorem wm_X4_176 : Cond.methodLink RX4 176 yX1_closeMovesUpTo ∈ kALL := kin2 143 rfl rfl
theorem wm_X4_198 : Cond.methodLink RX4 198 yX1_mustStandBy ∈ kALL := kin2 144 rfl rfl
theorem wm_X4_201 : Cond.methodLink RX4 201 yX1_causerOf ∈ kALL := kin2 145 rfl rfl
theorem wm_L_12 : Cond.methodLink RL 12 yX4_count ∈ kALL := kin2 146 rfl rfl
theorem wk_X4_count : Cond.instanceMethod yX4_count ∈ kALL := kin2 147 rfl rfl
theorem ws_X4_count : Cond.selects RX4 yX4_count yX4_count ∈ kALL := kin2 148 rfl rfl
theorem wc_X4_count : Cond.code yX4_count cX4_count 2 (some .int) ∈ kALL := kin2 149 rfl rfl
theorem wm_X4_210 : Cond.methodLink RX4 210 yX2_sumOf ∈ kALL := kin2 150 rfl rfl
theorem wk_X2_sumOf : Cond.instanceMethod yX2_sumOf ∈ kALL := kin2 151 rfl rfl
theorem ws_X2_sumOf : Cond.selects RX2 yX2_sumOf yX2_sumOf ∈ kALL := kin2 152 rfl rfl
theorem wc_X2_sumOf : Cond.code yX2_sumOf cX2_sumOf 4 (some .int) ∈ kALL := kin2 153 rfl rfl
theorem wm_X4_143 : Cond.methodLink RX4 143 yX3_length ∈ kALL := kin2 154 rfl rfl
theorem wk_X3_length : Cond.instanceMethod yX3_length ∈ kALL := kin2 155 rfl rfl
theorem ws_X3_length : Cond.selects RX3 yX3_length yX3_length ∈ kALL := kin2 156 rfl rfl
theorem wc_X3_length : Cond.code yX3_length cX3_length 1 (some .int) ∈ kALL := kin2 157 rfl rfl
theorem wm_L_92 : Cond.methodLink RL 92 yL_cell ∈ kALL := kin2 158 rfl rfl
theorem wt_L_cell : Cond.static yL_cell ∈ kALL := kin2 159 rfl rfl
theorem wc_L_cell : Cond.code yL_cell method_2_code 2 (some .int) ∈ kALL := kin2 160 rfl rfl
theorem wm_L_49 : Cond.methodLink RL 49 yL_low ∈ kALL := kin2 161 rfl rfl
theorem wt_L_low : Cond.static yL_low ∈ kALL := kin2 162 rfl rfl
theorem wc_L_low : Cond.code yL_low method_3_code 2 (some .int) ∈ kALL := kin2 163 rfl rfl
theorem wm_L_43 : Cond.methodLink RL 43 yL_all ∈ kALL := kin2 165 rfl rfl
theorem wt_L_all : Cond.static yL_all ∈ kALL := kin2 166 rfl rfl
theorem wc_L_all : Cond.code yL_all method_4_code 4 (some .long) ∈ kALL := kin2 167 rfl rfl
theorem wm_L_31 : Cond.methodLink RL 31 yX4_wind ∈ kALL := kin2 170 rfl rfl
theorem wk_X4_wind : Cond.instanceMethod yX4_wind ∈ kALL := kin2 171 rfl rfl
theorem ws_X4_wind : Cond.selects RX4 yX4_wind yX4_wind ∈ kALL := kin2 172 rfl rfl
theorem wc_X4_wind : Cond.code yX4_wind cX4_wind 2 (some .int) ∈ kALL := kin2 173 rfl rfl
theorem wm_L_103 : Cond.methodLink RL 103 yL_isSound ∈ kALL := kin2 174 rfl rfl
theorem wt_L_isSound : Cond.static yL_isSound ∈ kALL := kin2 175 rfl rfl
theorem wc_L_isSound : Cond.code yL_isSound method_5_code 14 (some .boolean) ∈ kALL := kin2 176 rfl rfl
theorem wm_L_34 : Cond.methodLink RL 34 yX4_bears ∈ kALL := kin2 177 rfl rfl
theorem wk_X4_bears : Cond.instanceMethod yX4_bears ∈ kALL := kin2 178 rfl rfl
theorem ws_X4_bears : Cond.selects RX4 yX4_bears yX4_bears ∈ kALL := kin2 179 rfl rfl
theorem wc_X4_bears : Cond.code yX4_bears cX4_bears 3 (some .int) ∈ kALL := kin2 180 rfl rfl
theorem wm_X4_173 : Cond.methodLink RX4 173 yX1_borneBy ∈ kALL := kin2 181 rfl rfl
theorem wm_L_40 : Cond.methodLink RL 40 yX4_windLimit ∈ kALL := kin2 182 rfl rfl
theorem wk_X4_windLimit : Cond.instanceMethod yX4_windLimit ∈ kALL := kin2 183 rfl rfl
theorem ws_X4_windLimit : Cond.selects RX4 yX4_windLimit yX4_windLimit ∈ kALL := kin2 184 rfl rfl
theorem wc_X4_windLimit : Cond.code yX4_windLimit cX4_windLimit 3 (some .int) ∈ kALL := kin2 185 rfl rfl
theorem wm_X4_179 : Cond.methodLink RX4 179 yX4_limitFor ∈ kALL := kin2 186 rfl rfl
theorem wm_L_107 : Cond.methodLink RL 107 yL_isForetold ∈ kALL := kin2 187 rfl rfl
theorem wt_L_isForetold : Cond.static yL_isForetold ∈ kALL := kin2 188 rfl rfl
theorem wc_L_isForetold : Cond.code yL_isForetold method_6_code 9 (some .boolean) ∈ kALL := kin2 189 rfl rfl
theorem wm_L_62 : Cond.methodLink RL 62 yX4_willBear ∈ kALL := kin2 190 rfl rfl
theorem wk_X4_willBear : Cond.instanceMethod yX4_willBear ∈ kALL := kin2 191 rfl rfl
theorem ws_X4_willBear : Cond.selects RX4 yX4_willBear yX4_willBear ∈ kALL := kin2 192 rfl rfl
theorem wc_X4_willBear : Cond.code yX4_willBear cX4_willBear 4 (some .int) ∈ kALL := kin2 193 rfl rfl
theorem wm_L_110 : Cond.methodLink RL 110 yL_isFound ∈ kALL := kin2 194 rfl rfl
theorem wt_L_isFound : Cond.static yL_isFound ∈ kALL := kin2 195 rfl rfl
theorem wc_L_isFound : Cond.code yL_isFound method_7_code 12 (some .boolean) ∈ kALL := kin2 196 rfl rfl
theorem wm_L_69 : Cond.methodLink RL 69 yX4_book ∈ kALL := kin2 197 rfl rfl
theorem wk_X4_book : Cond.instanceMethod yX4_book ∈ kALL := kin2 198 rfl rfl
theorem ws_X4_book : Cond.selects RX4 yX4_book yX4_book ∈ kALL := kin2 199 rfl rfl
theorem wc_X4_book : Cond.code yX4_book cX4_book 7 (some .int) ∈ kALL := kin2 200 rfl rfl
theorem wm_X4_95 : Cond.methodLink RX4 95 yX1_putBooking ∈ kALL := kin2 201 rfl rfl
theorem wk_X1_putBooking : Cond.instanceMethod yX1_putBooking ∈ kALL := kin2 202 rfl rfl
theorem ws_X1_putBooking : Cond.selects RX1 yX1_putBooking yX1_putBooking ∈ kALL := kin2 203 rfl rfl
theorem wc_X1_putBooking : Cond.code yX1_putBooking cX1_putBooking 5 (some .int) ∈ kALL := kin2 204 rfl rfl
theorem wm_X4_99 : Cond.methodLink RX4 99 yX1_place ∈ kALL := kin2 205 rfl rfl
theorem wm_L_99 : Cond.methodLink RL 99 yL_acts ∈ kALL := kin2 206 rfl rfl
theorem wt_L_acts : Cond.static yL_acts ∈ kALL := kin2 207 rfl rfl
theorem wc_L_acts : Cond.code yL_acts method_8_code 6 (some .int) ∈ kALL := kin2 208 rfl rfl
theorem wm_L_79 : Cond.methodLink RL 79 yX4_cancel ∈ kALL := kin2 209 rfl rfl
theorem wk_X4_cancel : Cond.instanceMethod yX4_cancel ∈ kALL := kin2 210 rfl rfl
theorem ws_X4_cancel : Cond.selects RX4 yX4_cancel yX4_cancel ∈ kALL := kin2 211 rfl rfl
theorem wc_X4_cancel : Cond.code yX4_cancel cX4_cancel 3 (some .int) ∈ kALL := kin2 212 rfl rfl
theorem wm_X4_113 : Cond.methodLink RX4 113 yX1_pay ∈ kALL := kin2 213 rfl rfl
theorem wm_X4_116 : Cond.methodLink RX4 116 yX2_set ∈ kALL := kin2 214 rfl rfl
theorem wm_L_82 : Cond.methodLink RL 82 yX4_swap ∈ kALL := kin2 215 rfl rfl
theorem wk_X4_swap : Cond.instanceMethod yX4_swap ∈ kALL := kin2 216 rfl rfl
theorem ws_X4_swap : Cond.selects RX4 yX4_swap yX4_swap ∈ kALL := kin2 217 rfl rfl
theorem wc_X4_swap : Cond.code yX4_swap cX4_swap 7 (some .int) ∈ kALL := kin2 218 rfl rfl
theorem wm_X4_119 : Cond.methodLink RX4 119 yX1_bearsLiftOf ∈ kALL := kin2 219 rfl rfl
theorem wm_L_85 : Cond.methodLink RL 85 yX4_order ∈ kALL := kin2 220 rfl rfl
theorem wk_X4_order : Cond.instanceMethod yX4_order ∈ kALL := kin2 221 rfl rfl
theorem ws_X4_order : Cond.selects RX4 yX4_order yX4_order ∈ kALL := kin2 222 rfl rfl
theorem wc_X4_order : Cond.code yX4_order cX4_order 6 (some .int) ∈ kALL := kin2 223 rfl rfl
theorem wm_X4_125 : Cond.methodLink RX4 125 yX1_putMove ∈ kALL := kin2 224 rfl rfl
theorem wk_X1_putMove : Cond.instanceMethod yX1_putMove ∈ kALL := kin2 225 rfl rfl
theorem ws_X1_putMove : Cond.selects RX1 yX1_putMove yX1_putMove ∈ kALL := kin2 226 rfl rfl
theorem wc_X1_putMove : Cond.code yX1_putMove cX1_putMove 7 (some .int) ∈ kALL := kin2 227 rfl rfl
theorem wm_L_88 : Cond.methodLink RL 88 yX4_takeBack ∈ kALL := kin2 228 rfl rfl
theorem wk_X4_takeBack : Cond.instanceMethod yX4_takeBack ∈ kALL := kin2 229 rfl rfl
theorem ws_X4_takeBack : Cond.selects RX4 yX4_takeBack yX4_takeBack ∈ kALL := kin2 230 rfl rfl
theorem wc_X4_takeBack : Cond.code yX4_takeBack cX4_takeBack 2 (some .int) ∈ kALL := kin2 231 rfl rfl
theorem wm_X4_129 : Cond.methodLink RX4 129 yX2_removeRow ∈ kALL := kin2 232 rfl rfl
theorem ws_X0_stateAt : Cond.selects RX0 yX0_stateAt yX0_stateAt ∈ kALL := kins 0 rfl
theorem ws_X1_closeMove : Cond.selects RX1 yX1_closeMove yX1_closeMove ∈ kALL := kins 1 rfl
theorem ws_X1_standBy : Cond.selects RX1 yX1_standBy yX1_standBy ∈ kALL := kins 2 rfl
theorem ws_X1_carryOver : Cond.selects RX1 yX1_carryOver yX1_carryOver ∈ kALL := kins 3 rfl
theorem ws_X1_lift : Cond.selects RX1 yX1_lift yX1_lift ∈ kALL := kins 4 rfl
theorem wz_X2 : ∀ w ∈ wsX20, w ∈ kALL := fun w h => by
  have e : [35, 37, 39, 41].filterMap (fun i => tables_1_1[i]?) = wsX20 := rfl
  have g : wsX20.all goodWord = true := rfl
  rw [← e] at h
  obtain ⟨i, -, hi⟩ := List.mem_filterMap.mp h
  rw [e] at h
  exact kin1 i hi (List.all_eq_true.mp g w h)
theorem wz_X1 : ∀ w ∈ wsX10, w ∈ kALL := fun w h => by
  have e : [62, 64, 66, 68, 70, 72, 74, 76, 78].filterMap (fun i => tables_1_1[i]?) = wsX10 := rfl
  have g : wsX10.all goodWord = true := rfl
  rw [← e] at h
  obtain ⟨i, -, hi⟩ := List.mem_filterMap.mp h
  rw [e] at h
  exact kin1 i hi (List.all_eq_true.mp g w h)
theorem wz_X0 : ∀ w ∈ wsX00, w ∈ kALL := fun w h => by
  have e : [93, 95, 97].filterMap (fun i => tables_1_1[i]?) = wsX00 := rfl
  have g : wsX00.all goodWord = true := rfl
  rw [← e] at h
  obtain ⟨i, -, hi⟩ := List.mem_filterMap.mp h
  rw [e] at h
  exact kin1 i hi (List.all_eq_true.mp g w h)
theorem wz_X3 : ∀ w ∈ wsX30, w ∈ kALL := fun w h => by
  have e : [111, 113, 115, 117].filterMap (fun i => tables_1_1[i]?) = wsX30 := rfl
  have g : wsX30.all goodWord = true := rfl
  rw [← e] at h
  obtain ⟨i, -, hi⟩ := List.mem_filterMap.mp h
  rw [e] at h
  exact kin1 i hi (List.all_eq_true.mp g w h)
theorem wz_X4 : ∀ w ∈ wsX40, w ∈ kALL := fun w h => by
  have e : [127, 129, 131, 133, 135, 137].filterMap (fun i => tables_1_1[i]?) = wsX40 := rfl
  have g : wsX40.all goodWord = true := rfl
  rw [← e] at h
  obtain ⟨i, -, hi⟩ := List.mem_filterMap.mp h
  rw [e] at h
  exact kin1 i hi (List.all_eq_true.mp g w h)
end
section
theorem dX0_init_0 : decode cX0_init 0 = .ok (.aload_n 0, 1) := by decide +kernel
theorem dX0_init_1 : decode cX0_init 1 = .ok (.invokespecial 3, 3) := by decide +kernel
theorem dX0_init_4 : decode cX0_init 4 = .ok (.aload_n 0, 1) := by decide +kernel
theorem dX0_init_5 : decode cX0_init 5 = .ok (.iconst 4, 1) := by decide +kernel
theorem dX0_init_6 : decode cX0_init 6 = .ok (.anewarray 9, 3) := by decide +kernel
theorem dX0_init_9 : decode cX0_init 9 = .ok (.putfield 11, 3) := by decide +kernel
theorem dX0_init_12 : decode cX0_init 12 = .ok (.iconst 0, 1) := by decide +kernel
theorem dX0_init_13 : decode cX0_init 13 = .ok (.istore_n 1, 1) := by decide +kernel
theorem dX0_init_14 : decode cX0_init 14 = .ok (.iload_n 1, 1) := by decide +kernel
theorem dX0_init_15 : decode cX0_init 15 = .ok (.iconst 4, 1) := by decide +kernel
theorem dX0_init_16 : decode cX0_init 16 = .ok (.if_icmp .ge 22, 3) := by decide +kernel
theorem dX0_init_19 : decode cX0_init 19 = .ok (.aload_n 0, 1) := by decide +kernel
theorem dX0_init_20 : decode cX0_init 20 = .ok (.getfield 11, 3) := by decide +kernel
theorem dX0_init_23 : decode cX0_init 23 = .ok (.iload_n 1, 1) := by decide +kernel
theorem dX0_init_24 : decode cX0_init 24 = .ok (.new 9, 3) := by decide +kernel
theorem dX0_init_27 : decode cX0_init 27 = .ok (.dup, 1) := by decide +kernel
theorem dX0_init_28 : decode cX0_init 28 = .ok (.invokespecial 17, 3) := by decide +kernel
theorem dX0_init_31 : decode cX0_init 31 = .ok (.aastore, 1) := by decide +kernel
theorem dX0_init_32 : decode cX0_init 32 = .ok (.iinc 1 1, 3) := by decide +kernel
theorem dX0_init_35 : decode cX0_init 35 = .ok (.goto (-21), 3) := by decide +kernel
theorem dX0_init_38 : decode cX0_init 38 = .ok (.return_, 1) := by decide +kernel
theorem dX0_size_0 : decode cX0_size 0 = .ok (.aload_n 0, 1) := by decide +kernel
theorem dX0_size_1 : decode cX0_size 1 = .ok (.getfield 18, 3) := by decide +kernel
theorem dX0_size_4 : decode cX0_size 4 = .ok (.ireturn, 1) := by decide +kernel
theorem dX0_stateAt_0 : decode cX0_stateAt 0 = .ok (.iload_n 1, 1) := by decide +kernel
theorem dX0_stateAt_1 : decode cX0_stateAt 1 = .ok (.ifCond .lt 21, 3) := by decide +kernel
theorem dX0_stateAt_4 : decode cX0_stateAt 4 = .ok (.iload_n 1, 1) := by decide +kernel
theorem dX0_stateAt_5 : decode cX0_stateAt 5 = .ok (.aload_n 0, 1) := by decide +kernel
theorem dX0_stateAt_6 : decode cX0_stateAt 6 = .ok (.getfield 11, 3) := by decide +kernel
theorem dX0_stateAt_9 : decode cX0_stateAt 9 = .ok (.arraylength, 1) := by decide +kernel
theorem dX0_stateAt_10 : decode cX0_stateAt 10 = .ok (.if_icmp .ge 12, 3) := by decide +kernel
theorem dX0_stateAt_13 : decode cX0_stateAt 13 = .ok (.aload_n 0, 1) := by decide +kernel
theorem dX0_stateAt_14 : decode cX0_stateAt 14 = .ok (.getfield 11, 3) := by decide +kernel
theorem dX0_stateAt_17 : decode cX0_stateAt 17 = .ok (.iload_n 1, 1) := by decide +kernel
theorem dX0_stateAt_18 : decode cX0_stateAt 18 = .ok (.aaload, 1) := by decide +kernel
theorem dX0_stateAt_19 : decode cX0_stateAt 19 = .ok (.goto 4, 3) := by decide +kernel
theorem dX0_stateAt_22 : decode cX0_stateAt 22 = .ok (.aconst_null, 1) := by decide +kernel
theorem dX0_stateAt_23 : decode cX0_stateAt 23 = .ok (.areturn, 1) := by decide +kernel
theorem dX0_push_0 : decode cX0_push 0 = .ok (.aload_n 0, 1) := by decide +kernel
theorem dX0_push_1 : decode cX0_push 1 = .ok (.aload_n 0, 1) := by decide +kernel
theorem dX0_push_2 : decode cX0_push 2 = .ok (.getfield 22, 3) := by decide +kernel
theorem dX0_push_5 : decode cX0_push 5 = .ok (.invokevirtual 25, 3) := by decide +kernel
theorem dX0_push_8 : decode cX0_push 8 = .ok (.astore_n 2, 1) := by decide +kernel
theorem dX0_push_9 : decode cX0_push 9 = .ok (.aload_n 2, 1) := by decide +kernel
theorem dX0_push_10 : decode cX0_push 10 = .ok (.ifnonnull 4, 3) := by decide +kernel
theorem dX0_push_13 : decode cX0_push 13 = .ok (.return_, 1) := by decide +kernel
theorem dX0_push_14 : decode cX0_push 14 = .ok (.aload_n 2, 1) := by decide +kernel
theorem dX0_push_15 : decode cX0_push 15 = .ok (.aload_n 1, 1) := by decide +kernel
theorem dX0_push_16 : decode cX0_push 16 = .ok (.invokevirtual 29, 3) := by decide +kernel
theorem dX0_push_19 : decode cX0_push 19 = .ok (.aload_n 0, 1) := by decide +kernel
theorem dX0_push_20 : decode cX0_push 20 = .ok (.aload_n 0, 1) := by decide +kernel
theorem dX0_push_21 : decode cX0_push 21 = .ok (.getfield 22, 3) := by decide +kernel
theorem dX0_push_24 : decode cX0_push 24 = .ok (.iconst 1, 1) := by decide +kernel
theorem dX0_push_25 : decode cX0_push 25 = .ok (.iadd, 1) := by decide +kernel
theorem dX0_push_26 : decode cX0_push 26 = .ok (.iconst 4, 1) := by decide +kernel
theorem dX0_push_27 : decode cX0_push 27 = .ok (.irem, 1) := by decide +kernel
theorem dX0_push_28 : decode cX0_push 28 = .ok (.putfield 22, 3) := by decide +kernel
theorem dX0_push_31 : decode cX0_push 31 = .ok (.aload_n 0, 1) := by decide +kernel
theorem dX0_push_32 : decode cX0_push 32 = .ok (.aload_n 0, 1) := by decide +kernel
theorem dX0_push_33 : decode cX0_push 33 = .ok (.getfield 18, 3) := by decide +kernel
theorem dX0_push_36 : decode cX0_push 36 = .ok (.iconst 1, 1) := by decide +kernel
theorem dX0_push_37 : decode cX0_push 37 = .ok (.iadd, 1) := by decide +kernel
theorem dX0_push_38 : decode cX0_push 38 = .ok (.iconst 4, 1) := by decide +kernel
theorem dX0_push_39 : decode cX0_push 39 = .ok (.invokestatic 33, 3) := by decide +kernel
theorem dX0_push_42 : decode cX0_push 42 = .ok (.putfield 18, 3) := by decide +kernel
theorem dX0_push_45 : decode cX0_push 45 = .ok (.return_, 1) := by decide +kernel
theorem dX0_popInto_0 : decode cX0_popInto 0 = .ok (.aload_n 0, 1) := by decide +kernel
theorem dX0_popInto_1 : decode cX0_popInto 1 = .ok (.getfield 22, 3) := by decide +kernel
theorem dX0_popInto_4 : decode cX0_popInto 4 = .ok (.iconst 4, 1) := by decide +kernel
theorem dX0_popInto_5 : decode cX0_popInto 5 = .ok (.iadd, 1) := by decide +kernel
theorem dX0_popInto_6 : decode cX0_popInto 6 = .ok (.iconst 1, 1) := by decide +kernel
theorem dX0_popInto_7 : decode cX0_popInto 7 = .ok (.isub, 1) := by decide +kernel
theorem dX0_popInto_8 : decode cX0_popInto 8 = .ok (.iconst 4, 1) := by decide +kernel
theorem dX0_popInto_9 : decode cX0_popInto 9 = .ok (.irem, 1) := by decide +kernel
theorem dX0_popInto_10 : decode cX0_popInto 10 = .ok (.istore_n 2, 1) := by decide +kernel
theorem dX0_popInto_11 : decode cX0_popInto 11 = .ok (.aload_n 0, 1) := by decide +kernel
theorem dX0_popInto_12 : decode cX0_popInto 12 = .ok (.iload_n 2, 1) := by decide +kernel
theorem dX0_popInto_13 : decode cX0_popInto 13 = .ok (.invokevirtual 25, 3) := by decide +kernel
theorem dX0_popInto_16 : decode cX0_popInto 16 = .ok (.astore_n 3, 1) := by decide +kernel
theorem dX0_popInto_17 : decode cX0_popInto 17 = .ok (.aload_n 0, 1) := by decide +kernel
theorem dX0_popInto_18 : decode cX0_popInto 18 = .ok (.getfield 18, 3) := by decide +kernel
theorem dX0_popInto_21 : decode cX0_popInto 21 = .ok (.ifCond .eq 7, 3) := by decide +kernel
theorem dX0_popInto_24 : decode cX0_popInto 24 = .ok (.aload_n 3, 1) := by decide +kernel
theorem dX0_popInto_25 : decode cX0_popInto 25 = .ok (.ifnonnull 4, 3) := by decide +kernel
theorem dX0_popInto_28 : decode cX0_popInto 28 = .ok (.return_, 1) := by decide +kernel
theorem dX0_popInto_29 : decode cX0_popInto 29 = .ok (.aload_n 1, 1) := by decide +kernel
theorem dX0_popInto_30 : decode cX0_popInto 30 = .ok (.aload_n 3, 1) := by decide +kernel
theorem dX0_popInto_31 : decode cX0_popInto 31 = .ok (.invokevirtual 29, 3) := by decide +kernel
theorem dX0_popInto_34 : decode cX0_popInto 34 = .ok (.aload_n 0, 1) := by decide +kernel
theorem dX0_popInto_35 : decode cX0_popInto 35 = .ok (.iload_n 2, 1) := by decide +kernel
theorem dX0_popInto_36 : decode cX0_popInto 36 = .ok (.putfield 22, 3) := by decide +kernel
theorem dX0_popInto_39 : decode cX0_popInto 39 = .ok (.aload_n 0, 1) := by decide +kernel
theorem dX0_popInto_40 : decode cX0_popInto 40 = .ok (.dup, 1) := by decide +kernel
theorem dX0_popInto_41 : decode cX0_popInto 41 = .ok (.getfield 18, 3) := by decide +kernel
theorem dX0_popInto_44 : decode cX0_popInto 44 = .ok (.iconst 1, 1) := by decide +kernel
theorem dX0_popInto_45 : decode cX0_popInto 45 = .ok (.isub, 1) := by decide +kernel
theorem dX0_popInto_46 : decode cX0_popInto 46 = .ok (.putfield 18, 3) := by decide +kernel
theorem dX0_popInto_49 : decode cX0_popInto 49 = .ok (.return_, 1) := by decide +kernel
theorem dX1_init_0 : decode cX1_init 0 = .ok (.aload_n 0, 1) := by decide +kernel
theorem dX1_init_1 : decode cX1_init 1 = .ok (.invokespecial 3, 3) := by decide +kernel
theorem dX1_init_4 : decode cX1_init 4 = .ok (.aload_n 0, 1) := by decide +kernel
theorem dX1_init_5 : decode cX1_init 5 = .ok (.new 9, 3) := by decide +kernel
theorem dX1_init_8 : decode cX1_init 8 = .ok (.dup, 1) := by decide +kernel
theorem dX1_init_9 : decode cX1_init 9 = .ok (.iconst 5, 1) := by decide +kernel
theorem dX1_init_10 : decode cX1_init 10 = .ok (.iconst 3, 1) := by decide +kernel
theorem dX1_init_11 : decode cX1_init 11 = .ok (.invokespecial 11, 3) := by decide +kernel
theorem dX1_init_14 : decode cX1_init 14 = .ok (.putfield 14, 3) := by decide +kernel
theorem dX1_init_17 : decode cX1_init 17 = .ok (.aload_n 0, 1) := by decide +kernel
theorem dX1_init_18 : decode cX1_init 18 = .ok (.new 9, 3) := by decide +kernel
theorem dX1_init_21 : decode cX1_init 21 = .ok (.dup, 1) := by decide +kernel
theorem dX1_init_22 : decode cX1_init 22 = .ok (.bipush 8, 2) := by decide +kernel
theorem dX1_init_24 : decode cX1_init 24 = .ok (.iconst 2, 1) := by decide +kernel
theorem dX1_init_25 : decode cX1_init 25 = .ok (.invokespecial 11, 3) := by decide +kernel
theorem dX1_init_28 : decode cX1_init 28 = .ok (.putfield 20, 3) := by decide +kernel
theorem dX1_init_31 : decode cX1_init 31 = .ok (.aload_n 0, 1) := by decide +kernel
theorem dX1_init_32 : decode cX1_init 32 = .ok (.new 9, 3) := by decide +kernel
theorem dX1_init_35 : decode cX1_init 35 = .ok (.dup, 1) := by decide +kernel
theorem dX1_init_36 : decode cX1_init 36 = .ok (.bipush 30, 2) := by decide +kernel
theorem dX1_init_38 : decode cX1_init 38 = .ok (.bipush 8, 2) := by decide +kernel
theorem dX1_init_40 : decode cX1_init 40 = .ok (.invokespecial 11, 3) := by decide +kernel
theorem dX1_init_43 : decode cX1_init 43 = .ok (.putfield 23, 3) := by decide +kernel
theorem dX1_init_46 : decode cX1_init 46 = .ok (.aload_n 0, 1) := by decide +kernel
theorem dX1_init_47 : decode cX1_init 47 = .ok (.new 9, 3) := by decide +kernel
theorem dX1_init_50 : decode cX1_init 50 = .ok (.dup, 1) := by decide +kernel
theorem dX1_init_51 : decode cX1_init 51 = .ok (.bipush 10, 2) := by decide +kernel
theorem dX1_init_53 : decode cX1_init 53 = .ok (.iconst 5, 1) := by decide +kernel
theorem dX1_init_54 : decode cX1_init 54 = .ok (.invokespecial 11, 3) := by decide +kernel
theorem dX1_init_57 : decode cX1_init 57 = .ok (.putfield 26, 3) := by decide +kernel
theorem dX1_init_60 : decode cX1_init 60 = .ok (.aload_n 0, 1) := by decide +kernel
theorem dX1_init_61 : decode cX1_init 61 = .ok (.sipush 200, 3) := by decide +kernel
theorem dX1_init_64 : decode cX1_init 64 = .ok (.newarray .int, 2) := by decide +kernel
theorem dX1_init_66 : decode cX1_init 66 = .ok (.putfield 29, 3) := by decide +kernel
theorem dX1_init_69 : decode cX1_init 69 = .ok (.return_, 1) := by decide +kernel
theorem dX1_copyFrom_0 : decode cX1_copyFrom 0 = .ok (.aload_n 0, 1) := by decide +kernel
theorem dX1_copyFrom_1 : decode cX1_copyFrom 1 = .ok (.getfield 14, 3) := by decide +kernel
theorem dX1_copyFrom_4 : decode cX1_copyFrom 4 = .ok (.aload_n 1, 1) := by decide +kernel
theorem dX1_copyFrom_5 : decode cX1_copyFrom 5 = .ok (.getfield 14, 3) := by decide +kernel
theorem dX1_copyFrom_8 : decode cX1_copyFrom 8 = .ok (.invokevirtual 33, 3) := by decide +kernel
theorem dX1_copyFrom_11 : decode cX1_copyFrom 11 = .ok (.aload_n 0, 1) := by decide +kernel
theorem dX1_copyFrom_12 : decode cX1_copyFrom 12 = .ok (.getfield 20, 3) := by decide +kernel
theorem dX1_copyFrom_15 : decode cX1_copyFrom 15 = .ok (.aload_n 1, 1) := by decide +kernel
theorem dX1_copyFrom_16 : decode cX1_copyFrom 16 = .ok (.getfield 20, 3) := by decide +kernel
theorem dX1_copyFrom_19 : decode cX1_copyFrom 19 = .ok (.invokevirtual 33, 3) := by decide +kernel
theorem dX1_copyFrom_22 : decode cX1_copyFrom 22 = .ok (.aload_n 0, 1) := by decide +kernel
theorem dX1_copyFrom_23 : decode cX1_copyFrom 23 = .ok (.getfield 23, 3) := by decide +kernel
theorem dX1_copyFrom_26 : decode cX1_copyFrom 26 = .ok (.aload_n 1, 1) := by decide +kernel
theorem dX1_copyFrom_27 : decode cX1_copyFrom 27 = .ok (.getfield 23, 3) := by decide +kernel
theorem dX1_copyFrom_30 : decode cX1_copyFrom 30 = .ok (.invokevirtual 33, 3) := by decide +kernel
theorem dX1_copyFrom_33 : decode cX1_copyFrom 33 = .ok (.aload_n 0, 1) := by decide +kernel
theorem dX1_copyFrom_34 : decode cX1_copyFrom 34 = .ok (.getfield 26, 3) := by decide +kernel
theorem dX1_copyFrom_37 : decode cX1_copyFrom 37 = .ok (.aload_n 1, 1) := by decide +kernel
theorem dX1_copyFrom_38 : decode cX1_copyFrom 38 = .ok (.getfield 26, 3) := by decide +kernel
theorem dX1_copyFrom_41 : decode cX1_copyFrom 41 = .ok (.invokevirtual 33, 3) := by decide +kernel
theorem dX1_copyFrom_44 : decode cX1_copyFrom 44 = .ok (.aload_n 1, 1) := by decide +kernel
theorem dX1_copyFrom_45 : decode cX1_copyFrom 45 = .ok (.getfield 29, 3) := by decide +kernel
theorem dX1_copyFrom_48 : decode cX1_copyFrom 48 = .ok (.iconst 0, 1) := by decide +kernel
theorem dX1_copyFrom_49 : decode cX1_copyFrom 49 = .ok (.aload_n 0, 1) := by decide +kernel
theorem dX1_copyFrom_50 : decode cX1_copyFrom 50 = .ok (.getfield 29, 3) := by decide +kernel
theorem dX1_copyFrom_53 : decode cX1_copyFrom 53 = .ok (.iconst 0, 1) := by decide +kernel
theorem dX1_copyFrom_54 : decode cX1_copyFrom 54 = .ok (.aload_n 1, 1) := by decide +kernel
theorem dX1_copyFrom_55 : decode cX1_copyFrom 55 = .ok (.getfield 29, 3) := by decide +kernel
theorem dX1_copyFrom_58 : decode cX1_copyFrom 58 = .ok (.arraylength, 1) := by decide +kernel
theorem dX1_copyFrom_59 : decode cX1_copyFrom 59 = .ok (.aload_n 0, 1) := by decide +kernel
theorem dX1_copyFrom_60 : decode cX1_copyFrom 60 = .ok (.getfield 29, 3) := by decide +kernel
theorem dX1_copyFrom_63 : decode cX1_copyFrom 63 = .ok (.arraylength, 1) := by decide +kernel
theorem dX1_copyFrom_64 : decode cX1_copyFrom 64 = .ok (.invokestatic 37, 3) := by decide +kernel
theorem dX1_copyFrom_67 : decode cX1_copyFrom 67 = .ok (.invokestatic 43, 3) := by decide +kernel
theorem dX1_copyFrom_70 : decode cX1_copyFrom 70 = .ok (.aload_n 0, 1) := by decide +kernel
theorem dX1_copyFrom_71 : decode cX1_copyFrom 71 = .ok (.aload_n 1, 1) := by decide +kernel
theorem dX1_copyFrom_72 : decode cX1_copyFrom 72 = .ok (.getfield 49, 3) := by decide +kernel
theorem dX1_copyFrom_75 : decode cX1_copyFrom 75 = .ok (.putfield 49, 3) := by decide +kernel
theorem dX1_copyFrom_78 : decode cX1_copyFrom 78 = .ok (.aload_n 0, 1) := by decide +kernel
theorem dX1_copyFrom_79 : decode cX1_copyFrom 79 = .ok (.aload_n 1, 1) := by decide +kernel
theorem dX1_copyFrom_80 : decode cX1_copyFrom 80 = .ok (.getfield 53, 3) := by decide +kernel
theorem dX1_copyFrom_83 : decode cX1_copyFrom 83 = .ok (.putfield 53, 3) := by decide +kernel
theorem dX1_copyFrom_86 : decode cX1_copyFrom 86 = .ok (.aload_n 0, 1) := by decide +kernel
theorem dX1_copyFrom_87 : decode cX1_copyFrom 87 = .ok (.aload_n 1, 1) := by decide +kernel
theorem dX1_copyFrom_88 : decode cX1_copyFrom 88 = .ok (.getfield 56, 3) := by decide +kernel
theorem dX1_copyFrom_91 : decode cX1_copyFrom 91 = .ok (.putfield 56, 3) := by decide +kernel
theorem dX1_copyFrom_94 : decode cX1_copyFrom 94 = .ok (.aload_n 0, 1) := by decide +kernel
theorem dX1_copyFrom_95 : decode cX1_copyFrom 95 = .ok (.aload_n 1, 1) := by decide +kernel
theorem dX1_copyFrom_96 : decode cX1_copyFrom 96 = .ok (.getfield 59, 3) := by decide +kernel
theorem dX1_copyFrom_99 : decode cX1_copyFrom 99 = .ok (.putfield 59, 3) := by decide +kernel
theorem dX1_copyFrom_102 : decode cX1_copyFrom 102 = .ok (.return_, 1) := by decide +kernel
theorem dX1_isToCome_0 : decode cX1_isToCome 0 = .ok (.iload_n 1, 1) := by decide +kernel
theorem dX1_isToCome_1 : decode cX1_isToCome 1 = .ok (.aload_n 0, 1) := by decide +kernel
theorem dX1_isToCome_2 : decode cX1_isToCome 2 = .ok (.getfield 49, 3) := by decide +kernel
theorem dX1_isToCome_5 : decode cX1_isToCome 5 = .ok (.if_icmp .lt 14, 3) := by decide +kernel
theorem dX1_isToCome_8 : decode cX1_isToCome 8 = .ok (.iload_n 1, 1) := by decide +kernel
theorem dX1_isToCome_9 : decode cX1_isToCome 9 = .ok (.invokestatic 62, 3) := by decide +kernel
theorem dX1_isToCome_12 : decode cX1_isToCome 12 = .ok (.ifCond .eq 7, 3) := by decide +kernel
theorem dX1_isToCome_15 : decode cX1_isToCome 15 = .ok (.iconst 1, 1) := by decide +kernel
theorem dX1_isToCome_16 : decode cX1_isToCome 16 = .ok (.goto 4, 3) := by decide +kernel
theorem dX1_isToCome_19 : decode cX1_isToCome 19 = .ok (.iconst 0, 1) := by decide +kernel
theorem dX1_isToCome_20 : decode cX1_isToCome 20 = .ok (.ireturn, 1) := by decide +kernel
theorem dX1_windAt_0 : decode cX1_windAt 0 = .ok (.iload_n 1, 1) := by decide +kernel
theorem dX1_windAt_1 : decode cX1_windAt 1 = .ok (.ifCond .lt 21, 3) := by decide +kernel
theorem dX1_windAt_4 : decode cX1_windAt 4 = .ok (.iload_n 1, 1) := by decide +kernel
theorem dX1_windAt_5 : decode cX1_windAt 5 = .ok (.aload_n 0, 1) := by decide +kernel
theorem dX1_windAt_6 : decode cX1_windAt 6 = .ok (.getfield 29, 3) := by decide +kernel
theorem dX1_windAt_9 : decode cX1_windAt 9 = .ok (.arraylength, 1) := by decide +kernel
theorem dX1_windAt_10 : decode cX1_windAt 10 = .ok (.if_icmp .ge 12, 3) := by decide +kernel
theorem dX1_windAt_13 : decode cX1_windAt 13 = .ok (.aload_n 0, 1) := by decide +kernel
theorem dX1_windAt_14 : decode cX1_windAt 14 = .ok (.getfield 29, 3) := by decide +kernel
theorem dX1_windAt_17 : decode cX1_windAt 17 = .ok (.iload_n 1, 1) := by decide +kernel
theorem dX1_windAt_18 : decode cX1_windAt 18 = .ok (.iaload, 1) := by decide +kernel
theorem dX1_windAt_19 : decode cX1_windAt 19 = .ok (.goto 4, 3) := by decide +kernel
theorem dX1_windAt_22 : decode cX1_windAt 22 = .ok (.iconst 0, 1) := by decide +kernel
theorem dX1_windAt_23 : decode cX1_windAt 23 = .ok (.ireturn, 1) := by decide +kernel
theorem dX1_tellWind_0 : decode cX1_tellWind 0 = .ok (.iload_n 1, 1) := by decide +kernel
theorem dX1_tellWind_1 : decode cX1_tellWind 1 = .ok (.ifCond .lt 19, 3) := by decide +kernel
theorem dX1_tellWind_4 : decode cX1_tellWind 4 = .ok (.iload_n 1, 1) := by decide +kernel
theorem dX1_tellWind_5 : decode cX1_tellWind 5 = .ok (.aload_n 0, 1) := by decide +kernel
theorem dX1_tellWind_6 : decode cX1_tellWind 6 = .ok (.getfield 29, 3) := by decide +kernel
theorem dX1_tellWind_9 : decode cX1_tellWind 9 = .ok (.arraylength, 1) := by decide +kernel
theorem dX1_tellWind_10 : decode cX1_tellWind 10 = .ok (.if_icmp .ge 10, 3) := by decide +kernel
theorem dX1_tellWind_13 : decode cX1_tellWind 13 = .ok (.aload_n 0, 1) := by decide +kernel
theorem dX1_tellWind_14 : decode cX1_tellWind 14 = .ok (.getfield 29, 3) := by decide +kernel
theorem dX1_tellWind_17 : decode cX1_tellWind 17 = .ok (.iload_n 1, 1) := by decide +kernel
theorem dX1_tellWind_18 : decode cX1_tellWind 18 = .ok (.iload_n 2, 1) := by decide +kernel
theorem dX1_tellWind_19 : decode cX1_tellWind 19 = .ok (.iastore, 1) := by decide +kernel
theorem dX1_tellWind_20 : decode cX1_tellWind 20 = .ok (.return_, 1) := by decide +kernel
theorem dX1_putMachine_0 : decode cX1_putMachine 0 = .ok (.aload_n 0, 1) := by decide +kernel
theorem dX1_putMachine_1 : decode cX1_putMachine 1 = .ok (.getfield 14, 3) := by decide +kernel
theorem dX1_putMachine_4 : decode cX1_putMachine 4 = .ok (.invokevirtual 79, 3) := by decide +kernel
theorem dX1_putMachine_7 : decode cX1_putMachine 7 = .ok (.istore_n 3, 1) := by decide +kernel
theorem dX1_putMachine_8 : decode cX1_putMachine 8 = .ok (.aload_n 0, 1) := by decide +kernel
theorem dX1_putMachine_9 : decode cX1_putMachine 9 = .ok (.getfield 14, 3) := by decide +kernel
theorem dX1_putMachine_12 : decode cX1_putMachine 12 = .ok (.iload_n 3, 1) := by decide +kernel
theorem dX1_putMachine_13 : decode cX1_putMachine 13 = .ok (.iconst 0, 1) := by decide +kernel
theorem dX1_putMachine_14 : decode cX1_putMachine 14 = .ok (.iload_n 1, 1) := by decide +kernel
theorem dX1_putMachine_15 : decode cX1_putMachine 15 = .ok (.invokevirtual 82, 3) := by decide +kernel
theorem dX1_putMachine_18 : decode cX1_putMachine 18 = .ok (.aload_n 0, 1) := by decide +kernel
theorem dX1_putMachine_19 : decode cX1_putMachine 19 = .ok (.getfield 14, 3) := by decide +kernel
theorem dX1_putMachine_22 : decode cX1_putMachine 22 = .ok (.iload_n 3, 1) := by decide +kernel
theorem dX1_putMachine_23 : decode cX1_putMachine 23 = .ok (.iconst 1, 1) := by decide +kernel
theorem dX1_putMachine_24 : decode cX1_putMachine 24 = .ok (.iload_n 2, 1) := by decide +kernel
theorem dX1_putMachine_25 : decode cX1_putMachine 25 = .ok (.invokevirtual 82, 3) := by decide +kernel
theorem dX1_putMachine_28 : decode cX1_putMachine 28 = .ok (.aload_n 0, 1) := by decide +kernel
theorem dX1_putMachine_29 : decode cX1_putMachine 29 = .ok (.getfield 14, 3) := by decide +kernel
theorem dX1_putMachine_32 : decode cX1_putMachine 32 = .ok (.iload_n 3, 1) := by decide +kernel
theorem dX1_putMachine_33 : decode cX1_putMachine 33 = .ok (.iconst 2, 1) := by decide +kernel
theorem dX1_putMachine_34 : decode cX1_putMachine 34 = .ok (.bipush (-5), 2) := by decide +kernel
theorem dX1_putMachine_36 : decode cX1_putMachine 36 = .ok (.invokevirtual 82, 3) := by decide +kernel
theorem dX1_putMachine_39 : decode cX1_putMachine 39 = .ok (.iload_n 3, 1) := by decide +kernel
theorem dX1_putMachine_40 : decode cX1_putMachine 40 = .ok (.ireturn, 1) := by decide +kernel
theorem dX1_borneBy_0 : decode cX1_borneBy 0 = .ok (.aload_n 0, 1) := by decide +kernel
theorem dX1_borneBy_1 : decode cX1_borneBy 1 = .ok (.getfield 14, 3) := by decide +kernel
theorem dX1_borneBy_4 : decode cX1_borneBy 4 = .ok (.iload_n 1, 1) := by decide +kernel
theorem dX1_borneBy_5 : decode cX1_borneBy 5 = .ok (.iconst 0, 1) := by decide +kernel
theorem dX1_borneBy_6 : decode cX1_borneBy 6 = .ok (.invokevirtual 70, 3) := by decide +kernel
theorem dX1_borneBy_9 : decode cX1_borneBy 9 = .ok (.istore_n 3, 1) := by decide +kernel
theorem dX1_borneBy_10 : decode cX1_borneBy 10 = .ok (.aload_n 0, 1) := by decide +kernel
theorem dX1_borneBy_11 : decode cX1_borneBy 11 = .ok (.getfield 14, 3) := by decide +kernel
theorem dX1_borneBy_14 : decode cX1_borneBy 14 = .ok (.iload_n 1, 1) := by decide +kernel
theorem dX1_borneBy_15 : decode cX1_borneBy 15 = .ok (.iconst 1, 1) := by decide +kernel
theorem dX1_borneBy_16 : decode cX1_borneBy 16 = .ok (.invokevirtual 70, 3) := by decide +kernel
theorem dX1_borneBy_19 : decode cX1_borneBy 19 = .ok (.istore 4, 2) := by decide +kernel
theorem dX1_borneBy_21 : decode cX1_borneBy 21 = .ok (.iload_n 3, 1) := by decide +kernel
theorem dX1_borneBy_22 : decode cX1_borneBy 22 = .ok (.bipush 100, 2) := by decide +kernel
theorem dX1_borneBy_24 : decode cX1_borneBy 24 = .ok (.imul, 1) := by decide +kernel
theorem dX1_borneBy_25 : decode cX1_borneBy 25 = .ok (.iload 4, 2) := by decide +kernel
theorem dX1_borneBy_27 : decode cX1_borneBy 27 = .ok (.sipush 150, 3) := by decide +kernel
theorem dX1_borneBy_30 : decode cX1_borneBy 30 = .ok (.imul, 1) := by decide +kernel
theorem dX1_borneBy_31 : decode cX1_borneBy 31 = .ok (.iadd, 1) := by decide +kernel
theorem dX1_borneBy_32 : decode cX1_borneBy 32 = .ok (.iload_n 2, 1) := by decide +kernel
theorem dX1_borneBy_33 : decode cX1_borneBy 33 = .ok (.iconst 2, 1) := by decide +kernel
theorem dX1_borneBy_34 : decode cX1_borneBy 34 = .ok (.invokestatic 86, 3) := by decide +kernel
theorem dX1_borneBy_37 : decode cX1_borneBy 37 = .ok (.idiv, 1) := by decide +kernel
theorem dX1_borneBy_38 : decode cX1_borneBy 38 = .ok (.istore 5, 2) := by decide +kernel
theorem dX1_borneBy_40 : decode cX1_borneBy 40 = .ok (.iload 5, 2) := by decide +kernel
theorem dX1_borneBy_42 : decode cX1_borneBy 42 = .ok (.iload_n 3, 1) := by decide +kernel
theorem dX1_borneBy_43 : decode cX1_borneBy 43 = .ok (.bipush 10, 2) := by decide +kernel
theorem dX1_borneBy_45 : decode cX1_borneBy 45 = .ok (.imul, 1) := by decide +kernel
theorem dX1_borneBy_46 : decode cX1_borneBy 46 = .ok (.invokestatic 37, 3) := by decide +kernel
theorem dX1_borneBy_49 : decode cX1_borneBy 49 = .ok (.ireturn, 1) := by decide +kernel
theorem dX1_canTake_0 : decode cX1_canTake 0 = .ok (.iload_n 3, 1) := by decide +kernel
theorem dX1_canTake_1 : decode cX1_canTake 1 = .ok (.aload_n 0, 1) := by decide +kernel
theorem dX1_canTake_2 : decode cX1_canTake 2 = .ok (.iload_n 1, 1) := by decide +kernel
theorem dX1_canTake_3 : decode cX1_canTake 3 = .ok (.iload 4, 2) := by decide +kernel
theorem dX1_canTake_5 : decode cX1_canTake 5 = .ok (.invokevirtual 89, 3) := by decide +kernel
theorem dX1_canTake_8 : decode cX1_canTake 8 = .ok (.if_icmp .gt 18, 3) := by decide +kernel
theorem dX1_canTake_11 : decode cX1_canTake 11 = .ok (.aload_n 0, 1) := by decide +kernel
theorem dX1_canTake_12 : decode cX1_canTake 12 = .ok (.iload_n 1, 1) := by decide +kernel
theorem dX1_canTake_13 : decode cX1_canTake 13 = .ok (.iload_n 2, 1) := by decide +kernel
theorem dX1_canTake_14 : decode cX1_canTake 14 = .ok (.invokevirtual 92, 3) := by decide +kernel
theorem dX1_canTake_17 : decode cX1_canTake 17 = .ok (.bipush (-5), 2) := by decide +kernel
theorem dX1_canTake_19 : decode cX1_canTake 19 = .ok (.if_icmp .ne 7, 3) := by decide +kernel
theorem dX1_canTake_22 : decode cX1_canTake 22 = .ok (.iconst 1, 1) := by decide +kernel
theorem dX1_canTake_23 : decode cX1_canTake 23 = .ok (.goto 4, 3) := by decide +kernel
theorem dX1_canTake_26 : decode cX1_canTake 26 = .ok (.iconst 0, 1) := by decide +kernel
theorem dX1_canTake_27 : decode cX1_canTake 27 = .ok (.ireturn, 1) := by decide +kernel
theorem dX1_pay_0 : decode cX1_pay 0 = .ok (.aload_n 0, 1) := by decide +kernel
theorem dX1_pay_1 : decode cX1_pay 1 = .ok (.getfield 20, 3) := by decide +kernel
theorem dX1_pay_4 : decode cX1_pay 4 = .ok (.iload_n 1, 1) := by decide +kernel
theorem dX1_pay_5 : decode cX1_pay 5 = .ok (.iconst 0, 1) := by decide +kernel
theorem dX1_pay_6 : decode cX1_pay 6 = .ok (.iload_n 2, 1) := by decide +kernel
theorem dX1_pay_7 : decode cX1_pay 7 = .ok (.invokevirtual 95, 3) := by decide +kernel
theorem dX1_pay_10 : decode cX1_pay 10 = .ok (.return_, 1) := by decide +kernel
theorem dX1_putBooking_0 : decode cX1_putBooking 0 = .ok (.aload_n 0, 1) := by decide +kernel
theorem dX1_putBooking_1 : decode cX1_putBooking 1 = .ok (.getfield 23, 3) := by decide +kernel
theorem dX1_putBooking_4 : decode cX1_putBooking 4 = .ok (.invokevirtual 79, 3) := by decide +kernel
theorem dX1_putBooking_7 : decode cX1_putBooking 7 = .ok (.istore 4, 2) := by decide +kernel
theorem dX1_putBooking_9 : decode cX1_putBooking 9 = .ok (.aload_n 0, 1) := by decide +kernel
theorem dX1_putBooking_10 : decode cX1_putBooking 10 = .ok (.getfield 23, 3) := by decide +kernel
theorem dX1_putBooking_13 : decode cX1_putBooking 13 = .ok (.iload 4, 2) := by decide +kernel
theorem dX1_putBooking_15 : decode cX1_putBooking 15 = .ok (.iconst 0, 1) := by decide +kernel
theorem dX1_putBooking_16 : decode cX1_putBooking 16 = .ok (.iload_n 1, 1) := by decide +kernel
theorem dX1_putBooking_17 : decode cX1_putBooking 17 = .ok (.invokevirtual 82, 3) := by decide +kernel
theorem dX1_putBooking_20 : decode cX1_putBooking 20 = .ok (.aload_n 0, 1) := by decide +kernel
theorem dX1_putBooking_21 : decode cX1_putBooking 21 = .ok (.getfield 23, 3) := by decide +kernel
theorem dX1_putBooking_24 : decode cX1_putBooking 24 = .ok (.iload 4, 2) := by decide +kernel
theorem dX1_putBooking_26 : decode cX1_putBooking 26 = .ok (.iconst 3, 1) := by decide +kernel
theorem dX1_putBooking_27 : decode cX1_putBooking 27 = .ok (.iload_n 2, 1) := by decide +kernel
theorem dX1_putBooking_28 : decode cX1_putBooking 28 = .ok (.invokevirtual 82, 3) := by decide +kernel
theorem dX1_putBooking_31 : decode cX1_putBooking 31 = .ok (.aload_n 0, 1) := by decide +kernel
theorem dX1_putBooking_32 : decode cX1_putBooking 32 = .ok (.getfield 23, 3) := by decide +kernel
theorem dX1_putBooking_35 : decode cX1_putBooking 35 = .ok (.iload 4, 2) := by decide +kernel
theorem dX1_putBooking_37 : decode cX1_putBooking 37 = .ok (.iconst 4, 1) := by decide +kernel
theorem dX1_putBooking_38 : decode cX1_putBooking 38 = .ok (.iload_n 3, 1) := by decide +kernel
theorem dX1_putBooking_39 : decode cX1_putBooking 39 = .ok (.invokevirtual 82, 3) := by decide +kernel
theorem dX1_putBooking_42 : decode cX1_putBooking 42 = .ok (.aload_n 0, 1) := by decide +kernel
theorem dX1_putBooking_43 : decode cX1_putBooking 43 = .ok (.getfield 23, 3) := by decide +kernel
theorem dX1_putBooking_46 : decode cX1_putBooking 46 = .ok (.iload 4, 2) := by decide +kernel
theorem dX1_putBooking_48 : decode cX1_putBooking 48 = .ok (.iconst 5, 1) := by decide +kernel
theorem dX1_putBooking_49 : decode cX1_putBooking 49 = .ok (.iconst 0, 1) := by decide +kernel
theorem dX1_putBooking_50 : decode cX1_putBooking 50 = .ok (.invokevirtual 82, 3) := by decide +kernel
theorem dX1_putBooking_53 : decode cX1_putBooking 53 = .ok (.iload 4, 2) := by decide +kernel
theorem dX1_putBooking_55 : decode cX1_putBooking 55 = .ok (.ireturn, 1) := by decide +kernel
theorem dX1_place_0 : decode cX1_place 0 = .ok (.aload_n 0, 1) := by decide +kernel
theorem dX1_place_1 : decode cX1_place 1 = .ok (.getfield 23, 3) := by decide +kernel
theorem dX1_place_4 : decode cX1_place 4 = .ok (.iload_n 1, 1) := by decide +kernel
theorem dX1_place_5 : decode cX1_place 5 = .ok (.iconst 1, 1) := by decide +kernel
theorem dX1_place_6 : decode cX1_place 6 = .ok (.iload_n 2, 1) := by decide +kernel
theorem dX1_place_7 : decode cX1_place 7 = .ok (.invokevirtual 82, 3) := by decide +kernel
theorem dX1_place_10 : decode cX1_place 10 = .ok (.aload_n 0, 1) := by decide +kernel
theorem dX1_place_11 : decode cX1_place 11 = .ok (.getfield 23, 3) := by decide +kernel
theorem dX1_place_14 : decode cX1_place 14 = .ok (.iload_n 1, 1) := by decide +kernel
theorem dX1_place_15 : decode cX1_place 15 = .ok (.iconst 2, 1) := by decide +kernel
theorem dX1_place_16 : decode cX1_place 16 = .ok (.iload_n 3, 1) := by decide +kernel
theorem dX1_place_17 : decode cX1_place 17 = .ok (.invokevirtual 82, 3) := by decide +kernel
theorem dX1_place_20 : decode cX1_place 20 = .ok (.aload_n 0, 1) := by decide +kernel
theorem dX1_place_21 : decode cX1_place 21 = .ok (.getfield 23, 3) := by decide +kernel
theorem dX1_place_24 : decode cX1_place 24 = .ok (.iload_n 1, 1) := by decide +kernel
theorem dX1_place_25 : decode cX1_place 25 = .ok (.bipush 6, 2) := by decide +kernel
theorem dX1_place_27 : decode cX1_place 27 = .ok (.aload_n 0, 1) := by decide +kernel
theorem dX1_place_28 : decode cX1_place 28 = .ok (.iload_n 3, 1) := by decide +kernel
theorem dX1_place_29 : decode cX1_place 29 = .ok (.invokevirtual 98, 3) := by decide +kernel
theorem dX1_place_32 : decode cX1_place 32 = .ok (.invokevirtual 82, 3) := by decide +kernel
theorem dX1_place_35 : decode cX1_place 35 = .ok (.return_, 1) := by decide +kernel
theorem dX1_isBooked_0 : decode cX1_isBooked 0 = .ok (.aload_n 0, 1) := by decide +kernel
theorem dX1_isBooked_1 : decode cX1_isBooked 1 = .ok (.getfield 23, 3) := by decide +kernel
theorem dX1_isBooked_4 : decode cX1_isBooked 4 = .ok (.iload_n 1, 1) := by decide +kernel
theorem dX1_isBooked_5 : decode cX1_isBooked 5 = .ok (.iconst 5, 1) := by decide +kernel
theorem dX1_isBooked_6 : decode cX1_isBooked 6 = .ok (.invokevirtual 70, 3) := by decide +kernel
theorem dX1_isBooked_9 : decode cX1_isBooked 9 = .ok (.ifCond .ne 7, 3) := by decide +kernel
theorem dX1_isBooked_12 : decode cX1_isBooked 12 = .ok (.iconst 1, 1) := by decide +kernel
theorem dX1_isBooked_13 : decode cX1_isBooked 13 = .ok (.goto 4, 3) := by decide +kernel
theorem dX1_isBooked_16 : decode cX1_isBooked 16 = .ok (.iconst 0, 1) := by decide +kernel
theorem dX1_isBooked_17 : decode cX1_isBooked 17 = .ok (.ireturn, 1) := by decide +kernel
theorem dX1_bookingFor_0 : decode cX1_bookingFor 0 = .ok (.iconst 0, 1) := by decide +kernel
theorem dX1_bookingFor_1 : decode cX1_bookingFor 1 = .ok (.istore_n 3, 1) := by decide +kernel
theorem dX1_bookingFor_2 : decode cX1_bookingFor 2 = .ok (.iload_n 3, 1) := by decide +kernel
theorem dX1_bookingFor_3 : decode cX1_bookingFor 3 = .ok (.aload_n 0, 1) := by decide +kernel
theorem dX1_bookingFor_4 : decode cX1_bookingFor 4 = .ok (.getfield 23, 3) := by decide +kernel
theorem dX1_bookingFor_7 : decode cX1_bookingFor 7 = .ok (.invokevirtual 66, 3) := by decide +kernel
theorem dX1_bookingFor_10 : decode cX1_bookingFor 10 = .ok (.if_icmp .ge 49, 3) := by decide +kernel
theorem dX1_bookingFor_13 : decode cX1_bookingFor 13 = .ok (.aload_n 0, 1) := by decide +kernel
theorem dX1_bookingFor_14 : decode cX1_bookingFor 14 = .ok (.getfield 23, 3) := by decide +kernel
theorem dX1_bookingFor_17 : decode cX1_bookingFor 17 = .ok (.iload_n 3, 1) := by decide +kernel
theorem dX1_bookingFor_18 : decode cX1_bookingFor 18 = .ok (.iconst 5, 1) := by decide +kernel
theorem dX1_bookingFor_19 : decode cX1_bookingFor 19 = .ok (.invokevirtual 70, 3) := by decide +kernel
theorem dX1_bookingFor_22 : decode cX1_bookingFor 22 = .ok (.ifCond .ne 31, 3) := by decide +kernel
theorem dX1_bookingFor_25 : decode cX1_bookingFor 25 = .ok (.aload_n 0, 1) := by decide +kernel
theorem dX1_bookingFor_26 : decode cX1_bookingFor 26 = .ok (.getfield 23, 3) := by decide +kernel
theorem dX1_bookingFor_29 : decode cX1_bookingFor 29 = .ok (.iload_n 3, 1) := by decide +kernel
theorem dX1_bookingFor_30 : decode cX1_bookingFor 30 = .ok (.iconst 1, 1) := by decide +kernel
theorem dX1_bookingFor_31 : decode cX1_bookingFor 31 = .ok (.invokevirtual 70, 3) := by decide +kernel
theorem dX1_bookingFor_34 : decode cX1_bookingFor 34 = .ok (.iload_n 1, 1) := by decide +kernel
theorem dX1_bookingFor_35 : decode cX1_bookingFor 35 = .ok (.if_icmp .ne 18, 3) := by decide +kernel
theorem dX1_bookingFor_38 : decode cX1_bookingFor 38 = .ok (.aload_n 0, 1) := by decide +kernel
theorem dX1_bookingFor_39 : decode cX1_bookingFor 39 = .ok (.getfield 23, 3) := by decide +kernel
theorem dX1_bookingFor_42 : decode cX1_bookingFor 42 = .ok (.iload_n 3, 1) := by decide +kernel
theorem dX1_bookingFor_43 : decode cX1_bookingFor 43 = .ok (.iconst 2, 1) := by decide +kernel
theorem dX1_bookingFor_44 : decode cX1_bookingFor 44 = .ok (.invokevirtual 70, 3) := by decide +kernel
theorem dX1_bookingFor_47 : decode cX1_bookingFor 47 = .ok (.iload_n 2, 1) := by decide +kernel
theorem dX1_bookingFor_48 : decode cX1_bookingFor 48 = .ok (.if_icmp .ne 5, 3) := by decide +kernel
theorem dX1_bookingFor_51 : decode cX1_bookingFor 51 = .ok (.iload_n 3, 1) := by decide +kernel
theorem dX1_bookingFor_52 : decode cX1_bookingFor 52 = .ok (.ireturn, 1) := by decide +kernel
theorem dX1_bookingFor_53 : decode cX1_bookingFor 53 = .ok (.iinc 3 1, 3) := by decide +kernel
theorem dX1_bookingFor_56 : decode cX1_bookingFor 56 = .ok (.goto (-54), 3) := by decide +kernel
theorem dX1_bookingFor_59 : decode cX1_bookingFor 59 = .ok (.bipush (-5), 2) := by decide +kernel
theorem dX1_bookingFor_61 : decode cX1_bookingFor 61 = .ok (.ireturn, 1) := by decide +kernel
theorem dX1_limitOf_0 : decode cX1_limitOf 0 = .ok (.aload_n 0, 1) := by decide +kernel
theorem dX1_limitOf_1 : decode cX1_limitOf 1 = .ok (.getfield 23, 3) := by decide +kernel
theorem dX1_limitOf_4 : decode cX1_limitOf 4 = .ok (.iload_n 1, 1) := by decide +kernel
theorem dX1_limitOf_5 : decode cX1_limitOf 5 = .ok (.iconst 3, 1) := by decide +kernel
theorem dX1_limitOf_6 : decode cX1_limitOf 6 = .ok (.invokevirtual 70, 3) := by decide +kernel
theorem dX1_limitOf_9 : decode cX1_limitOf 9 = .ok (.aload_n 0, 1) := by decide +kernel
theorem dX1_limitOf_10 : decode cX1_limitOf 10 = .ok (.getfield 23, 3) := by decide +kernel
theorem dX1_limitOf_13 : decode cX1_limitOf 13 = .ok (.iload_n 1, 1) := by decide +kernel
theorem dX1_limitOf_14 : decode cX1_limitOf 14 = .ok (.iconst 4, 1) := by decide +kernel
theorem dX1_limitOf_15 : decode cX1_limitOf 15 = .ok (.invokevirtual 70, 3) := by decide +kernel
theorem dX1_limitOf_18 : decode cX1_limitOf 18 = .ok (.invokestatic 102, 3) := by decide +kernel
theorem dX1_limitOf_21 : decode cX1_limitOf 21 = .ok (.ireturn, 1) := by decide +kernel
theorem dX1_bearsLiftOf_0 : decode cX1_bearsLiftOf 0 = .ok (.aload_n 0, 1) := by decide +kernel
theorem dX1_bearsLiftOf_1 : decode cX1_bearsLiftOf 1 = .ok (.getfield 23, 3) := by decide +kernel
theorem dX1_bearsLiftOf_4 : decode cX1_bearsLiftOf 4 = .ok (.iload_n 2, 1) := by decide +kernel
theorem dX1_bearsLiftOf_5 : decode cX1_bearsLiftOf 5 = .ok (.iconst 3, 1) := by decide +kernel
theorem dX1_bearsLiftOf_6 : decode cX1_bearsLiftOf 6 = .ok (.invokevirtual 70, 3) := by decide +kernel
theorem dX1_bearsLiftOf_9 : decode cX1_bearsLiftOf 9 = .ok (.aload_n 0, 1) := by decide +kernel
theorem dX1_bearsLiftOf_10 : decode cX1_bearsLiftOf 10 = .ok (.iload_n 1, 1) := by decide +kernel
theorem dX1_bearsLiftOf_11 : decode cX1_bearsLiftOf 11 = .ok (.aload_n 0, 1) := by decide +kernel
theorem dX1_bearsLiftOf_12 : decode cX1_bearsLiftOf 12 = .ok (.getfield 23, 3) := by decide +kernel
theorem dX1_bearsLiftOf_15 : decode cX1_bearsLiftOf 15 = .ok (.iload_n 2, 1) := by decide +kernel
theorem dX1_bearsLiftOf_16 : decode cX1_bearsLiftOf 16 = .ok (.iconst 4, 1) := by decide +kernel
theorem dX1_bearsLiftOf_17 : decode cX1_bearsLiftOf 17 = .ok (.invokevirtual 70, 3) := by decide +kernel
theorem dX1_bearsLiftOf_20 : decode cX1_bearsLiftOf 20 = .ok (.invokevirtual 89, 3) := by decide +kernel
theorem dX1_bearsLiftOf_23 : decode cX1_bearsLiftOf 23 = .ok (.if_icmp .gt 7, 3) := by decide +kernel
theorem dX1_bearsLiftOf_26 : decode cX1_bearsLiftOf 26 = .ok (.iconst 1, 1) := by decide +kernel
theorem dX1_bearsLiftOf_27 : decode cX1_bearsLiftOf 27 = .ok (.goto 4, 3) := by decide +kernel
theorem dX1_bearsLiftOf_30 : decode cX1_bearsLiftOf 30 = .ok (.iconst 0, 1) := by decide +kernel
theorem dX1_bearsLiftOf_31 : decode cX1_bearsLiftOf 31 = .ok (.ireturn, 1) := by decide +kernel
theorem dX1_mustStandBy_0 : decode cX1_mustStandBy 0 = .ok (.aload_n 0, 1) := by decide +kernel
theorem dX1_mustStandBy_1 : decode cX1_mustStandBy 1 = .ok (.aload_n 0, 1) := by decide +kernel
theorem dX1_mustStandBy_2 : decode cX1_mustStandBy 2 = .ok (.getfield 23, 3) := by decide +kernel
theorem dX1_mustStandBy_5 : decode cX1_mustStandBy 5 = .ok (.iload_n 1, 1) := by decide +kernel
theorem dX1_mustStandBy_6 : decode cX1_mustStandBy 6 = .ok (.iconst 1, 1) := by decide +kernel
theorem dX1_mustStandBy_7 : decode cX1_mustStandBy 7 = .ok (.invokevirtual 70, 3) := by decide +kernel
theorem dX1_mustStandBy_10 : decode cX1_mustStandBy 10 = .ok (.iload_n 1, 1) := by decide +kernel
theorem dX1_mustStandBy_11 : decode cX1_mustStandBy 11 = .ok (.invokevirtual 105, 3) := by decide +kernel
theorem dX1_mustStandBy_14 : decode cX1_mustStandBy 14 = .ok (.ifCond .eq 24, 3) := by decide +kernel
theorem dX1_mustStandBy_17 : decode cX1_mustStandBy 17 = .ok (.aload_n 0, 1) := by decide +kernel
theorem dX1_mustStandBy_18 : decode cX1_mustStandBy 18 = .ok (.aload_n 0, 1) := by decide +kernel
theorem dX1_mustStandBy_19 : decode cX1_mustStandBy 19 = .ok (.getfield 23, 3) := by decide +kernel
theorem dX1_mustStandBy_22 : decode cX1_mustStandBy 22 = .ok (.iload_n 1, 1) := by decide +kernel
theorem dX1_mustStandBy_23 : decode cX1_mustStandBy 23 = .ok (.iconst 2, 1) := by decide +kernel
theorem dX1_mustStandBy_24 : decode cX1_mustStandBy 24 = .ok (.invokevirtual 70, 3) := by decide +kernel
theorem dX1_mustStandBy_27 : decode cX1_mustStandBy 27 = .ok (.invokevirtual 98, 3) := by decide +kernel
theorem dX1_mustStandBy_30 : decode cX1_mustStandBy 30 = .ok (.aload_n 0, 1) := by decide +kernel
theorem dX1_mustStandBy_31 : decode cX1_mustStandBy 31 = .ok (.iload_n 1, 1) := by decide +kernel
theorem dX1_mustStandBy_32 : decode cX1_mustStandBy 32 = .ok (.invokevirtual 109, 3) := by decide +kernel
theorem dX1_mustStandBy_35 : decode cX1_mustStandBy 35 = .ok (.if_icmp .le 7, 3) := by decide +kernel
theorem dX1_mustStandBy_38 : decode cX1_mustStandBy 38 = .ok (.iconst 1, 1) := by decide +kernel
theorem dX1_mustStandBy_39 : decode cX1_mustStandBy 39 = .ok (.goto 4, 3) := by decide +kernel
theorem dX1_mustStandBy_42 : decode cX1_mustStandBy 42 = .ok (.iconst 0, 1) := by decide +kernel
theorem dX1_mustStandBy_43 : decode cX1_mustStandBy 43 = .ok (.ireturn, 1) := by decide +kernel
theorem dX1_causerOf_0 : decode cX1_causerOf 0 = .ok (.aload_n 0, 1) := by decide +kernel
theorem dX1_causerOf_1 : decode cX1_causerOf 1 = .ok (.getfield 23, 3) := by decide +kernel
theorem dX1_causerOf_4 : decode cX1_causerOf 4 = .ok (.iload_n 1, 1) := by decide +kernel
theorem dX1_causerOf_5 : decode cX1_causerOf 5 = .ok (.iconst 1, 1) := by decide +kernel
theorem dX1_causerOf_6 : decode cX1_causerOf 6 = .ok (.invokevirtual 70, 3) := by decide +kernel
theorem dX1_causerOf_9 : decode cX1_causerOf 9 = .ok (.istore_n 2, 1) := by decide +kernel
theorem dX1_causerOf_10 : decode cX1_causerOf 10 = .ok (.aload_n 0, 1) := by decide +kernel
theorem dX1_causerOf_11 : decode cX1_causerOf 11 = .ok (.iload_n 2, 1) := by decide +kernel
theorem dX1_causerOf_12 : decode cX1_causerOf 12 = .ok (.iload_n 1, 1) := by decide +kernel
theorem dX1_causerOf_13 : decode cX1_causerOf 13 = .ok (.invokevirtual 105, 3) := by decide +kernel
theorem dX1_causerOf_16 : decode cX1_causerOf 16 = .ok (.ifCond .ne 13, 3) := by decide +kernel
theorem dX1_causerOf_19 : decode cX1_causerOf 19 = .ok (.aload_n 0, 1) := by decide +kernel
theorem dX1_causerOf_20 : decode cX1_causerOf 20 = .ok (.getfield 14, 3) := by decide +kernel
theorem dX1_causerOf_23 : decode cX1_causerOf 23 = .ok (.iload_n 2, 1) := by decide +kernel
theorem dX1_causerOf_24 : decode cX1_causerOf 24 = .ok (.iconst 2, 1) := by decide +kernel
theorem dX1_causerOf_25 : decode cX1_causerOf 25 = .ok (.invokevirtual 70, 3) := by decide +kernel
theorem dX1_causerOf_28 : decode cX1_causerOf 28 = .ok (.ireturn, 1) := by decide +kernel
theorem dX1_causerOf_29 : decode cX1_causerOf 29 = .ok (.aload_n 0, 1) := by decide +kernel
theorem dX1_causerOf_30 : decode cX1_causerOf 30 = .ok (.getfield 23, 3) := by decide +kernel
theorem dX1_causerOf_33 : decode cX1_causerOf 33 = .ok (.iload_n 1, 1) := by decide +kernel
theorem dX1_causerOf_34 : decode cX1_causerOf 34 = .ok (.bipush 6, 2) := by decide +kernel
theorem dX1_causerOf_36 : decode cX1_causerOf 36 = .ok (.invokevirtual 70, 3) := by decide +kernel
theorem dX1_causerOf_39 : decode cX1_causerOf 39 = .ok (.aload_n 0, 1) := by decide +kernel
theorem dX1_causerOf_40 : decode cX1_causerOf 40 = .ok (.iload_n 1, 1) := by decide +kernel
theorem dX1_causerOf_41 : decode cX1_causerOf 41 = .ok (.invokevirtual 109, 3) := by decide +kernel
theorem dX1_causerOf_44 : decode cX1_causerOf 44 = .ok (.if_icmp .le 7, 3) := by decide +kernel
theorem dX1_causerOf_47 : decode cX1_causerOf 47 = .ok (.iconst 1, 1) := by decide +kernel
theorem dX1_causerOf_48 : decode cX1_causerOf 48 = .ok (.goto 4, 3) := by decide +kernel
theorem dX1_causerOf_51 : decode cX1_causerOf 51 = .ok (.iconst 0, 1) := by decide +kernel
theorem dX1_causerOf_52 : decode cX1_causerOf 52 = .ok (.istore_n 3, 1) := by decide +kernel
theorem dX1_causerOf_53 : decode cX1_causerOf 53 = .ok (.iload_n 3, 1) := by decide +kernel
theorem dX1_causerOf_54 : decode cX1_causerOf 54 = .ok (.ifCond .eq 15, 3) := by decide +kernel
theorem dX1_causerOf_57 : decode cX1_causerOf 57 = .ok (.aload_n 0, 1) := by decide +kernel
theorem dX1_causerOf_58 : decode cX1_causerOf 58 = .ok (.getfield 23, 3) := by decide +kernel
theorem dX1_causerOf_61 : decode cX1_causerOf 61 = .ok (.iload_n 1, 1) := by decide +kernel
theorem dX1_causerOf_62 : decode cX1_causerOf 62 = .ok (.iconst 0, 1) := by decide +kernel
theorem dX1_causerOf_63 : decode cX1_causerOf 63 = .ok (.invokevirtual 70, 3) := by decide +kernel
theorem dX1_causerOf_66 : decode cX1_causerOf 66 = .ok (.goto 5, 3) := by decide +kernel
theorem dX1_causerOf_69 : decode cX1_causerOf 69 = .ok (.bipush (-5), 2) := by decide +kernel
theorem dX1_causerOf_71 : decode cX1_causerOf 71 = .ok (.ireturn, 1) := by decide +kernel
theorem dX1_putMove_0 : decode cX1_putMove 0 = .ok (.aload_n 0, 1) := by decide +kernel
theorem dX1_putMove_1 : decode cX1_putMove 1 = .ok (.getfield 26, 3) := by decide +kernel
theorem dX1_putMove_4 : decode cX1_putMove 4 = .ok (.invokevirtual 79, 3) := by decide +kernel
theorem dX1_putMove_7 : decode cX1_putMove 7 = .ok (.istore 6, 2) := by decide +kernel
theorem dX1_putMove_9 : decode cX1_putMove 9 = .ok (.aload_n 0, 1) := by decide +kernel
theorem dX1_putMove_10 : decode cX1_putMove 10 = .ok (.getfield 26, 3) := by decide +kernel
theorem dX1_putMove_13 : decode cX1_putMove 13 = .ok (.iload 6, 2) := by decide +kernel
theorem dX1_putMove_15 : decode cX1_putMove 15 = .ok (.iconst 0, 1) := by decide +kernel
theorem dX1_putMove_16 : decode cX1_putMove 16 = .ok (.iload_n 1, 1) := by decide +kernel
theorem dX1_putMove_17 : decode cX1_putMove 17 = .ok (.invokevirtual 82, 3) := by decide +kernel
theorem dX1_putMove_20 : decode cX1_putMove 20 = .ok (.aload_n 0, 1) := by decide +kernel
theorem dX1_putMove_21 : decode cX1_putMove 21 = .ok (.getfield 26, 3) := by decide +kernel
theorem dX1_putMove_24 : decode cX1_putMove 24 = .ok (.iload 6, 2) := by decide +kernel
theorem dX1_putMove_26 : decode cX1_putMove 26 = .ok (.iconst 1, 1) := by decide +kernel
theorem dX1_putMove_27 : decode cX1_putMove 27 = .ok (.iload_n 2, 1) := by decide +kernel
theorem dX1_putMove_28 : decode cX1_putMove 28 = .ok (.invokevirtual 82, 3) := by decide +kernel
theorem dX1_putMove_31 : decode cX1_putMove 31 = .ok (.aload_n 0, 1) := by decide +kernel
theorem dX1_putMove_32 : decode cX1_putMove 32 = .ok (.getfield 26, 3) := by decide +kernel
theorem dX1_putMove_35 : decode cX1_putMove 35 = .ok (.iload 6, 2) := by decide +kernel
theorem dX1_putMove_37 : decode cX1_putMove 37 = .ok (.iconst 2, 1) := by decide +kernel
theorem dX1_putMove_38 : decode cX1_putMove 38 = .ok (.iload_n 3, 1) := by decide +kernel
theorem dX1_putMove_39 : decode cX1_putMove 39 = .ok (.invokevirtual 82, 3) := by decide +kernel
theorem dX1_putMove_42 : decode cX1_putMove 42 = .ok (.aload_n 0, 1) := by decide +kernel
theorem dX1_putMove_43 : decode cX1_putMove 43 = .ok (.getfield 26, 3) := by decide +kernel
theorem dX1_putMove_46 : decode cX1_putMove 46 = .ok (.iload 6, 2) := by decide +kernel
theorem dX1_putMove_48 : decode cX1_putMove 48 = .ok (.iconst 3, 1) := by decide +kernel
theorem dX1_putMove_49 : decode cX1_putMove 49 = .ok (.iload 4, 2) := by decide +kernel
theorem dX1_putMove_51 : decode cX1_putMove 51 = .ok (.invokevirtual 82, 3) := by decide +kernel
theorem dX1_putMove_54 : decode cX1_putMove 54 = .ok (.aload_n 0, 1) := by decide +kernel
theorem dX1_putMove_55 : decode cX1_putMove 55 = .ok (.getfield 26, 3) := by decide +kernel
theorem dX1_putMove_58 : decode cX1_putMove 58 = .ok (.iload 6, 2) := by decide +kernel
theorem dX1_putMove_60 : decode cX1_putMove 60 = .ok (.iconst 4, 1) := by decide +kernel
theorem dX1_putMove_61 : decode cX1_putMove 61 = .ok (.iload 5, 2) := by decide +kernel
theorem dX1_putMove_63 : decode cX1_putMove 63 = .ok (.invokevirtual 82, 3) := by decide +kernel
theorem dX1_putMove_66 : decode cX1_putMove 66 = .ok (.iload 6, 2) := by decide +kernel
theorem dX1_putMove_68 : decode cX1_putMove 68 = .ok (.ireturn, 1) := by decide +kernel
theorem dX1_nextMoveUpTo_0 : decode cX1_nextMoveUpTo 0 = .ok (.bipush (-5), 2) := by decide +kernel
theorem dX1_nextMoveUpTo_2 : decode cX1_nextMoveUpTo 2 = .ok (.istore_n 2, 1) := by decide +kernel
theorem dX1_nextMoveUpTo_3 : decode cX1_nextMoveUpTo 3 = .ok (.iload_n 1, 1) := by decide +kernel
theorem dX1_nextMoveUpTo_4 : decode cX1_nextMoveUpTo 4 = .ok (.iconst 1, 1) := by decide +kernel
theorem dX1_nextMoveUpTo_5 : decode cX1_nextMoveUpTo 5 = .ok (.iadd, 1) := by decide +kernel
theorem dX1_nextMoveUpTo_6 : decode cX1_nextMoveUpTo 6 = .ok (.istore_n 3, 1) := by decide +kernel
theorem dX1_nextMoveUpTo_7 : decode cX1_nextMoveUpTo 7 = .ok (.iconst 0, 1) := by decide +kernel
theorem dX1_nextMoveUpTo_8 : decode cX1_nextMoveUpTo 8 = .ok (.istore 4, 2) := by decide +kernel
theorem dX1_nextMoveUpTo_10 : decode cX1_nextMoveUpTo 10 = .ok (.iload 4, 2) := by decide +kernel
theorem dX1_nextMoveUpTo_12 : decode cX1_nextMoveUpTo 12 = .ok (.aload_n 0, 1) := by decide +kernel
theorem dX1_nextMoveUpTo_13 : decode cX1_nextMoveUpTo 13 = .ok (.getfield 26, 3) := by decide +kernel
theorem dX1_nextMoveUpTo_16 : decode cX1_nextMoveUpTo 16 = .ok (.invokevirtual 66, 3) := by decide +kernel
theorem dX1_nextMoveUpTo_19 : decode cX1_nextMoveUpTo 19 = .ok (.if_icmp .ge 37, 3) := by decide +kernel
theorem dX1_nextMoveUpTo_22 : decode cX1_nextMoveUpTo 22 = .ok (.aload_n 0, 1) := by decide +kernel
theorem dX1_nextMoveUpTo_23 : decode cX1_nextMoveUpTo 23 = .ok (.getfield 26, 3) := by decide +kernel
theorem dX1_nextMoveUpTo_26 : decode cX1_nextMoveUpTo 26 = .ok (.iload 4, 2) := by decide +kernel
theorem dX1_nextMoveUpTo_28 : decode cX1_nextMoveUpTo 28 = .ok (.iconst 4, 1) := by decide +kernel
theorem dX1_nextMoveUpTo_29 : decode cX1_nextMoveUpTo 29 = .ok (.invokevirtual 70, 3) := by decide +kernel
theorem dX1_nextMoveUpTo_32 : decode cX1_nextMoveUpTo 32 = .ok (.iload_n 3, 1) := by decide +kernel
theorem dX1_nextMoveUpTo_33 : decode cX1_nextMoveUpTo 33 = .ok (.if_icmp .ge 17, 3) := by decide +kernel
theorem dX1_nextMoveUpTo_36 : decode cX1_nextMoveUpTo 36 = .ok (.iload 4, 2) := by decide +kernel
theorem dX1_nextMoveUpTo_38 : decode cX1_nextMoveUpTo 38 = .ok (.istore_n 2, 1) := by decide +kernel
theorem dX1_nextMoveUpTo_39 : decode cX1_nextMoveUpTo 39 = .ok (.aload_n 0, 1) := by decide +kernel
theorem dX1_nextMoveUpTo_40 : decode cX1_nextMoveUpTo 40 = .ok (.getfield 26, 3) := by decide +kernel
theorem dX1_nextMoveUpTo_43 : decode cX1_nextMoveUpTo 43 = .ok (.iload 4, 2) := by decide +kernel
theorem dX1_nextMoveUpTo_45 : decode cX1_nextMoveUpTo 45 = .ok (.iconst 4, 1) := by decide +kernel
theorem dX1_nextMoveUpTo_46 : decode cX1_nextMoveUpTo 46 = .ok (.invokevirtual 70, 3) := by decide +kernel
theorem dX1_nextMoveUpTo_49 : decode cX1_nextMoveUpTo 49 = .ok (.istore_n 3, 1) := by decide +kernel
theorem dX1_nextMoveUpTo_50 : decode cX1_nextMoveUpTo 50 = .ok (.iinc 4 1, 3) := by decide +kernel
theorem dX1_nextMoveUpTo_53 : decode cX1_nextMoveUpTo 53 = .ok (.goto (-43), 3) := by decide +kernel
theorem dX1_nextMoveUpTo_56 : decode cX1_nextMoveUpTo 56 = .ok (.iload_n 2, 1) := by decide +kernel
theorem dX1_nextMoveUpTo_57 : decode cX1_nextMoveUpTo 57 = .ok (.ireturn, 1) := by decide +kernel
theorem dX1_closeMovesUpTo_0 : decode cX1_closeMovesUpTo 0 = .ok (.iconst 0, 1) := by decide +kernel
theorem dX1_closeMovesUpTo_1 : decode cX1_closeMovesUpTo 1 = .ok (.istore_n 2, 1) := by decide +kernel
theorem dX1_closeMovesUpTo_2 : decode cX1_closeMovesUpTo 2 = .ok (.iload_n 2, 1) := by decide +kernel
theorem dX1_closeMovesUpTo_3 : decode cX1_closeMovesUpTo 3 = .ok (.bipush 10, 2) := by decide +kernel
theorem dX1_closeMovesUpTo_5 : decode cX1_closeMovesUpTo 5 = .ok (.if_icmp .ge 27, 3) := by decide +kernel
theorem dX1_closeMovesUpTo_8 : decode cX1_closeMovesUpTo 8 = .ok (.aload_n 0, 1) := by decide +kernel
theorem dX1_closeMovesUpTo_9 : decode cX1_closeMovesUpTo 9 = .ok (.iload_n 1, 1) := by decide +kernel
theorem dX1_closeMovesUpTo_10 : decode cX1_closeMovesUpTo 10 = .ok (.invokevirtual 112, 3) := by decide +kernel
theorem dX1_closeMovesUpTo_13 : decode cX1_closeMovesUpTo 13 = .ok (.istore_n 3, 1) := by decide +kernel
theorem dX1_closeMovesUpTo_14 : decode cX1_closeMovesUpTo 14 = .ok (.iload_n 3, 1) := by decide +kernel
theorem dX1_closeMovesUpTo_15 : decode cX1_closeMovesUpTo 15 = .ok (.bipush (-5), 2) := by decide +kernel
theorem dX1_closeMovesUpTo_17 : decode cX1_closeMovesUpTo 17 = .ok (.if_icmp .ne 4, 3) := by decide +kernel
theorem dX1_closeMovesUpTo_20 : decode cX1_closeMovesUpTo 20 = .ok (.return_, 1) := by decide +kernel
theorem dX1_closeMovesUpTo_21 : decode cX1_closeMovesUpTo 21 = .ok (.aload_n 0, 1) := by decide +kernel
theorem dX1_closeMovesUpTo_22 : decode cX1_closeMovesUpTo 22 = .ok (.iload_n 3, 1) := by decide +kernel
theorem dX1_closeMovesUpTo_23 : decode cX1_closeMovesUpTo 23 = .ok (.invokevirtual 115, 3) := by decide +kernel
theorem dX1_closeMovesUpTo_26 : decode cX1_closeMovesUpTo 26 = .ok (.iinc 2 1, 3) := by decide +kernel
theorem dX1_closeMovesUpTo_29 : decode cX1_closeMovesUpTo 29 = .ok (.goto (-27), 3) := by decide +kernel
theorem dX1_closeMovesUpTo_32 : decode cX1_closeMovesUpTo 32 = .ok (.return_, 1) := by decide +kernel
theorem dX1_closeMove_0 : decode cX1_closeMove 0 = .ok (.aload_n 0, 1) := by decide +kernel
theorem dX1_closeMove_1 : decode cX1_closeMove 1 = .ok (.getfield 26, 3) := by decide +kernel
theorem dX1_closeMove_4 : decode cX1_closeMove 4 = .ok (.iload_n 1, 1) := by decide +kernel
theorem dX1_closeMove_5 : decode cX1_closeMove 5 = .ok (.iconst 0, 1) := by decide +kernel
theorem dX1_closeMove_6 : decode cX1_closeMove 6 = .ok (.invokevirtual 70, 3) := by decide +kernel
theorem dX1_closeMove_9 : decode cX1_closeMove 9 = .ok (.istore_n 2, 1) := by decide +kernel
theorem dX1_closeMove_10 : decode cX1_closeMove 10 = .ok (.aload_n 0, 1) := by decide +kernel
theorem dX1_closeMove_11 : decode cX1_closeMove 11 = .ok (.getfield 26, 3) := by decide +kernel
theorem dX1_closeMove_14 : decode cX1_closeMove 14 = .ok (.iload_n 1, 1) := by decide +kernel
theorem dX1_closeMove_15 : decode cX1_closeMove 15 = .ok (.iconst 1, 1) := by decide +kernel
theorem dX1_closeMove_16 : decode cX1_closeMove 16 = .ok (.invokevirtual 70, 3) := by decide +kernel
theorem dX1_closeMove_19 : decode cX1_closeMove 19 = .ok (.istore_n 3, 1) := by decide +kernel
theorem dX1_closeMove_20 : decode cX1_closeMove 20 = .ok (.aload_n 0, 1) := by decide +kernel
theorem dX1_closeMove_21 : decode cX1_closeMove 21 = .ok (.getfield 26, 3) := by decide +kernel
theorem dX1_closeMove_24 : decode cX1_closeMove 24 = .ok (.iload_n 1, 1) := by decide +kernel
theorem dX1_closeMove_25 : decode cX1_closeMove 25 = .ok (.iconst 2, 1) := by decide +kernel
theorem dX1_closeMove_26 : decode cX1_closeMove 26 = .ok (.invokevirtual 70, 3) := by decide +kernel
theorem dX1_closeMove_29 : decode cX1_closeMove 29 = .ok (.istore 4, 2) := by decide +kernel
theorem dX1_closeMove_31 : decode cX1_closeMove 31 = .ok (.aload_n 0, 1) := by decide +kernel
theorem dX1_closeMove_32 : decode cX1_closeMove 32 = .ok (.getfield 26, 3) := by decide +kernel
theorem dX1_closeMove_35 : decode cX1_closeMove 35 = .ok (.iload_n 1, 1) := by decide +kernel
theorem dX1_closeMove_36 : decode cX1_closeMove 36 = .ok (.iconst 3, 1) := by decide +kernel
theorem dX1_closeMove_37 : decode cX1_closeMove 37 = .ok (.invokevirtual 70, 3) := by decide +kernel
theorem dX1_closeMove_40 : decode cX1_closeMove 40 = .ok (.istore 5, 2) := by decide +kernel
theorem dX1_closeMove_42 : decode cX1_closeMove 42 = .ok (.aload_n 0, 1) := by decide +kernel
theorem dX1_closeMove_43 : decode cX1_closeMove 43 = .ok (.getfield 26, 3) := by decide +kernel
theorem dX1_closeMove_46 : decode cX1_closeMove 46 = .ok (.iload_n 1, 1) := by decide +kernel
theorem dX1_closeMove_47 : decode cX1_closeMove 47 = .ok (.invokevirtual 119, 3) := by decide +kernel
theorem dX1_closeMove_50 : decode cX1_closeMove 50 = .ok (.aload_n 0, 1) := by decide +kernel
theorem dX1_closeMove_51 : decode cX1_closeMove 51 = .ok (.getfield 14, 3) := by decide +kernel
theorem dX1_closeMove_54 : decode cX1_closeMove 54 = .ok (.iload_n 3, 1) := by decide +kernel
theorem dX1_closeMove_55 : decode cX1_closeMove 55 = .ok (.iconst 1, 1) := by decide +kernel
theorem dX1_closeMove_56 : decode cX1_closeMove 56 = .ok (.invokevirtual 70, 3) := by decide +kernel
theorem dX1_closeMove_59 : decode cX1_closeMove 59 = .ok (.iload 5, 2) := by decide +kernel
theorem dX1_closeMove_61 : decode cX1_closeMove 61 = .ok (.if_icmp .lt 21, 3) := by decide +kernel
theorem dX1_closeMove_64 : decode cX1_closeMove 64 = .ok (.aload_n 0, 1) := by decide +kernel
theorem dX1_closeMove_65 : decode cX1_closeMove 65 = .ok (.getfield 14, 3) := by decide +kernel
theorem dX1_closeMove_68 : decode cX1_closeMove 68 = .ok (.iload 4, 2) := by decide +kernel
theorem dX1_closeMove_70 : decode cX1_closeMove 70 = .ok (.iconst 1, 1) := by decide +kernel
theorem dX1_closeMove_71 : decode cX1_closeMove 71 = .ok (.invokevirtual 70, 3) := by decide +kernel
theorem dX1_closeMove_74 : decode cX1_closeMove 74 = .ok (.iload 5, 2) := by decide +kernel
theorem dX1_closeMove_76 : decode cX1_closeMove 76 = .ok (.iadd, 1) := by decide +kernel
theorem dX1_closeMove_77 : decode cX1_closeMove 77 = .ok (.bipush 12, 2) := by decide +kernel
theorem dX1_closeMove_79 : decode cX1_closeMove 79 = .ok (.if_icmp .le 20, 3) := by decide +kernel
theorem dX1_closeMove_82 : decode cX1_closeMove 82 = .ok (.aload_n 0, 1) := by decide +kernel
theorem dX1_closeMove_83 : decode cX1_closeMove 83 = .ok (.iload_n 2, 1) := by decide +kernel
theorem dX1_closeMove_84 : decode cX1_closeMove 84 = .ok (.iconst 5, 1) := by decide +kernel
theorem dX1_closeMove_85 : decode cX1_closeMove 85 = .ok (.invokevirtual 122, 3) := by decide +kernel
theorem dX1_closeMove_88 : decode cX1_closeMove 88 = .ok (.aload_n 0, 1) := by decide +kernel
theorem dX1_closeMove_89 : decode cX1_closeMove 89 = .ok (.dup, 1) := by decide +kernel
theorem dX1_closeMove_90 : decode cX1_closeMove 90 = .ok (.getfield 56, 3) := by decide +kernel
theorem dX1_closeMove_93 : decode cX1_closeMove 93 = .ok (.iconst 1, 1) := by decide +kernel
theorem dX1_closeMove_94 : decode cX1_closeMove 94 = .ok (.iadd, 1) := by decide +kernel
theorem dX1_closeMove_95 : decode cX1_closeMove 95 = .ok (.putfield 56, 3) := by decide +kernel
theorem dX1_closeMove_98 : decode cX1_closeMove 98 = .ok (.return_, 1) := by decide +kernel
theorem dX1_closeMove_99 : decode cX1_closeMove 99 = .ok (.aload_n 0, 1) := by decide +kernel
theorem dX1_closeMove_100 : decode cX1_closeMove 100 = .ok (.getfield 14, 3) := by decide +kernel
theorem dX1_closeMove_103 : decode cX1_closeMove 103 = .ok (.iload_n 3, 1) := by decide +kernel
theorem dX1_closeMove_104 : decode cX1_closeMove 104 = .ok (.iconst 1, 1) := by decide +kernel
theorem dX1_closeMove_105 : decode cX1_closeMove 105 = .ok (.iload 5, 2) := by decide +kernel
theorem dX1_closeMove_107 : decode cX1_closeMove 107 = .ok (.ineg, 1) := by decide +kernel
theorem dX1_closeMove_108 : decode cX1_closeMove 108 = .ok (.invokevirtual 95, 3) := by decide +kernel
theorem dX1_closeMove_111 : decode cX1_closeMove 111 = .ok (.aload_n 0, 1) := by decide +kernel
theorem dX1_closeMove_112 : decode cX1_closeMove 112 = .ok (.getfield 14, 3) := by decide +kernel
theorem dX1_closeMove_115 : decode cX1_closeMove 115 = .ok (.iload 4, 2) := by decide +kernel
theorem dX1_closeMove_117 : decode cX1_closeMove 117 = .ok (.iconst 1, 1) := by decide +kernel
theorem dX1_closeMove_118 : decode cX1_closeMove 118 = .ok (.iload 5, 2) := by decide +kernel
theorem dX1_closeMove_120 : decode cX1_closeMove 120 = .ok (.invokevirtual 95, 3) := by decide +kernel
theorem dX1_closeMove_123 : decode cX1_closeMove 123 = .ok (.aload_n 0, 1) := by decide +kernel
theorem dX1_closeMove_124 : decode cX1_closeMove 124 = .ok (.getfield 14, 3) := by decide +kernel
theorem dX1_closeMove_127 : decode cX1_closeMove 127 = .ok (.iload_n 3, 1) := by decide +kernel
theorem dX1_closeMove_128 : decode cX1_closeMove 128 = .ok (.iconst 2, 1) := by decide +kernel
theorem dX1_closeMove_129 : decode cX1_closeMove 129 = .ok (.iload_n 2, 1) := by decide +kernel
theorem dX1_closeMove_130 : decode cX1_closeMove 130 = .ok (.invokevirtual 82, 3) := by decide +kernel
theorem dX1_closeMove_133 : decode cX1_closeMove 133 = .ok (.aload_n 0, 1) := by decide +kernel
theorem dX1_closeMove_134 : decode cX1_closeMove 134 = .ok (.iload_n 2, 1) := by decide +kernel
theorem dX1_closeMove_135 : decode cX1_closeMove 135 = .ok (.iconst 5, 1) := by decide +kernel
theorem dX1_closeMove_136 : decode cX1_closeMove 136 = .ok (.iconst 2, 1) := by decide +kernel
theorem dX1_closeMove_137 : decode cX1_closeMove 137 = .ok (.iload 5, 2) := by decide +kernel
theorem dX1_closeMove_139 : decode cX1_closeMove 139 = .ok (.imul, 1) := by decide +kernel
theorem dX1_closeMove_140 : decode cX1_closeMove 140 = .ok (.iadd, 1) := by decide +kernel
theorem dX1_closeMove_141 : decode cX1_closeMove 141 = .ok (.invokevirtual 122, 3) := by decide +kernel
theorem dX1_closeMove_144 : decode cX1_closeMove 144 = .ok (.aload_n 0, 1) := by decide +kernel
theorem dX1_closeMove_145 : decode cX1_closeMove 145 = .ok (.dup, 1) := by decide +kernel
theorem dX1_closeMove_146 : decode cX1_closeMove 146 = .ok (.getfield 53, 3) := by decide +kernel
theorem dX1_closeMove_149 : decode cX1_closeMove 149 = .ok (.iconst 1, 1) := by decide +kernel
theorem dX1_closeMove_150 : decode cX1_closeMove 150 = .ok (.iadd, 1) := by decide +kernel
theorem dX1_closeMove_151 : decode cX1_closeMove 151 = .ok (.putfield 53, 3) := by decide +kernel
theorem dX1_closeMove_154 : decode cX1_closeMove 154 = .ok (.return_, 1) := by decide +kernel
theorem dX1_passHalfDay_0 : decode cX1_passHalfDay 0 = .ok (.aload_n 0, 1) := by decide +kernel
theorem dX1_passHalfDay_1 : decode cX1_passHalfDay 1 = .ok (.aload_n 0, 1) := by decide +kernel
theorem dX1_passHalfDay_2 : decode cX1_passHalfDay 2 = .ok (.getfield 49, 3) := by decide +kernel
theorem dX1_passHalfDay_5 : decode cX1_passHalfDay 5 = .ok (.invokevirtual 125, 3) := by decide +kernel
theorem dX1_passHalfDay_8 : decode cX1_passHalfDay 8 = .ok (.iconst 0, 1) := by decide +kernel
theorem dX1_passHalfDay_9 : decode cX1_passHalfDay 9 = .ok (.istore_n 1, 1) := by decide +kernel
theorem dX1_passHalfDay_10 : decode cX1_passHalfDay 10 = .ok (.iconst 0, 1) := by decide +kernel
theorem dX1_passHalfDay_11 : decode cX1_passHalfDay 11 = .ok (.istore_n 2, 1) := by decide +kernel
theorem dX1_passHalfDay_12 : decode cX1_passHalfDay 12 = .ok (.iload_n 2, 1) := by decide +kernel
theorem dX1_passHalfDay_13 : decode cX1_passHalfDay 13 = .ok (.aload_n 0, 1) := by decide +kernel
theorem dX1_passHalfDay_14 : decode cX1_passHalfDay 14 = .ok (.getfield 23, 3) := by decide +kernel
theorem dX1_passHalfDay_17 : decode cX1_passHalfDay 17 = .ok (.invokevirtual 66, 3) := by decide +kernel
theorem dX1_passHalfDay_20 : decode cX1_passHalfDay 20 = .ok (.if_icmp .ge 60, 3) := by decide +kernel
theorem dX1_passHalfDay_23 : decode cX1_passHalfDay 23 = .ok (.aload_n 0, 1) := by decide +kernel
theorem dX1_passHalfDay_24 : decode cX1_passHalfDay 24 = .ok (.iload_n 2, 1) := by decide +kernel
theorem dX1_passHalfDay_25 : decode cX1_passHalfDay 25 = .ok (.invokevirtual 128, 3) := by decide +kernel
theorem dX1_passHalfDay_28 : decode cX1_passHalfDay 28 = .ok (.ifCond .eq 46, 3) := by decide +kernel
theorem dX1_passHalfDay_31 : decode cX1_passHalfDay 31 = .ok (.aload_n 0, 1) := by decide +kernel
theorem dX1_passHalfDay_32 : decode cX1_passHalfDay 32 = .ok (.getfield 23, 3) := by decide +kernel
theorem dX1_passHalfDay_35 : decode cX1_passHalfDay 35 = .ok (.iload_n 2, 1) := by decide +kernel
theorem dX1_passHalfDay_36 : decode cX1_passHalfDay 36 = .ok (.iconst 2, 1) := by decide +kernel
theorem dX1_passHalfDay_37 : decode cX1_passHalfDay 37 = .ok (.invokevirtual 70, 3) := by decide +kernel
theorem dX1_passHalfDay_40 : decode cX1_passHalfDay 40 = .ok (.aload_n 0, 1) := by decide +kernel
theorem dX1_passHalfDay_41 : decode cX1_passHalfDay 41 = .ok (.getfield 49, 3) := by decide +kernel
theorem dX1_passHalfDay_44 : decode cX1_passHalfDay 44 = .ok (.if_icmp .eq 6, 3) := by decide +kernel
theorem dX1_passHalfDay_47 : decode cX1_passHalfDay 47 = .ok (.goto 27, 3) := by decide +kernel
theorem dX1_passHalfDay_50 : decode cX1_passHalfDay 50 = .ok (.aload_n 0, 1) := by decide +kernel
theorem dX1_passHalfDay_51 : decode cX1_passHalfDay 51 = .ok (.iload_n 2, 1) := by decide +kernel
theorem dX1_passHalfDay_52 : decode cX1_passHalfDay 52 = .ok (.invokevirtual 131, 3) := by decide +kernel
theorem dX1_passHalfDay_55 : decode cX1_passHalfDay 55 = .ok (.ifCond .eq 11, 3) := by decide +kernel
theorem dX1_passHalfDay_58 : decode cX1_passHalfDay 58 = .ok (.aload_n 0, 1) := by decide +kernel
theorem dX1_passHalfDay_59 : decode cX1_passHalfDay 59 = .ok (.iload_n 2, 1) := by decide +kernel
theorem dX1_passHalfDay_60 : decode cX1_passHalfDay 60 = .ok (.invokevirtual 134, 3) := by decide +kernel
theorem dX1_passHalfDay_63 : decode cX1_passHalfDay 63 = .ok (.goto 11, 3) := by decide +kernel
theorem dX1_passHalfDay_66 : decode cX1_passHalfDay 66 = .ok (.aload_n 0, 1) := by decide +kernel
theorem dX1_passHalfDay_67 : decode cX1_passHalfDay 67 = .ok (.iload_n 2, 1) := by decide +kernel
theorem dX1_passHalfDay_68 : decode cX1_passHalfDay 68 = .ok (.invokevirtual 137, 3) := by decide +kernel
theorem dX1_passHalfDay_71 : decode cX1_passHalfDay 71 = .ok (.iinc 1 1, 3) := by decide +kernel
theorem dX1_passHalfDay_74 : decode cX1_passHalfDay 74 = .ok (.iinc 2 1, 3) := by decide +kernel
theorem dX1_passHalfDay_77 : decode cX1_passHalfDay 77 = .ok (.goto (-65), 3) := by decide +kernel
theorem dX1_passHalfDay_80 : decode cX1_passHalfDay 80 = .ok (.aload_n 0, 1) := by decide +kernel
theorem dX1_passHalfDay_81 : decode cX1_passHalfDay 81 = .ok (.dup, 1) := by decide +kernel
theorem dX1_passHalfDay_82 : decode cX1_passHalfDay 82 = .ok (.getfield 49, 3) := by decide +kernel
theorem dX1_passHalfDay_85 : decode cX1_passHalfDay 85 = .ok (.iconst 1, 1) := by decide +kernel
theorem dX1_passHalfDay_86 : decode cX1_passHalfDay 86 = .ok (.iadd, 1) := by decide +kernel
theorem dX1_passHalfDay_87 : decode cX1_passHalfDay 87 = .ok (.putfield 49, 3) := by decide +kernel
theorem dX1_passHalfDay_90 : decode cX1_passHalfDay 90 = .ok (.iload_n 1, 1) := by decide +kernel
theorem dX1_passHalfDay_91 : decode cX1_passHalfDay 91 = .ok (.ireturn, 1) := by decide +kernel
theorem dX1_lift_0 : decode cX1_lift 0 = .ok (.aload_n 0, 1) := by decide +kernel
theorem dX1_lift_1 : decode cX1_lift 1 = .ok (.getfield 23, 3) := by decide +kernel
theorem dX1_lift_4 : decode cX1_lift 4 = .ok (.iload_n 1, 1) := by decide +kernel
theorem dX1_lift_5 : decode cX1_lift 5 = .ok (.iconst 5, 1) := by decide +kernel
theorem dX1_lift_6 : decode cX1_lift 6 = .ok (.iconst 1, 1) := by decide +kernel
theorem dX1_lift_7 : decode cX1_lift 7 = .ok (.invokevirtual 82, 3) := by decide +kernel
theorem dX1_lift_10 : decode cX1_lift 10 = .ok (.aload_n 0, 1) := by decide +kernel
theorem dX1_lift_11 : decode cX1_lift 11 = .ok (.aload_n 0, 1) := by decide +kernel
theorem dX1_lift_12 : decode cX1_lift 12 = .ok (.getfield 23, 3) := by decide +kernel
theorem dX1_lift_15 : decode cX1_lift 15 = .ok (.iload_n 1, 1) := by decide +kernel
theorem dX1_lift_16 : decode cX1_lift 16 = .ok (.iconst 0, 1) := by decide +kernel
theorem dX1_lift_17 : decode cX1_lift 17 = .ok (.invokevirtual 70, 3) := by decide +kernel
theorem dX1_lift_20 : decode cX1_lift 20 = .ok (.bipush 30, 2) := by decide +kernel
theorem dX1_lift_22 : decode cX1_lift 22 = .ok (.invokevirtual 122, 3) := by decide +kernel
theorem dX1_lift_25 : decode cX1_lift 25 = .ok (.return_, 1) := by decide +kernel
theorem dX1_standBy_0 : decode cX1_standBy 0 = .ok (.aload_n 0, 1) := by decide +kernel
theorem dX1_standBy_1 : decode cX1_standBy 1 = .ok (.iload_n 1, 1) := by decide +kernel
theorem dX1_standBy_2 : decode cX1_standBy 2 = .ok (.invokevirtual 140, 3) := by decide +kernel
theorem dX1_standBy_5 : decode cX1_standBy 5 = .ok (.istore_n 2, 1) := by decide +kernel
theorem dX1_standBy_6 : decode cX1_standBy 6 = .ok (.iload_n 2, 1) := by decide +kernel
theorem dX1_standBy_7 : decode cX1_standBy 7 = .ok (.bipush (-5), 2) := by decide +kernel
theorem dX1_standBy_9 : decode cX1_standBy 9 = .ok (.if_icmp .ne 16, 3) := by decide +kernel
theorem dX1_standBy_12 : decode cX1_standBy 12 = .ok (.aload_n 0, 1) := by decide +kernel
theorem dX1_standBy_13 : decode cX1_standBy 13 = .ok (.dup, 1) := by decide +kernel
theorem dX1_standBy_14 : decode cX1_standBy 14 = .ok (.getfield 59, 3) := by decide +kernel
theorem dX1_standBy_17 : decode cX1_standBy 17 = .ok (.iconst 1, 1) := by decide +kernel
theorem dX1_standBy_18 : decode cX1_standBy 18 = .ok (.iadd, 1) := by decide +kernel
theorem dX1_standBy_19 : decode cX1_standBy 19 = .ok (.putfield 59, 3) := by decide +kernel
theorem dX1_standBy_22 : decode cX1_standBy 22 = .ok (.goto 20, 3) := by decide +kernel
theorem dX1_standBy_25 : decode cX1_standBy 25 = .ok (.aload_n 0, 1) := by decide +kernel
theorem dX1_standBy_26 : decode cX1_standBy 26 = .ok (.getfield 20, 3) := by decide +kernel
theorem dX1_standBy_29 : decode cX1_standBy 29 = .ok (.iload_n 2, 1) := by decide +kernel
theorem dX1_standBy_30 : decode cX1_standBy 30 = .ok (.iconst 1, 1) := by decide +kernel
theorem dX1_standBy_31 : decode cX1_standBy 31 = .ok (.iconst 1, 1) := by decide +kernel
theorem dX1_standBy_32 : decode cX1_standBy 32 = .ok (.invokevirtual 95, 3) := by decide +kernel
theorem dX1_standBy_35 : decode cX1_standBy 35 = .ok (.aload_n 0, 1) := by decide +kernel
theorem dX1_standBy_36 : decode cX1_standBy 36 = .ok (.iload_n 2, 1) := by decide +kernel
theorem dX1_standBy_37 : decode cX1_standBy 37 = .ok (.bipush 8, 2) := by decide +kernel
theorem dX1_standBy_39 : decode cX1_standBy 39 = .ok (.invokevirtual 122, 3) := by decide +kernel
theorem dX1_standBy_42 : decode cX1_standBy 42 = .ok (.aload_n 0, 1) := by decide +kernel
theorem dX1_standBy_43 : decode cX1_standBy 43 = .ok (.getfield 23, 3) := by decide +kernel
theorem dX1_standBy_46 : decode cX1_standBy 46 = .ok (.iload_n 1, 1) := by decide +kernel
theorem dX1_standBy_47 : decode cX1_standBy 47 = .ok (.bipush 7, 2) := by decide +kernel
theorem dX1_standBy_49 : decode cX1_standBy 49 = .ok (.iconst 1, 1) := by decide +kernel
theorem dX1_standBy_50 : decode cX1_standBy 50 = .ok (.invokevirtual 95, 3) := by decide +kernel
theorem dX1_standBy_53 : decode cX1_standBy 53 = .ok (.aload_n 0, 1) := by decide +kernel
theorem dX1_standBy_54 : decode cX1_standBy 54 = .ok (.iload_n 1, 1) := by decide +kernel
theorem dX1_standBy_55 : decode cX1_standBy 55 = .ok (.invokevirtual 143, 3) := by decide +kernel
theorem dX1_standBy_58 : decode cX1_standBy 58 = .ok (.return_, 1) := by decide +kernel
theorem dX1_carryOver_0 : decode cX1_carryOver 0 = .ok (.aload_n 0, 1) := by decide +kernel
theorem dX1_carryOver_1 : decode cX1_carryOver 1 = .ok (.getfield 23, 3) := by decide +kernel
theorem dX1_carryOver_4 : decode cX1_carryOver 4 = .ok (.iload_n 1, 1) := by decide +kernel
theorem dX1_carryOver_5 : decode cX1_carryOver 5 = .ok (.iconst 1, 1) := by decide +kernel
theorem dX1_carryOver_6 : decode cX1_carryOver 6 = .ok (.invokevirtual 70, 3) := by decide +kernel
theorem dX1_carryOver_9 : decode cX1_carryOver 9 = .ok (.istore_n 2, 1) := by decide +kernel
theorem dX1_carryOver_10 : decode cX1_carryOver 10 = .ok (.aload_n 0, 1) := by decide +kernel
theorem dX1_carryOver_11 : decode cX1_carryOver 11 = .ok (.getfield 49, 3) := by decide +kernel
theorem dX1_carryOver_14 : decode cX1_carryOver 14 = .ok (.bipush 9, 2) := by decide +kernel
theorem dX1_carryOver_16 : decode cX1_carryOver 16 = .ok (.iadd, 1) := by decide +kernel
theorem dX1_carryOver_17 : decode cX1_carryOver 17 = .ok (.sipush 199, 3) := by decide +kernel
theorem dX1_carryOver_20 : decode cX1_carryOver 20 = .ok (.invokestatic 37, 3) := by decide +kernel
theorem dX1_carryOver_23 : decode cX1_carryOver 23 = .ok (.istore_n 3, 1) := by decide +kernel
theorem dX1_carryOver_24 : decode cX1_carryOver 24 = .ok (.aload_n 0, 1) := by decide +kernel
theorem dX1_carryOver_25 : decode cX1_carryOver 25 = .ok (.getfield 49, 3) := by decide +kernel
theorem dX1_carryOver_28 : decode cX1_carryOver 28 = .ok (.iconst 1, 1) := by decide +kernel
theorem dX1_carryOver_29 : decode cX1_carryOver 29 = .ok (.iadd, 1) := by decide +kernel
theorem dX1_carryOver_30 : decode cX1_carryOver 30 = .ok (.istore 4, 2) := by decide +kernel
theorem dX1_carryOver_32 : decode cX1_carryOver 32 = .ok (.iload 4, 2) := by decide +kernel
theorem dX1_carryOver_34 : decode cX1_carryOver 34 = .ok (.iload_n 3, 1) := by decide +kernel
theorem dX1_carryOver_35 : decode cX1_carryOver 35 = .ok (.if_icmp .gt 30, 3) := by decide +kernel
theorem dX1_carryOver_38 : decode cX1_carryOver 38 = .ok (.aload_n 0, 1) := by decide +kernel
theorem dX1_carryOver_39 : decode cX1_carryOver 39 = .ok (.iload_n 2, 1) := by decide +kernel
theorem dX1_carryOver_40 : decode cX1_carryOver 40 = .ok (.iload 4, 2) := by decide +kernel
theorem dX1_carryOver_42 : decode cX1_carryOver 42 = .ok (.invokevirtual 92, 3) := by decide +kernel
theorem dX1_carryOver_45 : decode cX1_carryOver 45 = .ok (.bipush (-5), 2) := by decide +kernel
theorem dX1_carryOver_47 : decode cX1_carryOver 47 = .ok (.if_icmp .ne 12, 3) := by decide +kernel
theorem dX1_carryOver_50 : decode cX1_carryOver 50 = .ok (.aload_n 0, 1) := by decide +kernel
theorem dX1_carryOver_51 : decode cX1_carryOver 51 = .ok (.iload_n 1, 1) := by decide +kernel
theorem dX1_carryOver_52 : decode cX1_carryOver 52 = .ok (.iload_n 2, 1) := by decide +kernel
theorem dX1_carryOver_53 : decode cX1_carryOver 53 = .ok (.iload 4, 2) := by decide +kernel
theorem dX1_carryOver_55 : decode cX1_carryOver 55 = .ok (.invokevirtual 146, 3) := by decide +kernel
theorem dX1_carryOver_58 : decode cX1_carryOver 58 = .ok (.return_, 1) := by decide +kernel
theorem dX1_carryOver_59 : decode cX1_carryOver 59 = .ok (.iinc 4 1, 3) := by decide +kernel
theorem dX1_carryOver_62 : decode cX1_carryOver 62 = .ok (.goto (-30), 3) := by decide +kernel
theorem dX1_carryOver_65 : decode cX1_carryOver 65 = .ok (.aload_n 0, 1) := by decide +kernel
theorem dX1_carryOver_66 : decode cX1_carryOver 66 = .ok (.getfield 23, 3) := by decide +kernel
theorem dX1_carryOver_69 : decode cX1_carryOver 69 = .ok (.iload_n 1, 1) := by decide +kernel
theorem dX1_carryOver_70 : decode cX1_carryOver 70 = .ok (.iconst 5, 1) := by decide +kernel
theorem dX1_carryOver_71 : decode cX1_carryOver 71 = .ok (.iconst 2, 1) := by decide +kernel
theorem dX1_carryOver_72 : decode cX1_carryOver 72 = .ok (.invokevirtual 82, 3) := by decide +kernel
theorem dX1_carryOver_75 : decode cX1_carryOver 75 = .ok (.return_, 1) := by decide +kernel
theorem dX2_init_0 : decode cX2_init 0 = .ok (.aload_n 0, 1) := by decide +kernel
theorem dX2_init_1 : decode cX2_init 1 = .ok (.invokespecial 3, 3) := by decide +kernel
theorem dX2_init_4 : decode cX2_init 4 = .ok (.aload_n 0, 1) := by decide +kernel
theorem dX2_init_5 : decode cX2_init 5 = .ok (.iload_n 1, 1) := by decide +kernel
theorem dX2_init_6 : decode cX2_init 6 = .ok (.putfield 9, 3) := by decide +kernel
theorem dX2_init_9 : decode cX2_init 9 = .ok (.aload_n 0, 1) := by decide +kernel
theorem dX2_init_10 : decode cX2_init 10 = .ok (.iload_n 2, 1) := by decide +kernel
theorem dX2_init_11 : decode cX2_init 11 = .ok (.putfield 15, 3) := by decide +kernel
theorem dX2_init_14 : decode cX2_init 14 = .ok (.aload_n 0, 1) := by decide +kernel
theorem dX2_init_15 : decode cX2_init 15 = .ok (.iload_n 1, 1) := by decide +kernel
theorem dX2_init_16 : decode cX2_init 16 = .ok (.iload_n 2, 1) := by decide +kernel
theorem dX2_init_17 : decode cX2_init 17 = .ok (.imul, 1) := by decide +kernel
theorem dX2_init_18 : decode cX2_init 18 = .ok (.iconst 0, 1) := by decide +kernel
theorem dX2_init_19 : decode cX2_init 19 = .ok (.invokestatic 18, 3) := by decide +kernel
theorem dX2_init_22 : decode cX2_init 22 = .ok (.newarray .int, 2) := by decide +kernel
theorem dX2_init_24 : decode cX2_init 24 = .ok (.putfield 24, 3) := by decide +kernel
theorem dX2_init_27 : decode cX2_init 27 = .ok (.return_, 1) := by decide +kernel
theorem dX2_size_0 : decode cX2_size 0 = .ok (.aload_n 0, 1) := by decide +kernel
theorem dX2_size_1 : decode cX2_size 1 = .ok (.getfield 28, 3) := by decide +kernel
theorem dX2_size_4 : decode cX2_size 4 = .ok (.ireturn, 1) := by decide +kernel
theorem dX2_has_0 : decode cX2_has 0 = .ok (.iload_n 1, 1) := by decide +kernel
theorem dX2_has_1 : decode cX2_has 1 = .ok (.ifCond .lt 15, 3) := by decide +kernel
theorem dX2_has_4 : decode cX2_has 4 = .ok (.iload_n 1, 1) := by decide +kernel
theorem dX2_has_5 : decode cX2_has 5 = .ok (.aload_n 0, 1) := by decide +kernel
theorem dX2_has_6 : decode cX2_has 6 = .ok (.getfield 28, 3) := by decide +kernel
theorem dX2_has_9 : decode cX2_has 9 = .ok (.if_icmp .ge 7, 3) := by decide +kernel
theorem dX2_has_12 : decode cX2_has 12 = .ok (.iconst 1, 1) := by decide +kernel
theorem dX2_has_13 : decode cX2_has 13 = .ok (.goto 4, 3) := by decide +kernel
theorem dX2_has_16 : decode cX2_has 16 = .ok (.iconst 0, 1) := by decide +kernel
theorem dX2_has_17 : decode cX2_has 17 = .ok (.ireturn, 1) := by decide +kernel
theorem dX2_isFull_0 : decode cX2_isFull 0 = .ok (.aload_n 0, 1) := by decide +kernel
theorem dX2_isFull_1 : decode cX2_isFull 1 = .ok (.getfield 28, 3) := by decide +kernel
theorem dX2_isFull_4 : decode cX2_isFull 4 = .ok (.aload_n 0, 1) := by decide +kernel
theorem dX2_isFull_5 : decode cX2_isFull 5 = .ok (.getfield 9, 3) := by decide +kernel
theorem dX2_isFull_8 : decode cX2_isFull 8 = .ok (.if_icmp .lt 7, 3) := by decide +kernel
theorem dX2_isFull_11 : decode cX2_isFull 11 = .ok (.iconst 1, 1) := by decide +kernel
theorem dX2_isFull_12 : decode cX2_isFull 12 = .ok (.goto 4, 3) := by decide +kernel
theorem dX2_isFull_15 : decode cX2_isFull 15 = .ok (.iconst 0, 1) := by decide +kernel
theorem dX2_isFull_16 : decode cX2_isFull 16 = .ok (.ireturn, 1) := by decide +kernel
theorem dX2_get_0 : decode cX2_get 0 = .ok (.iload_n 1, 1) := by decide +kernel
theorem dX2_get_1 : decode cX2_get 1 = .ok (.aload_n 0, 1) := by decide +kernel
theorem dX2_get_2 : decode cX2_get 2 = .ok (.getfield 15, 3) := by decide +kernel
theorem dX2_get_5 : decode cX2_get 5 = .ok (.imul, 1) := by decide +kernel
theorem dX2_get_6 : decode cX2_get 6 = .ok (.iload_n 2, 1) := by decide +kernel
theorem dX2_get_7 : decode cX2_get 7 = .ok (.iadd, 1) := by decide +kernel
theorem dX2_get_8 : decode cX2_get 8 = .ok (.istore_n 3, 1) := by decide +kernel
theorem dX2_get_9 : decode cX2_get 9 = .ok (.iload_n 1, 1) := by decide +kernel
theorem dX2_get_10 : decode cX2_get 10 = .ok (.ifCond .lt 36, 3) := by decide +kernel
theorem dX2_get_13 : decode cX2_get 13 = .ok (.iload_n 1, 1) := by decide +kernel
theorem dX2_get_14 : decode cX2_get 14 = .ok (.aload_n 0, 1) := by decide +kernel
theorem dX2_get_15 : decode cX2_get 15 = .ok (.getfield 28, 3) := by decide +kernel
theorem dX2_get_18 : decode cX2_get 18 = .ok (.if_icmp .ge 28, 3) := by decide +kernel
theorem dX2_get_21 : decode cX2_get 21 = .ok (.iload_n 2, 1) := by decide +kernel
theorem dX2_get_22 : decode cX2_get 22 = .ok (.ifCond .lt 24, 3) := by decide +kernel
theorem dX2_get_25 : decode cX2_get 25 = .ok (.iload_n 2, 1) := by decide +kernel
theorem dX2_get_26 : decode cX2_get 26 = .ok (.aload_n 0, 1) := by decide +kernel
theorem dX2_get_27 : decode cX2_get 27 = .ok (.getfield 15, 3) := by decide +kernel
theorem dX2_get_30 : decode cX2_get 30 = .ok (.if_icmp .ge 16, 3) := by decide +kernel
theorem dX2_get_33 : decode cX2_get 33 = .ok (.iload_n 3, 1) := by decide +kernel
theorem dX2_get_34 : decode cX2_get 34 = .ok (.ifCond .lt 12, 3) := by decide +kernel
theorem dX2_get_37 : decode cX2_get 37 = .ok (.iload_n 3, 1) := by decide +kernel
theorem dX2_get_38 : decode cX2_get 38 = .ok (.aload_n 0, 1) := by decide +kernel
theorem dX2_get_39 : decode cX2_get 39 = .ok (.getfield 24, 3) := by decide +kernel
theorem dX2_get_42 : decode cX2_get 42 = .ok (.arraylength, 1) := by decide +kernel
theorem dX2_get_43 : decode cX2_get 43 = .ok (.if_icmp .lt 5, 3) := by decide +kernel
theorem dX2_get_46 : decode cX2_get 46 = .ok (.iconst 0, 1) := by decide +kernel
theorem dX2_get_47 : decode cX2_get 47 = .ok (.ireturn, 1) := by decide +kernel
theorem dX2_get_48 : decode cX2_get 48 = .ok (.aload_n 0, 1) := by decide +kernel
theorem dX2_get_49 : decode cX2_get 49 = .ok (.getfield 24, 3) := by decide +kernel
theorem dX2_get_52 : decode cX2_get 52 = .ok (.iload_n 3, 1) := by decide +kernel
theorem dX2_get_53 : decode cX2_get 53 = .ok (.iaload, 1) := by decide +kernel
theorem dX2_get_54 : decode cX2_get 54 = .ok (.ireturn, 1) := by decide +kernel
theorem dX2_set_0 : decode cX2_set 0 = .ok (.iload_n 1, 1) := by decide +kernel
theorem dX2_set_1 : decode cX2_set 1 = .ok (.aload_n 0, 1) := by decide +kernel
theorem dX2_set_2 : decode cX2_set 2 = .ok (.getfield 15, 3) := by decide +kernel
theorem dX2_set_5 : decode cX2_set 5 = .ok (.imul, 1) := by decide +kernel
theorem dX2_set_6 : decode cX2_set 6 = .ok (.iload_n 2, 1) := by decide +kernel
theorem dX2_set_7 : decode cX2_set 7 = .ok (.iadd, 1) := by decide +kernel
theorem dX2_set_8 : decode cX2_set 8 = .ok (.istore 4, 2) := by decide +kernel
theorem dX2_set_10 : decode cX2_set 10 = .ok (.iload_n 1, 1) := by decide +kernel
theorem dX2_set_11 : decode cX2_set 11 = .ok (.ifCond .lt 38, 3) := by decide +kernel
theorem dX2_set_14 : decode cX2_set 14 = .ok (.iload_n 1, 1) := by decide +kernel
theorem dX2_set_15 : decode cX2_set 15 = .ok (.aload_n 0, 1) := by decide +kernel
theorem dX2_set_16 : decode cX2_set 16 = .ok (.getfield 28, 3) := by decide +kernel
theorem dX2_set_19 : decode cX2_set 19 = .ok (.if_icmp .ge 30, 3) := by decide +kernel
theorem dX2_set_22 : decode cX2_set 22 = .ok (.iload_n 2, 1) := by decide +kernel
theorem dX2_set_23 : decode cX2_set 23 = .ok (.ifCond .lt 26, 3) := by decide +kernel
theorem dX2_set_26 : decode cX2_set 26 = .ok (.iload_n 2, 1) := by decide +kernel
theorem dX2_set_27 : decode cX2_set 27 = .ok (.aload_n 0, 1) := by decide +kernel
theorem dX2_set_28 : decode cX2_set 28 = .ok (.getfield 15, 3) := by decide +kernel
theorem dX2_set_31 : decode cX2_set 31 = .ok (.if_icmp .ge 18, 3) := by decide +kernel
theorem dX2_set_34 : decode cX2_set 34 = .ok (.iload 4, 2) := by decide +kernel
theorem dX2_set_36 : decode cX2_set 36 = .ok (.ifCond .lt 13, 3) := by decide +kernel
theorem dX2_set_39 : decode cX2_set 39 = .ok (.iload 4, 2) := by decide +kernel
theorem dX2_set_41 : decode cX2_set 41 = .ok (.aload_n 0, 1) := by decide +kernel
theorem dX2_set_42 : decode cX2_set 42 = .ok (.getfield 24, 3) := by decide +kernel
theorem dX2_set_45 : decode cX2_set 45 = .ok (.arraylength, 1) := by decide +kernel
theorem dX2_set_46 : decode cX2_set 46 = .ok (.if_icmp .lt 4, 3) := by decide +kernel
theorem dX2_set_49 : decode cX2_set 49 = .ok (.return_, 1) := by decide +kernel
theorem dX2_set_50 : decode cX2_set 50 = .ok (.aload_n 0, 1) := by decide +kernel
theorem dX2_set_51 : decode cX2_set 51 = .ok (.getfield 24, 3) := by decide +kernel
theorem dX2_set_54 : decode cX2_set 54 = .ok (.iload 4, 2) := by decide +kernel
theorem dX2_set_56 : decode cX2_set 56 = .ok (.iload_n 3, 1) := by decide +kernel
theorem dX2_set_57 : decode cX2_set 57 = .ok (.iastore, 1) := by decide +kernel
theorem dX2_set_58 : decode cX2_set 58 = .ok (.return_, 1) := by decide +kernel
theorem dX2_increase_0 : decode cX2_increase 0 = .ok (.aload_n 0, 1) := by decide +kernel
theorem dX2_increase_1 : decode cX2_increase 1 = .ok (.iload_n 1, 1) := by decide +kernel
theorem dX2_increase_2 : decode cX2_increase 2 = .ok (.iload_n 2, 1) := by decide +kernel
theorem dX2_increase_3 : decode cX2_increase 3 = .ok (.aload_n 0, 1) := by decide +kernel
theorem dX2_increase_4 : decode cX2_increase 4 = .ok (.iload_n 1, 1) := by decide +kernel
theorem dX2_increase_5 : decode cX2_increase 5 = .ok (.iload_n 2, 1) := by decide +kernel
theorem dX2_increase_6 : decode cX2_increase 6 = .ok (.invokevirtual 31, 3) := by decide +kernel
theorem dX2_increase_9 : decode cX2_increase 9 = .ok (.iload_n 3, 1) := by decide +kernel
theorem dX2_increase_10 : decode cX2_increase 10 = .ok (.iadd, 1) := by decide +kernel
theorem dX2_increase_11 : decode cX2_increase 11 = .ok (.invokevirtual 34, 3) := by decide +kernel
theorem dX2_increase_14 : decode cX2_increase 14 = .ok (.return_, 1) := by decide +kernel
theorem dX2_addRow_0 : decode cX2_addRow 0 = .ok (.aload_n 0, 1) := by decide +kernel
theorem dX2_addRow_1 : decode cX2_addRow 1 = .ok (.invokevirtual 38, 3) := by decide +kernel
theorem dX2_addRow_4 : decode cX2_addRow 4 = .ok (.ifCond .eq 6, 3) := by decide +kernel
theorem dX2_addRow_7 : decode cX2_addRow 7 = .ok (.bipush (-3), 2) := by decide +kernel
theorem dX2_addRow_9 : decode cX2_addRow 9 = .ok (.ireturn, 1) := by decide +kernel
theorem dX2_addRow_10 : decode cX2_addRow 10 = .ok (.aload_n 0, 1) := by decide +kernel
theorem dX2_addRow_11 : decode cX2_addRow 11 = .ok (.getfield 28, 3) := by decide +kernel
theorem dX2_addRow_14 : decode cX2_addRow 14 = .ok (.istore_n 1, 1) := by decide +kernel
theorem dX2_addRow_15 : decode cX2_addRow 15 = .ok (.aload_n 0, 1) := by decide +kernel
theorem dX2_addRow_16 : decode cX2_addRow 16 = .ok (.dup, 1) := by decide +kernel
theorem dX2_addRow_17 : decode cX2_addRow 17 = .ok (.getfield 28, 3) := by decide +kernel
theorem dX2_addRow_20 : decode cX2_addRow 20 = .ok (.iconst 1, 1) := by decide +kernel
theorem dX2_addRow_21 : decode cX2_addRow 21 = .ok (.iadd, 1) := by decide +kernel
theorem dX2_addRow_22 : decode cX2_addRow 22 = .ok (.putfield 28, 3) := by decide +kernel
theorem dX2_addRow_25 : decode cX2_addRow 25 = .ok (.iconst 0, 1) := by decide +kernel
theorem dX2_addRow_26 : decode cX2_addRow 26 = .ok (.istore_n 2, 1) := by decide +kernel
theorem dX2_addRow_27 : decode cX2_addRow 27 = .ok (.iload_n 2, 1) := by decide +kernel
theorem dX2_addRow_28 : decode cX2_addRow 28 = .ok (.aload_n 0, 1) := by decide +kernel
theorem dX2_addRow_29 : decode cX2_addRow 29 = .ok (.getfield 15, 3) := by decide +kernel
theorem dX2_addRow_32 : decode cX2_addRow 32 = .ok (.if_icmp .ge 16, 3) := by decide +kernel
theorem dX2_addRow_35 : decode cX2_addRow 35 = .ok (.aload_n 0, 1) := by decide +kernel
theorem dX2_addRow_36 : decode cX2_addRow 36 = .ok (.iload_n 1, 1) := by decide +kernel
theorem dX2_addRow_37 : decode cX2_addRow 37 = .ok (.iload_n 2, 1) := by decide +kernel
theorem dX2_addRow_38 : decode cX2_addRow 38 = .ok (.iconst 0, 1) := by decide +kernel
theorem dX2_addRow_39 : decode cX2_addRow 39 = .ok (.invokevirtual 34, 3) := by decide +kernel
theorem dX2_addRow_42 : decode cX2_addRow 42 = .ok (.iinc 2 1, 3) := by decide +kernel
theorem dX2_addRow_45 : decode cX2_addRow 45 = .ok (.goto (-18), 3) := by decide +kernel
theorem dX2_addRow_48 : decode cX2_addRow 48 = .ok (.iload_n 1, 1) := by decide +kernel
theorem dX2_addRow_49 : decode cX2_addRow 49 = .ok (.ireturn, 1) := by decide +kernel
theorem dX2_removeRow_0 : decode cX2_removeRow 0 = .ok (.aload_n 0, 1) := by decide +kernel
theorem dX2_removeRow_1 : decode cX2_removeRow 1 = .ok (.iload_n 1, 1) := by decide +kernel
theorem dX2_removeRow_2 : decode cX2_removeRow 2 = .ok (.invokevirtual 42, 3) := by decide +kernel
theorem dX2_removeRow_5 : decode cX2_removeRow 5 = .ok (.ifCond .ne 4, 3) := by decide +kernel
theorem dX2_removeRow_8 : decode cX2_removeRow 8 = .ok (.return_, 1) := by decide +kernel
theorem dX2_removeRow_9 : decode cX2_removeRow 9 = .ok (.iload_n 1, 1) := by decide +kernel
theorem dX2_removeRow_10 : decode cX2_removeRow 10 = .ok (.iconst 1, 1) := by decide +kernel
theorem dX2_removeRow_11 : decode cX2_removeRow 11 = .ok (.iadd, 1) := by decide +kernel
theorem dX2_removeRow_12 : decode cX2_removeRow 12 = .ok (.istore_n 2, 1) := by decide +kernel
theorem dX2_removeRow_13 : decode cX2_removeRow 13 = .ok (.iload_n 2, 1) := by decide +kernel
theorem dX2_removeRow_14 : decode cX2_removeRow 14 = .ok (.aload_n 0, 1) := by decide +kernel
theorem dX2_removeRow_15 : decode cX2_removeRow 15 = .ok (.getfield 28, 3) := by decide +kernel
theorem dX2_removeRow_18 : decode cX2_removeRow 18 = .ok (.if_icmp .ge 39, 3) := by decide +kernel
theorem dX2_removeRow_21 : decode cX2_removeRow 21 = .ok (.iconst 0, 1) := by decide +kernel
theorem dX2_removeRow_22 : decode cX2_removeRow 22 = .ok (.istore_n 3, 1) := by decide +kernel
theorem dX2_removeRow_23 : decode cX2_removeRow 23 = .ok (.iload_n 3, 1) := by decide +kernel
theorem dX2_removeRow_24 : decode cX2_removeRow 24 = .ok (.aload_n 0, 1) := by decide +kernel
theorem dX2_removeRow_25 : decode cX2_removeRow 25 = .ok (.getfield 15, 3) := by decide +kernel
theorem dX2_removeRow_28 : decode cX2_removeRow 28 = .ok (.if_icmp .ge 23, 3) := by decide +kernel
theorem dX2_removeRow_31 : decode cX2_removeRow 31 = .ok (.aload_n 0, 1) := by decide +kernel
theorem dX2_removeRow_32 : decode cX2_removeRow 32 = .ok (.iload_n 2, 1) := by decide +kernel
theorem dX2_removeRow_33 : decode cX2_removeRow 33 = .ok (.iconst 1, 1) := by decide +kernel
theorem dX2_removeRow_34 : decode cX2_removeRow 34 = .ok (.isub, 1) := by decide +kernel
theorem dX2_removeRow_35 : decode cX2_removeRow 35 = .ok (.iload_n 3, 1) := by decide +kernel
theorem dX2_removeRow_36 : decode cX2_removeRow 36 = .ok (.aload_n 0, 1) := by decide +kernel
theorem dX2_removeRow_37 : decode cX2_removeRow 37 = .ok (.iload_n 2, 1) := by decide +kernel
theorem dX2_removeRow_38 : decode cX2_removeRow 38 = .ok (.iload_n 3, 1) := by decide +kernel
theorem dX2_removeRow_39 : decode cX2_removeRow 39 = .ok (.invokevirtual 31, 3) := by decide +kernel
theorem dX2_removeRow_42 : decode cX2_removeRow 42 = .ok (.invokevirtual 34, 3) := by decide +kernel
theorem dX2_removeRow_45 : decode cX2_removeRow 45 = .ok (.iinc 3 1, 3) := by decide +kernel
theorem dX2_removeRow_48 : decode cX2_removeRow 48 = .ok (.goto (-25), 3) := by decide +kernel
theorem dX2_removeRow_51 : decode cX2_removeRow 51 = .ok (.iinc 2 1, 3) := by decide +kernel
theorem dX2_removeRow_54 : decode cX2_removeRow 54 = .ok (.goto (-41), 3) := by decide +kernel
theorem dX2_removeRow_57 : decode cX2_removeRow 57 = .ok (.aload_n 0, 1) := by decide +kernel
theorem dX2_removeRow_58 : decode cX2_removeRow 58 = .ok (.dup, 1) := by decide +kernel
theorem dX2_removeRow_59 : decode cX2_removeRow 59 = .ok (.getfield 28, 3) := by decide +kernel
theorem dX2_removeRow_62 : decode cX2_removeRow 62 = .ok (.iconst 1, 1) := by decide +kernel
theorem dX2_removeRow_63 : decode cX2_removeRow 63 = .ok (.isub, 1) := by decide +kernel
theorem dX2_removeRow_64 : decode cX2_removeRow 64 = .ok (.putfield 28, 3) := by decide +kernel
theorem dX2_removeRow_67 : decode cX2_removeRow 67 = .ok (.return_, 1) := by decide +kernel
theorem dX2_countOf_0 : decode cX2_countOf 0 = .ok (.iconst 0, 1) := by decide +kernel
theorem dX2_countOf_1 : decode cX2_countOf 1 = .ok (.istore_n 3, 1) := by decide +kernel
theorem dX2_countOf_2 : decode cX2_countOf 2 = .ok (.iconst 0, 1) := by decide +kernel
theorem dX2_countOf_3 : decode cX2_countOf 3 = .ok (.istore 4, 2) := by decide +kernel
theorem dX2_countOf_5 : decode cX2_countOf 5 = .ok (.iload 4, 2) := by decide +kernel
theorem dX2_countOf_7 : decode cX2_countOf 7 = .ok (.aload_n 0, 1) := by decide +kernel
theorem dX2_countOf_8 : decode cX2_countOf 8 = .ok (.getfield 28, 3) := by decide +kernel
theorem dX2_countOf_11 : decode cX2_countOf 11 = .ok (.if_icmp .ge 23, 3) := by decide +kernel
theorem dX2_countOf_14 : decode cX2_countOf 14 = .ok (.aload_n 0, 1) := by decide +kernel
theorem dX2_countOf_15 : decode cX2_countOf 15 = .ok (.iload 4, 2) := by decide +kernel
theorem dX2_countOf_17 : decode cX2_countOf 17 = .ok (.iload_n 1, 1) := by decide +kernel
theorem dX2_countOf_18 : decode cX2_countOf 18 = .ok (.invokevirtual 31, 3) := by decide +kernel
theorem dX2_countOf_21 : decode cX2_countOf 21 = .ok (.iload_n 2, 1) := by decide +kernel
theorem dX2_countOf_22 : decode cX2_countOf 22 = .ok (.if_icmp .ne 6, 3) := by decide +kernel
theorem dX2_countOf_25 : decode cX2_countOf 25 = .ok (.iinc 3 1, 3) := by decide +kernel
theorem dX2_countOf_28 : decode cX2_countOf 28 = .ok (.iinc 4 1, 3) := by decide +kernel
theorem dX2_countOf_31 : decode cX2_countOf 31 = .ok (.goto (-26), 3) := by decide +kernel
theorem dX2_countOf_34 : decode cX2_countOf 34 = .ok (.iload_n 3, 1) := by decide +kernel
theorem dX2_countOf_35 : decode cX2_countOf 35 = .ok (.ireturn, 1) := by decide +kernel
theorem dX2_countBoth_0 : decode cX2_countBoth 0 = .ok (.iconst 0, 1) := by decide +kernel
theorem dX2_countBoth_1 : decode cX2_countBoth 1 = .ok (.istore 5, 2) := by decide +kernel
theorem dX2_countBoth_3 : decode cX2_countBoth 3 = .ok (.iconst 0, 1) := by decide +kernel
theorem dX2_countBoth_4 : decode cX2_countBoth 4 = .ok (.istore 6, 2) := by decide +kernel
theorem dX2_countBoth_6 : decode cX2_countBoth 6 = .ok (.iload 6, 2) := by decide +kernel
theorem dX2_countBoth_8 : decode cX2_countBoth 8 = .ok (.aload_n 0, 1) := by decide +kernel
theorem dX2_countBoth_9 : decode cX2_countBoth 9 = .ok (.getfield 28, 3) := by decide +kernel
theorem dX2_countBoth_12 : decode cX2_countBoth 12 = .ok (.if_icmp .ge 35, 3) := by decide +kernel
theorem dX2_countBoth_15 : decode cX2_countBoth 15 = .ok (.aload_n 0, 1) := by decide +kernel
theorem dX2_countBoth_16 : decode cX2_countBoth 16 = .ok (.iload 6, 2) := by decide +kernel
theorem dX2_countBoth_18 : decode cX2_countBoth 18 = .ok (.iload_n 1, 1) := by decide +kernel
theorem dX2_countBoth_19 : decode cX2_countBoth 19 = .ok (.invokevirtual 31, 3) := by decide +kernel
theorem dX2_countBoth_22 : decode cX2_countBoth 22 = .ok (.iload_n 2, 1) := by decide +kernel
theorem dX2_countBoth_23 : decode cX2_countBoth 23 = .ok (.if_icmp .ne 18, 3) := by decide +kernel
theorem dX2_countBoth_26 : decode cX2_countBoth 26 = .ok (.aload_n 0, 1) := by decide +kernel
theorem dX2_countBoth_27 : decode cX2_countBoth 27 = .ok (.iload 6, 2) := by decide +kernel
theorem dX2_countBoth_29 : decode cX2_countBoth 29 = .ok (.iload_n 3, 1) := by decide +kernel
theorem dX2_countBoth_30 : decode cX2_countBoth 30 = .ok (.invokevirtual 31, 3) := by decide +kernel
theorem dX2_countBoth_33 : decode cX2_countBoth 33 = .ok (.iload 4, 2) := by decide +kernel
theorem dX2_countBoth_35 : decode cX2_countBoth 35 = .ok (.if_icmp .ne 6, 3) := by decide +kernel
theorem dX2_countBoth_38 : decode cX2_countBoth 38 = .ok (.iinc 5 1, 3) := by decide +kernel
theorem dX2_countBoth_41 : decode cX2_countBoth 41 = .ok (.iinc 6 1, 3) := by decide +kernel
theorem dX2_countBoth_44 : decode cX2_countBoth 44 = .ok (.goto (-38), 3) := by decide +kernel
theorem dX2_countBoth_47 : decode cX2_countBoth 47 = .ok (.iload 5, 2) := by decide +kernel
theorem dX2_countBoth_49 : decode cX2_countBoth 49 = .ok (.ireturn, 1) := by decide +kernel
theorem dX2_sumOf_0 : decode cX2_sumOf 0 = .ok (.iconst 0, 1) := by decide +kernel
theorem dX2_sumOf_1 : decode cX2_sumOf 1 = .ok (.istore_n 2, 1) := by decide +kernel
theorem dX2_sumOf_2 : decode cX2_sumOf 2 = .ok (.iconst 0, 1) := by decide +kernel
theorem dX2_sumOf_3 : decode cX2_sumOf 3 = .ok (.istore_n 3, 1) := by decide +kernel
theorem dX2_sumOf_4 : decode cX2_sumOf 4 = .ok (.iload_n 3, 1) := by decide +kernel
theorem dX2_sumOf_5 : decode cX2_sumOf 5 = .ok (.aload_n 0, 1) := by decide +kernel
theorem dX2_sumOf_6 : decode cX2_sumOf 6 = .ok (.getfield 28, 3) := by decide +kernel
theorem dX2_sumOf_9 : decode cX2_sumOf 9 = .ok (.if_icmp .ge 18, 3) := by decide +kernel
theorem dX2_sumOf_12 : decode cX2_sumOf 12 = .ok (.iload_n 2, 1) := by decide +kernel
theorem dX2_sumOf_13 : decode cX2_sumOf 13 = .ok (.aload_n 0, 1) := by decide +kernel
theorem dX2_sumOf_14 : decode cX2_sumOf 14 = .ok (.iload_n 3, 1) := by decide +kernel
theorem dX2_sumOf_15 : decode cX2_sumOf 15 = .ok (.iload_n 1, 1) := by decide +kernel
theorem dX2_sumOf_16 : decode cX2_sumOf 16 = .ok (.invokevirtual 31, 3) := by decide +kernel
theorem dX2_sumOf_19 : decode cX2_sumOf 19 = .ok (.iadd, 1) := by decide +kernel
theorem dX2_sumOf_20 : decode cX2_sumOf 20 = .ok (.istore_n 2, 1) := by decide +kernel
theorem dX2_sumOf_21 : decode cX2_sumOf 21 = .ok (.iinc 3 1, 3) := by decide +kernel
theorem dX2_sumOf_24 : decode cX2_sumOf 24 = .ok (.goto (-20), 3) := by decide +kernel
theorem dX2_sumOf_27 : decode cX2_sumOf 27 = .ok (.iload_n 2, 1) := by decide +kernel
theorem dX2_sumOf_28 : decode cX2_sumOf 28 = .ok (.ireturn, 1) := by decide +kernel
theorem dX2_copyFrom_0 : decode cX2_copyFrom 0 = .ok (.aload_n 0, 1) := by decide +kernel
theorem dX2_copyFrom_1 : decode cX2_copyFrom 1 = .ok (.aload_n 1, 1) := by decide +kernel
theorem dX2_copyFrom_2 : decode cX2_copyFrom 2 = .ok (.getfield 28, 3) := by decide +kernel
theorem dX2_copyFrom_5 : decode cX2_copyFrom 5 = .ok (.aload_n 0, 1) := by decide +kernel
theorem dX2_copyFrom_6 : decode cX2_copyFrom 6 = .ok (.getfield 9, 3) := by decide +kernel
theorem dX2_copyFrom_9 : decode cX2_copyFrom 9 = .ok (.invokestatic 46, 3) := by decide +kernel
theorem dX2_copyFrom_12 : decode cX2_copyFrom 12 = .ok (.putfield 28, 3) := by decide +kernel
theorem dX2_copyFrom_15 : decode cX2_copyFrom 15 = .ok (.aload_n 1, 1) := by decide +kernel
theorem dX2_copyFrom_16 : decode cX2_copyFrom 16 = .ok (.getfield 24, 3) := by decide +kernel
theorem dX2_copyFrom_19 : decode cX2_copyFrom 19 = .ok (.iconst 0, 1) := by decide +kernel
theorem dX2_copyFrom_20 : decode cX2_copyFrom 20 = .ok (.aload_n 0, 1) := by decide +kernel
theorem dX2_copyFrom_21 : decode cX2_copyFrom 21 = .ok (.getfield 24, 3) := by decide +kernel
theorem dX2_copyFrom_24 : decode cX2_copyFrom 24 = .ok (.iconst 0, 1) := by decide +kernel
theorem dX2_copyFrom_25 : decode cX2_copyFrom 25 = .ok (.aload_n 1, 1) := by decide +kernel
theorem dX2_copyFrom_26 : decode cX2_copyFrom 26 = .ok (.getfield 24, 3) := by decide +kernel
theorem dX2_copyFrom_29 : decode cX2_copyFrom 29 = .ok (.arraylength, 1) := by decide +kernel
theorem dX2_copyFrom_30 : decode cX2_copyFrom 30 = .ok (.aload_n 0, 1) := by decide +kernel
theorem dX2_copyFrom_31 : decode cX2_copyFrom 31 = .ok (.getfield 24, 3) := by decide +kernel
theorem dX2_copyFrom_34 : decode cX2_copyFrom 34 = .ok (.arraylength, 1) := by decide +kernel
theorem dX2_copyFrom_35 : decode cX2_copyFrom 35 = .ok (.invokestatic 46, 3) := by decide +kernel
theorem dX2_copyFrom_38 : decode cX2_copyFrom 38 = .ok (.invokestatic 49, 3) := by decide +kernel
theorem dX2_copyFrom_41 : decode cX2_copyFrom 41 = .ok (.return_, 1) := by decide +kernel
theorem dX3_init_0 : decode cX3_init 0 = .ok (.aload_n 0, 1) := by decide +kernel
theorem dX3_init_1 : decode cX3_init 1 = .ok (.invokespecial 3, 3) := by decide +kernel
theorem dX3_init_4 : decode cX3_init 4 = .ok (.aload_n 0, 1) := by decide +kernel
theorem dX3_init_5 : decode cX3_init 5 = .ok (.bipush 60, 2) := by decide +kernel
theorem dX3_init_7 : decode cX3_init 7 = .ok (.newarray .char, 2) := by decide +kernel
theorem dX3_init_9 : decode cX3_init 9 = .ok (.putfield 9, 3) := by decide +kernel
theorem dX3_init_12 : decode cX3_init 12 = .ok (.aload_n 0, 1) := by decide +kernel
theorem dX3_init_13 : decode cX3_init 13 = .ok (.new 15, 3) := by decide +kernel
theorem dX3_init_16 : decode cX3_init 16 = .ok (.dup, 1) := by decide +kernel
theorem dX3_init_17 : decode cX3_init 17 = .ok (.bipush 15, 2) := by decide +kernel
theorem dX3_init_19 : decode cX3_init 19 = .ok (.iconst 2, 1) := by decide +kernel
theorem dX3_init_20 : decode cX3_init 20 = .ok (.invokespecial 17, 3) := by decide +kernel
theorem dX3_init_23 : decode cX3_init 23 = .ok (.putfield 20, 3) := by decide +kernel
theorem dX3_init_26 : decode cX3_init 26 = .ok (.return_, 1) := by decide +kernel
theorem dX3_length_0 : decode cX3_length 0 = .ok (.aload_n 0, 1) := by decide +kernel
theorem dX3_length_1 : decode cX3_length 1 = .ok (.getfield 24, 3) := by decide +kernel
theorem dX3_length_4 : decode cX3_length 4 = .ok (.ireturn, 1) := by decide +kernel
theorem dX4_init_0 : decode cX4_init 0 = .ok (.aload_n 0, 1) := by decide +kernel
theorem dX4_init_1 : decode cX4_init 1 = .ok (.invokespecial 3, 3) := by decide +kernel
theorem dX4_init_4 : decode cX4_init 4 = .ok (.aload_n 0, 1) := by decide +kernel
theorem dX4_init_5 : decode cX4_init 5 = .ok (.new 9, 3) := by decide +kernel
theorem dX4_init_8 : decode cX4_init 8 = .ok (.dup, 1) := by decide +kernel
theorem dX4_init_9 : decode cX4_init 9 = .ok (.invokespecial 11, 3) := by decide +kernel
theorem dX4_init_12 : decode cX4_init 12 = .ok (.putfield 12, 3) := by decide +kernel
theorem dX4_init_15 : decode cX4_init 15 = .ok (.aload_n 0, 1) := by decide +kernel
theorem dX4_init_16 : decode cX4_init 16 = .ok (.new 9, 3) := by decide +kernel
theorem dX4_init_19 : decode cX4_init 19 = .ok (.dup, 1) := by decide +kernel
theorem dX4_init_20 : decode cX4_init 20 = .ok (.invokespecial 11, 3) := by decide +kernel
theorem dX4_init_23 : decode cX4_init 23 = .ok (.putfield 16, 3) := by decide +kernel
theorem dX4_init_26 : decode cX4_init 26 = .ok (.aload_n 0, 1) := by decide +kernel
theorem dX4_init_27 : decode cX4_init 27 = .ok (.new 9, 3) := by decide +kernel
theorem dX4_init_30 : decode cX4_init 30 = .ok (.dup, 1) := by decide +kernel
theorem dX4_init_31 : decode cX4_init 31 = .ok (.invokespecial 11, 3) := by decide +kernel
theorem dX4_init_34 : decode cX4_init 34 = .ok (.putfield 19, 3) := by decide +kernel
theorem dX4_init_37 : decode cX4_init 37 = .ok (.aload_n 0, 1) := by decide +kernel
theorem dX4_init_38 : decode cX4_init 38 = .ok (.new 22, 3) := by decide +kernel
theorem dX4_init_41 : decode cX4_init 41 = .ok (.dup, 1) := by decide +kernel
theorem dX4_init_42 : decode cX4_init 42 = .ok (.invokespecial 24, 3) := by decide +kernel
theorem dX4_init_45 : decode cX4_init 45 = .ok (.putfield 25, 3) := by decide +kernel
theorem dX4_init_48 : decode cX4_init 48 = .ok (.aload_n 0, 1) := by decide +kernel
theorem dX4_init_49 : decode cX4_init 49 = .ok (.new 29, 3) := by decide +kernel
theorem dX4_init_52 : decode cX4_init 52 = .ok (.dup, 1) := by decide +kernel
theorem dX4_init_53 : decode cX4_init 53 = .ok (.invokespecial 31, 3) := by decide +kernel
theorem dX4_init_56 : decode cX4_init 56 = .ok (.putfield 32, 3) := by decide +kernel
theorem dX4_init_59 : decode cX4_init 59 = .ok (.aload_n 0, 1) := by decide +kernel
theorem dX4_init_60 : decode cX4_init 60 = .ok (.iconst 0, 1) := by decide +kernel
theorem dX4_init_61 : decode cX4_init 61 = .ok (.putfield 36, 3) := by decide +kernel
theorem dX4_init_64 : decode cX4_init 64 = .ok (.return_, 1) := by decide +kernel
theorem dX4_addMachine_0 : decode cX4_addMachine 0 = .ok (.iload_n 1, 1) := by decide +kernel
theorem dX4_addMachine_1 : decode cX4_addMachine 1 = .ok (.bipush 10, 2) := by decide +kernel
theorem dX4_addMachine_3 : decode cX4_addMachine 3 = .ok (.sipush 200, 3) := by decide +kernel
theorem dX4_addMachine_6 : decode cX4_addMachine 6 = .ok (.invokestatic 40, 3) := by decide +kernel
theorem dX4_addMachine_9 : decode cX4_addMachine 9 = .ok (.ifCond .eq 13, 3) := by decide +kernel
theorem dX4_addMachine_12 : decode cX4_addMachine 12 = .ok (.iload_n 2, 1) := by decide +kernel
theorem dX4_addMachine_13 : decode cX4_addMachine 13 = .ok (.iconst 0, 1) := by decide +kernel
theorem dX4_addMachine_14 : decode cX4_addMachine 14 = .ok (.bipush 12, 2) := by decide +kernel
theorem dX4_addMachine_16 : decode cX4_addMachine 16 = .ok (.invokestatic 40, 3) := by decide +kernel
theorem dX4_addMachine_19 : decode cX4_addMachine 19 = .ok (.ifCond .ne 6, 3) := by decide +kernel
theorem dX4_addMachine_22 : decode cX4_addMachine 22 = .ok (.bipush (-2), 2) := by decide +kernel
theorem dX4_addMachine_24 : decode cX4_addMachine 24 = .ok (.ireturn, 1) := by decide +kernel
theorem dX4_addMachine_25 : decode cX4_addMachine 25 = .ok (.aload_n 0, 1) := by decide +kernel
theorem dX4_addMachine_26 : decode cX4_addMachine 26 = .ok (.getfield 12, 3) := by decide +kernel
theorem dX4_addMachine_29 : decode cX4_addMachine 29 = .ok (.getfield 44, 3) := by decide +kernel
theorem dX4_addMachine_32 : decode cX4_addMachine 32 = .ok (.invokevirtual 48, 3) := by decide +kernel
theorem dX4_addMachine_35 : decode cX4_addMachine 35 = .ok (.ifCond .eq 6, 3) := by decide +kernel
theorem dX4_addMachine_38 : decode cX4_addMachine 38 = .ok (.bipush (-3), 2) := by decide +kernel
theorem dX4_addMachine_40 : decode cX4_addMachine 40 = .ok (.ireturn, 1) := by decide +kernel
theorem dX4_addMachine_41 : decode cX4_addMachine 41 = .ok (.aload_n 0, 1) := by decide +kernel
theorem dX4_addMachine_42 : decode cX4_addMachine 42 = .ok (.getfield 25, 3) := by decide +kernel
theorem dX4_addMachine_45 : decode cX4_addMachine 45 = .ok (.aload_n 0, 1) := by decide +kernel
theorem dX4_addMachine_46 : decode cX4_addMachine 46 = .ok (.getfield 12, 3) := by decide +kernel
theorem dX4_addMachine_49 : decode cX4_addMachine 49 = .ok (.invokevirtual 54, 3) := by decide +kernel
theorem dX4_addMachine_52 : decode cX4_addMachine 52 = .ok (.aload_n 0, 1) := by decide +kernel
theorem dX4_addMachine_53 : decode cX4_addMachine 53 = .ok (.getfield 12, 3) := by decide +kernel
theorem dX4_addMachine_56 : decode cX4_addMachine 56 = .ok (.iload_n 1, 1) := by decide +kernel
theorem dX4_addMachine_57 : decode cX4_addMachine 57 = .ok (.iload_n 2, 1) := by decide +kernel
theorem dX4_addMachine_58 : decode cX4_addMachine 58 = .ok (.invokevirtual 58, 3) := by decide +kernel
theorem dX4_addMachine_61 : decode cX4_addMachine 61 = .ok (.ireturn, 1) := by decide +kernel
theorem dX4_addMember_0 : decode cX4_addMember 0 = .ok (.aload_n 0, 1) := by decide +kernel
theorem dX4_addMember_1 : decode cX4_addMember 1 = .ok (.getfield 12, 3) := by decide +kernel
theorem dX4_addMember_4 : decode cX4_addMember 4 = .ok (.getfield 62, 3) := by decide +kernel
theorem dX4_addMember_7 : decode cX4_addMember 7 = .ok (.invokevirtual 48, 3) := by decide +kernel
theorem dX4_addMember_10 : decode cX4_addMember 10 = .ok (.ifCond .eq 6, 3) := by decide +kernel
theorem dX4_addMember_13 : decode cX4_addMember 13 = .ok (.bipush (-3), 2) := by decide +kernel
theorem dX4_addMember_15 : decode cX4_addMember 15 = .ok (.ireturn, 1) := by decide +kernel
theorem dX4_addMember_16 : decode cX4_addMember 16 = .ok (.aload_n 0, 1) := by decide +kernel
theorem dX4_addMember_17 : decode cX4_addMember 17 = .ok (.getfield 25, 3) := by decide +kernel
theorem dX4_addMember_20 : decode cX4_addMember 20 = .ok (.aload_n 0, 1) := by decide +kernel
theorem dX4_addMember_21 : decode cX4_addMember 21 = .ok (.getfield 12, 3) := by decide +kernel
theorem dX4_addMember_24 : decode cX4_addMember 24 = .ok (.invokevirtual 54, 3) := by decide +kernel
theorem dX4_addMember_27 : decode cX4_addMember 27 = .ok (.aload_n 0, 1) := by decide +kernel
theorem dX4_addMember_28 : decode cX4_addMember 28 = .ok (.getfield 12, 3) := by decide +kernel
theorem dX4_addMember_31 : decode cX4_addMember 31 = .ok (.getfield 62, 3) := by decide +kernel
theorem dX4_addMember_34 : decode cX4_addMember 34 = .ok (.invokevirtual 65, 3) := by decide +kernel
theorem dX4_addMember_37 : decode cX4_addMember 37 = .ok (.ireturn, 1) := by decide +kernel
theorem dX4_setWind_0 : decode cX4_setWind 0 = .ok (.aload_n 0, 1) := by decide +kernel
theorem dX4_setWind_1 : decode cX4_setWind 1 = .ok (.getfield 12, 3) := by decide +kernel
theorem dX4_setWind_4 : decode cX4_setWind 4 = .ok (.iload_n 1, 1) := by decide +kernel
theorem dX4_setWind_5 : decode cX4_setWind 5 = .ok (.invokevirtual 69, 3) := by decide +kernel
theorem dX4_setWind_8 : decode cX4_setWind 8 = .ok (.ifCond .ne 5, 3) := by decide +kernel
theorem dX4_setWind_11 : decode cX4_setWind 11 = .ok (.iconst (-1), 1) := by decide +kernel
theorem dX4_setWind_12 : decode cX4_setWind 12 = .ok (.ireturn, 1) := by decide +kernel
theorem dX4_setWind_13 : decode cX4_setWind 13 = .ok (.iload_n 2, 1) := by decide +kernel
theorem dX4_setWind_14 : decode cX4_setWind 14 = .ok (.iconst 0, 1) := by decide +kernel
theorem dX4_setWind_15 : decode cX4_setWind 15 = .ok (.bipush 99, 2) := by decide +kernel
theorem dX4_setWind_17 : decode cX4_setWind 17 = .ok (.invokestatic 40, 3) := by decide +kernel
theorem dX4_setWind_20 : decode cX4_setWind 20 = .ok (.ifCond .ne 6, 3) := by decide +kernel
theorem dX4_setWind_23 : decode cX4_setWind 23 = .ok (.bipush (-2), 2) := by decide +kernel
theorem dX4_setWind_25 : decode cX4_setWind 25 = .ok (.ireturn, 1) := by decide +kernel
theorem dX4_setWind_26 : decode cX4_setWind 26 = .ok (.aload_n 0, 1) := by decide +kernel
theorem dX4_setWind_27 : decode cX4_setWind 27 = .ok (.getfield 12, 3) := by decide +kernel
theorem dX4_setWind_30 : decode cX4_setWind 30 = .ok (.iload_n 1, 1) := by decide +kernel
theorem dX4_setWind_31 : decode cX4_setWind 31 = .ok (.invokevirtual 73, 3) := by decide +kernel
theorem dX4_setWind_34 : decode cX4_setWind 34 = .ok (.istore_n 3, 1) := by decide +kernel
theorem dX4_setWind_35 : decode cX4_setWind 35 = .ok (.iload_n 3, 1) := by decide +kernel
theorem dX4_setWind_36 : decode cX4_setWind 36 = .ok (.iload_n 2, 1) := by decide +kernel
theorem dX4_setWind_37 : decode cX4_setWind 37 = .ok (.if_icmp .ne 6, 3) := by decide +kernel
theorem dX4_setWind_40 : decode cX4_setWind 40 = .ok (.bipush (-5), 2) := by decide +kernel
theorem dX4_setWind_42 : decode cX4_setWind 42 = .ok (.ireturn, 1) := by decide +kernel
theorem dX4_setWind_43 : decode cX4_setWind 43 = .ok (.aload_n 0, 1) := by decide +kernel
theorem dX4_setWind_44 : decode cX4_setWind 44 = .ok (.getfield 25, 3) := by decide +kernel
theorem dX4_setWind_47 : decode cX4_setWind 47 = .ok (.aload_n 0, 1) := by decide +kernel
theorem dX4_setWind_48 : decode cX4_setWind 48 = .ok (.getfield 12, 3) := by decide +kernel
theorem dX4_setWind_51 : decode cX4_setWind 51 = .ok (.invokevirtual 54, 3) := by decide +kernel
theorem dX4_setWind_54 : decode cX4_setWind 54 = .ok (.aload_n 0, 1) := by decide +kernel
theorem dX4_setWind_55 : decode cX4_setWind 55 = .ok (.getfield 12, 3) := by decide +kernel
theorem dX4_setWind_58 : decode cX4_setWind 58 = .ok (.iload_n 1, 1) := by decide +kernel
theorem dX4_setWind_59 : decode cX4_setWind 59 = .ok (.iload_n 2, 1) := by decide +kernel
theorem dX4_setWind_60 : decode cX4_setWind 60 = .ok (.invokevirtual 77, 3) := by decide +kernel
theorem dX4_setWind_63 : decode cX4_setWind 63 = .ok (.iload_n 3, 1) := by decide +kernel
theorem dX4_setWind_64 : decode cX4_setWind 64 = .ok (.ireturn, 1) := by decide +kernel
theorem dX4_book_0 : decode cX4_book 0 = .ok (.aload_n 0, 1) := by decide +kernel
theorem dX4_book_1 : decode cX4_book 1 = .ok (.getfield 12, 3) := by decide +kernel
theorem dX4_book_4 : decode cX4_book 4 = .ok (.getfield 62, 3) := by decide +kernel
theorem dX4_book_7 : decode cX4_book 7 = .ok (.iload_n 1, 1) := by decide +kernel
theorem dX4_book_8 : decode cX4_book 8 = .ok (.invokevirtual 81, 3) := by decide +kernel
theorem dX4_book_11 : decode cX4_book 11 = .ok (.ifCond .eq 28, 3) := by decide +kernel
theorem dX4_book_14 : decode cX4_book 14 = .ok (.aload_n 0, 1) := by decide +kernel
theorem dX4_book_15 : decode cX4_book 15 = .ok (.getfield 12, 3) := by decide +kernel
theorem dX4_book_18 : decode cX4_book 18 = .ok (.getfield 44, 3) := by decide +kernel
theorem dX4_book_21 : decode cX4_book 21 = .ok (.iload_n 2, 1) := by decide +kernel
theorem dX4_book_22 : decode cX4_book 22 = .ok (.invokevirtual 81, 3) := by decide +kernel
theorem dX4_book_25 : decode cX4_book 25 = .ok (.ifCond .eq 14, 3) := by decide +kernel
theorem dX4_book_28 : decode cX4_book 28 = .ok (.aload_n 0, 1) := by decide +kernel
theorem dX4_book_29 : decode cX4_book 29 = .ok (.getfield 12, 3) := by decide +kernel
theorem dX4_book_32 : decode cX4_book 32 = .ok (.iload_n 3, 1) := by decide +kernel
theorem dX4_book_33 : decode cX4_book 33 = .ok (.invokevirtual 69, 3) := by decide +kernel
theorem dX4_book_36 : decode cX4_book 36 = .ok (.ifCond .ne 5, 3) := by decide +kernel
theorem dX4_book_39 : decode cX4_book 39 = .ok (.iconst (-1), 1) := by decide +kernel
theorem dX4_book_40 : decode cX4_book 40 = .ok (.ireturn, 1) := by decide +kernel
theorem dX4_book_41 : decode cX4_book 41 = .ok (.iload 4, 2) := by decide +kernel
theorem dX4_book_43 : decode cX4_book 43 = .ok (.iload 5, 2) := by decide +kernel
theorem dX4_book_45 : decode cX4_book 45 = .ok (.invokestatic 84, 3) := by decide +kernel
theorem dX4_book_48 : decode cX4_book 48 = .ok (.ifCond .ne 6, 3) := by decide +kernel
theorem dX4_book_51 : decode cX4_book 51 = .ok (.bipush (-2), 2) := by decide +kernel
theorem dX4_book_53 : decode cX4_book 53 = .ok (.ireturn, 1) := by decide +kernel
theorem dX4_book_54 : decode cX4_book 54 = .ok (.aload_n 0, 1) := by decide +kernel
theorem dX4_book_55 : decode cX4_book 55 = .ok (.getfield 12, 3) := by decide +kernel
theorem dX4_book_58 : decode cX4_book 58 = .ok (.iload_n 2, 1) := by decide +kernel
theorem dX4_book_59 : decode cX4_book 59 = .ok (.iload_n 3, 1) := by decide +kernel
theorem dX4_book_60 : decode cX4_book 60 = .ok (.iload 4, 2) := by decide +kernel
theorem dX4_book_62 : decode cX4_book 62 = .ok (.iload 5, 2) := by decide +kernel
theorem dX4_book_64 : decode cX4_book 64 = .ok (.invokevirtual 88, 3) := by decide +kernel
theorem dX4_book_67 : decode cX4_book 67 = .ok (.ifCond .ne 6, 3) := by decide +kernel
theorem dX4_book_70 : decode cX4_book 70 = .ok (.bipush (-4), 2) := by decide +kernel
theorem dX4_book_72 : decode cX4_book 72 = .ok (.ireturn, 1) := by decide +kernel
theorem dX4_book_73 : decode cX4_book 73 = .ok (.aload_n 0, 1) := by decide +kernel
theorem dX4_book_74 : decode cX4_book 74 = .ok (.getfield 12, 3) := by decide +kernel
theorem dX4_book_77 : decode cX4_book 77 = .ok (.getfield 92, 3) := by decide +kernel
theorem dX4_book_80 : decode cX4_book 80 = .ok (.invokevirtual 48, 3) := by decide +kernel
theorem dX4_book_83 : decode cX4_book 83 = .ok (.ifCond .eq 6, 3) := by decide +kernel
theorem dX4_book_86 : decode cX4_book 86 = .ok (.bipush (-3), 2) := by decide +kernel
theorem dX4_book_88 : decode cX4_book 88 = .ok (.ireturn, 1) := by decide +kernel
theorem dX4_book_89 : decode cX4_book 89 = .ok (.aload_n 0, 1) := by decide +kernel
theorem dX4_book_90 : decode cX4_book 90 = .ok (.getfield 25, 3) := by decide +kernel
theorem dX4_book_93 : decode cX4_book 93 = .ok (.aload_n 0, 1) := by decide +kernel
theorem dX4_book_94 : decode cX4_book 94 = .ok (.getfield 12, 3) := by decide +kernel
theorem dX4_book_97 : decode cX4_book 97 = .ok (.invokevirtual 54, 3) := by decide +kernel
theorem dX4_book_100 : decode cX4_book 100 = .ok (.aload_n 0, 1) := by decide +kernel
theorem dX4_book_101 : decode cX4_book 101 = .ok (.getfield 12, 3) := by decide +kernel
theorem dX4_book_104 : decode cX4_book 104 = .ok (.iload_n 1, 1) := by decide +kernel
theorem dX4_book_105 : decode cX4_book 105 = .ok (.iload 4, 2) := by decide +kernel
theorem dX4_book_107 : decode cX4_book 107 = .ok (.iload 5, 2) := by decide +kernel
theorem dX4_book_109 : decode cX4_book 109 = .ok (.invokevirtual 95, 3) := by decide +kernel
theorem dX4_book_112 : decode cX4_book 112 = .ok (.istore 6, 2) := by decide +kernel
theorem dX4_book_114 : decode cX4_book 114 = .ok (.aload_n 0, 1) := by decide +kernel
theorem dX4_book_115 : decode cX4_book 115 = .ok (.getfield 12, 3) := by decide +kernel
theorem dX4_book_118 : decode cX4_book 118 = .ok (.iload 6, 2) := by decide +kernel
theorem dX4_book_120 : decode cX4_book 120 = .ok (.iload_n 2, 1) := by decide +kernel
theorem dX4_book_121 : decode cX4_book 121 = .ok (.iload_n 3, 1) := by decide +kernel
theorem dX4_book_122 : decode cX4_book 122 = .ok (.invokevirtual 99, 3) := by decide +kernel
theorem dX4_book_125 : decode cX4_book 125 = .ok (.iload 6, 2) := by decide +kernel
theorem dX4_book_127 : decode cX4_book 127 = .ok (.ireturn, 1) := by decide +kernel
theorem dX4_cancel_0 : decode cX4_cancel 0 = .ok (.aload_n 0, 1) := by decide +kernel
theorem dX4_cancel_1 : decode cX4_cancel 1 = .ok (.getfield 12, 3) := by decide +kernel
theorem dX4_cancel_4 : decode cX4_cancel 4 = .ok (.getfield 92, 3) := by decide +kernel
theorem dX4_cancel_7 : decode cX4_cancel 7 = .ok (.iload_n 1, 1) := by decide +kernel
theorem dX4_cancel_8 : decode cX4_cancel 8 = .ok (.invokevirtual 81, 3) := by decide +kernel
theorem dX4_cancel_11 : decode cX4_cancel 11 = .ok (.ifCond .ne 5, 3) := by decide +kernel
theorem dX4_cancel_14 : decode cX4_cancel 14 = .ok (.iconst (-1), 1) := by decide +kernel
theorem dX4_cancel_15 : decode cX4_cancel 15 = .ok (.ireturn, 1) := by decide +kernel
theorem dX4_cancel_16 : decode cX4_cancel 16 = .ok (.aload_n 0, 1) := by decide +kernel
theorem dX4_cancel_17 : decode cX4_cancel 17 = .ok (.getfield 12, 3) := by decide +kernel
theorem dX4_cancel_20 : decode cX4_cancel 20 = .ok (.iload_n 1, 1) := by decide +kernel
theorem dX4_cancel_21 : decode cX4_cancel 21 = .ok (.invokevirtual 103, 3) := by decide +kernel
theorem dX4_cancel_24 : decode cX4_cancel 24 = .ok (.ifCond .ne 6, 3) := by decide +kernel
theorem dX4_cancel_27 : decode cX4_cancel 27 = .ok (.bipush (-4), 2) := by decide +kernel
theorem dX4_cancel_29 : decode cX4_cancel 29 = .ok (.ireturn, 1) := by decide +kernel
theorem dX4_cancel_30 : decode cX4_cancel 30 = .ok (.aload_n 0, 1) := by decide +kernel
theorem dX4_cancel_31 : decode cX4_cancel 31 = .ok (.getfield 25, 3) := by decide +kernel
theorem dX4_cancel_34 : decode cX4_cancel 34 = .ok (.aload_n 0, 1) := by decide +kernel
theorem dX4_cancel_35 : decode cX4_cancel 35 = .ok (.getfield 12, 3) := by decide +kernel
theorem dX4_cancel_38 : decode cX4_cancel 38 = .ok (.invokevirtual 54, 3) := by decide +kernel
theorem dX4_cancel_41 : decode cX4_cancel 41 = .ok (.aload_n 0, 1) := by decide +kernel
theorem dX4_cancel_42 : decode cX4_cancel 42 = .ok (.getfield 12, 3) := by decide +kernel
theorem dX4_cancel_45 : decode cX4_cancel 45 = .ok (.getfield 92, 3) := by decide +kernel
theorem dX4_cancel_48 : decode cX4_cancel 48 = .ok (.iload_n 1, 1) := by decide +kernel
theorem dX4_cancel_49 : decode cX4_cancel 49 = .ok (.iconst 2, 1) := by decide +kernel
theorem dX4_cancel_50 : decode cX4_cancel 50 = .ok (.invokevirtual 106, 3) := by decide +kernel
theorem dX4_cancel_53 : decode cX4_cancel 53 = .ok (.aload_n 0, 1) := by decide +kernel
theorem dX4_cancel_54 : decode cX4_cancel 54 = .ok (.getfield 12, 3) := by decide +kernel
theorem dX4_cancel_57 : decode cX4_cancel 57 = .ok (.getfield 109, 3) := by decide +kernel
theorem dX4_cancel_60 : decode cX4_cancel 60 = .ok (.if_icmp .ne 7, 3) := by decide +kernel
theorem dX4_cancel_63 : decode cX4_cancel 63 = .ok (.iconst 4, 1) := by decide +kernel
theorem dX4_cancel_64 : decode cX4_cancel 64 = .ok (.goto 4, 3) := by decide +kernel
theorem dX4_cancel_67 : decode cX4_cancel 67 = .ok (.iconst 0, 1) := by decide +kernel
theorem dX4_cancel_68 : decode cX4_cancel 68 = .ok (.istore_n 2, 1) := by decide +kernel
theorem dX4_cancel_69 : decode cX4_cancel 69 = .ok (.aload_n 0, 1) := by decide +kernel
theorem dX4_cancel_70 : decode cX4_cancel 70 = .ok (.getfield 12, 3) := by decide +kernel
theorem dX4_cancel_73 : decode cX4_cancel 73 = .ok (.aload_n 0, 1) := by decide +kernel
theorem dX4_cancel_74 : decode cX4_cancel 74 = .ok (.getfield 12, 3) := by decide +kernel
theorem dX4_cancel_77 : decode cX4_cancel 77 = .ok (.getfield 92, 3) := by decide +kernel
theorem dX4_cancel_80 : decode cX4_cancel 80 = .ok (.iload_n 1, 1) := by decide +kernel
theorem dX4_cancel_81 : decode cX4_cancel 81 = .ok (.iconst 0, 1) := by decide +kernel
theorem dX4_cancel_82 : decode cX4_cancel 82 = .ok (.invokevirtual 106, 3) := by decide +kernel
theorem dX4_cancel_85 : decode cX4_cancel 85 = .ok (.iload_n 2, 1) := by decide +kernel
theorem dX4_cancel_86 : decode cX4_cancel 86 = .ok (.invokevirtual 113, 3) := by decide +kernel
theorem dX4_cancel_89 : decode cX4_cancel 89 = .ok (.aload_n 0, 1) := by decide +kernel
theorem dX4_cancel_90 : decode cX4_cancel 90 = .ok (.getfield 12, 3) := by decide +kernel
theorem dX4_cancel_93 : decode cX4_cancel 93 = .ok (.getfield 92, 3) := by decide +kernel
theorem dX4_cancel_96 : decode cX4_cancel 96 = .ok (.iload_n 1, 1) := by decide +kernel
theorem dX4_cancel_97 : decode cX4_cancel 97 = .ok (.iconst 5, 1) := by decide +kernel
theorem dX4_cancel_98 : decode cX4_cancel 98 = .ok (.iconst 3, 1) := by decide +kernel
theorem dX4_cancel_99 : decode cX4_cancel 99 = .ok (.invokevirtual 116, 3) := by decide +kernel
theorem dX4_cancel_102 : decode cX4_cancel 102 = .ok (.iload_n 2, 1) := by decide +kernel
theorem dX4_cancel_103 : decode cX4_cancel 103 = .ok (.ireturn, 1) := by decide +kernel
theorem dX4_swap_0 : decode cX4_swap 0 = .ok (.aload_n 0, 1) := by decide +kernel
theorem dX4_swap_1 : decode cX4_swap 1 = .ok (.getfield 12, 3) := by decide +kernel
theorem dX4_swap_4 : decode cX4_swap 4 = .ok (.getfield 92, 3) := by decide +kernel
theorem dX4_swap_7 : decode cX4_swap 7 = .ok (.iload_n 1, 1) := by decide +kernel
theorem dX4_swap_8 : decode cX4_swap 8 = .ok (.invokevirtual 81, 3) := by decide +kernel
theorem dX4_swap_11 : decode cX4_swap 11 = .ok (.ifCond .eq 17, 3) := by decide +kernel
theorem dX4_swap_14 : decode cX4_swap 14 = .ok (.aload_n 0, 1) := by decide +kernel
theorem dX4_swap_15 : decode cX4_swap 15 = .ok (.getfield 12, 3) := by decide +kernel
theorem dX4_swap_18 : decode cX4_swap 18 = .ok (.getfield 92, 3) := by decide +kernel
theorem dX4_swap_21 : decode cX4_swap 21 = .ok (.iload_n 2, 1) := by decide +kernel
theorem dX4_swap_22 : decode cX4_swap 22 = .ok (.invokevirtual 81, 3) := by decide +kernel
theorem dX4_swap_25 : decode cX4_swap 25 = .ok (.ifCond .ne 5, 3) := by decide +kernel
theorem dX4_swap_28 : decode cX4_swap 28 = .ok (.iconst (-1), 1) := by decide +kernel
theorem dX4_swap_29 : decode cX4_swap 29 = .ok (.ireturn, 1) := by decide +kernel
theorem dX4_swap_30 : decode cX4_swap 30 = .ok (.iload_n 1, 1) := by decide +kernel
theorem dX4_swap_31 : decode cX4_swap 31 = .ok (.iload_n 2, 1) := by decide +kernel
theorem dX4_swap_32 : decode cX4_swap 32 = .ok (.if_icmp .ne 6, 3) := by decide +kernel
theorem dX4_swap_35 : decode cX4_swap 35 = .ok (.bipush (-2), 2) := by decide +kernel
theorem dX4_swap_37 : decode cX4_swap 37 = .ok (.ireturn, 1) := by decide +kernel
theorem dX4_swap_38 : decode cX4_swap 38 = .ok (.aload_n 0, 1) := by decide +kernel
theorem dX4_swap_39 : decode cX4_swap 39 = .ok (.getfield 12, 3) := by decide +kernel
theorem dX4_swap_42 : decode cX4_swap 42 = .ok (.iload_n 1, 1) := by decide +kernel
theorem dX4_swap_43 : decode cX4_swap 43 = .ok (.invokevirtual 103, 3) := by decide +kernel
theorem dX4_swap_46 : decode cX4_swap 46 = .ok (.ifCond .eq 14, 3) := by decide +kernel
theorem dX4_swap_49 : decode cX4_swap 49 = .ok (.aload_n 0, 1) := by decide +kernel
theorem dX4_swap_50 : decode cX4_swap 50 = .ok (.getfield 12, 3) := by decide +kernel
theorem dX4_swap_53 : decode cX4_swap 53 = .ok (.iload_n 2, 1) := by decide +kernel
theorem dX4_swap_54 : decode cX4_swap 54 = .ok (.invokevirtual 103, 3) := by decide +kernel
theorem dX4_swap_57 : decode cX4_swap 57 = .ok (.ifCond .ne 6, 3) := by decide +kernel
theorem dX4_swap_60 : decode cX4_swap 60 = .ok (.bipush (-4), 2) := by decide +kernel
theorem dX4_swap_62 : decode cX4_swap 62 = .ok (.ireturn, 1) := by decide +kernel
theorem dX4_swap_63 : decode cX4_swap 63 = .ok (.aload_n 0, 1) := by decide +kernel
theorem dX4_swap_64 : decode cX4_swap 64 = .ok (.getfield 12, 3) := by decide +kernel
theorem dX4_swap_67 : decode cX4_swap 67 = .ok (.getfield 92, 3) := by decide +kernel
theorem dX4_swap_70 : decode cX4_swap 70 = .ok (.iload_n 1, 1) := by decide +kernel
theorem dX4_swap_71 : decode cX4_swap 71 = .ok (.iconst 1, 1) := by decide +kernel
theorem dX4_swap_72 : decode cX4_swap 72 = .ok (.invokevirtual 106, 3) := by decide +kernel
theorem dX4_swap_75 : decode cX4_swap 75 = .ok (.istore_n 3, 1) := by decide +kernel
theorem dX4_swap_76 : decode cX4_swap 76 = .ok (.aload_n 0, 1) := by decide +kernel
theorem dX4_swap_77 : decode cX4_swap 77 = .ok (.getfield 12, 3) := by decide +kernel
theorem dX4_swap_80 : decode cX4_swap 80 = .ok (.getfield 92, 3) := by decide +kernel
theorem dX4_swap_83 : decode cX4_swap 83 = .ok (.iload_n 1, 1) := by decide +kernel
theorem dX4_swap_84 : decode cX4_swap 84 = .ok (.iconst 2, 1) := by decide +kernel
theorem dX4_swap_85 : decode cX4_swap 85 = .ok (.invokevirtual 106, 3) := by decide +kernel
theorem dX4_swap_88 : decode cX4_swap 88 = .ok (.istore 4, 2) := by decide +kernel
theorem dX4_swap_90 : decode cX4_swap 90 = .ok (.aload_n 0, 1) := by decide +kernel
theorem dX4_swap_91 : decode cX4_swap 91 = .ok (.getfield 12, 3) := by decide +kernel
theorem dX4_swap_94 : decode cX4_swap 94 = .ok (.getfield 92, 3) := by decide +kernel
theorem dX4_swap_97 : decode cX4_swap 97 = .ok (.iload_n 2, 1) := by decide +kernel
theorem dX4_swap_98 : decode cX4_swap 98 = .ok (.iconst 1, 1) := by decide +kernel
theorem dX4_swap_99 : decode cX4_swap 99 = .ok (.invokevirtual 106, 3) := by decide +kernel
theorem dX4_swap_102 : decode cX4_swap 102 = .ok (.istore 5, 2) := by decide +kernel
theorem dX4_swap_104 : decode cX4_swap 104 = .ok (.aload_n 0, 1) := by decide +kernel
theorem dX4_swap_105 : decode cX4_swap 105 = .ok (.getfield 12, 3) := by decide +kernel
theorem dX4_swap_108 : decode cX4_swap 108 = .ok (.getfield 92, 3) := by decide +kernel
theorem dX4_swap_111 : decode cX4_swap 111 = .ok (.iload_n 2, 1) := by decide +kernel
theorem dX4_swap_112 : decode cX4_swap 112 = .ok (.iconst 2, 1) := by decide +kernel
theorem dX4_swap_113 : decode cX4_swap 113 = .ok (.invokevirtual 106, 3) := by decide +kernel
theorem dX4_swap_116 : decode cX4_swap 116 = .ok (.istore 6, 2) := by decide +kernel
theorem dX4_swap_118 : decode cX4_swap 118 = .ok (.aload_n 0, 1) := by decide +kernel
theorem dX4_swap_119 : decode cX4_swap 119 = .ok (.getfield 12, 3) := by decide +kernel
theorem dX4_swap_122 : decode cX4_swap 122 = .ok (.iload 5, 2) := by decide +kernel
theorem dX4_swap_124 : decode cX4_swap 124 = .ok (.iload_n 1, 1) := by decide +kernel
theorem dX4_swap_125 : decode cX4_swap 125 = .ok (.invokevirtual 119, 3) := by decide +kernel
theorem dX4_swap_128 : decode cX4_swap 128 = .ok (.ifCond .eq 15, 3) := by decide +kernel
theorem dX4_swap_131 : decode cX4_swap 131 = .ok (.aload_n 0, 1) := by decide +kernel
theorem dX4_swap_132 : decode cX4_swap 132 = .ok (.getfield 12, 3) := by decide +kernel
theorem dX4_swap_135 : decode cX4_swap 135 = .ok (.iload_n 3, 1) := by decide +kernel
theorem dX4_swap_136 : decode cX4_swap 136 = .ok (.iload_n 2, 1) := by decide +kernel
theorem dX4_swap_137 : decode cX4_swap 137 = .ok (.invokevirtual 119, 3) := by decide +kernel
theorem dX4_swap_140 : decode cX4_swap 140 = .ok (.ifCond .ne 6, 3) := by decide +kernel
theorem dX4_swap_143 : decode cX4_swap 143 = .ok (.bipush (-4), 2) := by decide +kernel
theorem dX4_swap_145 : decode cX4_swap 145 = .ok (.ireturn, 1) := by decide +kernel
theorem dX4_swap_146 : decode cX4_swap 146 = .ok (.aload_n 0, 1) := by decide +kernel
theorem dX4_swap_147 : decode cX4_swap 147 = .ok (.getfield 25, 3) := by decide +kernel
theorem dX4_swap_150 : decode cX4_swap 150 = .ok (.aload_n 0, 1) := by decide +kernel
theorem dX4_swap_151 : decode cX4_swap 151 = .ok (.getfield 12, 3) := by decide +kernel
theorem dX4_swap_154 : decode cX4_swap 154 = .ok (.invokevirtual 54, 3) := by decide +kernel
theorem dX4_swap_157 : decode cX4_swap 157 = .ok (.aload_n 0, 1) := by decide +kernel
theorem dX4_swap_158 : decode cX4_swap 158 = .ok (.getfield 12, 3) := by decide +kernel
theorem dX4_swap_161 : decode cX4_swap 161 = .ok (.iload_n 1, 1) := by decide +kernel
theorem dX4_swap_162 : decode cX4_swap 162 = .ok (.iload 5, 2) := by decide +kernel
theorem dX4_swap_164 : decode cX4_swap 164 = .ok (.iload 6, 2) := by decide +kernel
theorem dX4_swap_166 : decode cX4_swap 166 = .ok (.invokevirtual 99, 3) := by decide +kernel
theorem dX4_swap_169 : decode cX4_swap 169 = .ok (.aload_n 0, 1) := by decide +kernel
theorem dX4_swap_170 : decode cX4_swap 170 = .ok (.getfield 12, 3) := by decide +kernel
theorem dX4_swap_173 : decode cX4_swap 173 = .ok (.iload_n 2, 1) := by decide +kernel
theorem dX4_swap_174 : decode cX4_swap 174 = .ok (.iload_n 3, 1) := by decide +kernel
theorem dX4_swap_175 : decode cX4_swap 175 = .ok (.iload 4, 2) := by decide +kernel
theorem dX4_swap_177 : decode cX4_swap 177 = .ok (.invokevirtual 99, 3) := by decide +kernel
theorem dX4_swap_180 : decode cX4_swap 180 = .ok (.iload 6, 2) := by decide +kernel
theorem dX4_swap_182 : decode cX4_swap 182 = .ok (.ireturn, 1) := by decide +kernel
theorem dX4_order_0 : decode cX4_order 0 = .ok (.aload_n 0, 1) := by decide +kernel
theorem dX4_order_1 : decode cX4_order 1 = .ok (.getfield 12, 3) := by decide +kernel
theorem dX4_order_4 : decode cX4_order 4 = .ok (.getfield 62, 3) := by decide +kernel
theorem dX4_order_7 : decode cX4_order 7 = .ok (.iload_n 1, 1) := by decide +kernel
theorem dX4_order_8 : decode cX4_order 8 = .ok (.invokevirtual 81, 3) := by decide +kernel
theorem dX4_order_11 : decode cX4_order 11 = .ok (.ifCond .eq 43, 3) := by decide +kernel
theorem dX4_order_14 : decode cX4_order 14 = .ok (.aload_n 0, 1) := by decide +kernel
theorem dX4_order_15 : decode cX4_order 15 = .ok (.getfield 12, 3) := by decide +kernel
theorem dX4_order_18 : decode cX4_order 18 = .ok (.getfield 44, 3) := by decide +kernel
theorem dX4_order_21 : decode cX4_order 21 = .ok (.iload_n 2, 1) := by decide +kernel
theorem dX4_order_22 : decode cX4_order 22 = .ok (.invokevirtual 81, 3) := by decide +kernel
theorem dX4_order_25 : decode cX4_order 25 = .ok (.ifCond .eq 29, 3) := by decide +kernel
theorem dX4_order_28 : decode cX4_order 28 = .ok (.aload_n 0, 1) := by decide +kernel
theorem dX4_order_29 : decode cX4_order 29 = .ok (.getfield 12, 3) := by decide +kernel
theorem dX4_order_32 : decode cX4_order 32 = .ok (.getfield 44, 3) := by decide +kernel
theorem dX4_order_35 : decode cX4_order 35 = .ok (.iload_n 3, 1) := by decide +kernel
theorem dX4_order_36 : decode cX4_order 36 = .ok (.invokevirtual 81, 3) := by decide +kernel
theorem dX4_order_39 : decode cX4_order 39 = .ok (.ifCond .eq 15, 3) := by decide +kernel
theorem dX4_order_42 : decode cX4_order 42 = .ok (.aload_n 0, 1) := by decide +kernel
theorem dX4_order_43 : decode cX4_order 43 = .ok (.getfield 12, 3) := by decide +kernel
theorem dX4_order_46 : decode cX4_order 46 = .ok (.iload 5, 2) := by decide +kernel
theorem dX4_order_48 : decode cX4_order 48 = .ok (.invokevirtual 69, 3) := by decide +kernel
theorem dX4_order_51 : decode cX4_order 51 = .ok (.ifCond .ne 5, 3) := by decide +kernel
theorem dX4_order_54 : decode cX4_order 54 = .ok (.iconst (-1), 1) := by decide +kernel
theorem dX4_order_55 : decode cX4_order 55 = .ok (.ireturn, 1) := by decide +kernel
theorem dX4_order_56 : decode cX4_order 56 = .ok (.iload 4, 2) := by decide +kernel
theorem dX4_order_58 : decode cX4_order 58 = .ok (.iconst 1, 1) := by decide +kernel
theorem dX4_order_59 : decode cX4_order 59 = .ok (.bipush 12, 2) := by decide +kernel
theorem dX4_order_61 : decode cX4_order 61 = .ok (.invokestatic 40, 3) := by decide +kernel
theorem dX4_order_64 : decode cX4_order 64 = .ok (.ifCond .eq 8, 3) := by decide +kernel
theorem dX4_order_67 : decode cX4_order 67 = .ok (.iload_n 2, 1) := by decide +kernel
theorem dX4_order_68 : decode cX4_order 68 = .ok (.iload_n 3, 1) := by decide +kernel
theorem dX4_order_69 : decode cX4_order 69 = .ok (.if_icmp .ne 6, 3) := by decide +kernel
theorem dX4_order_72 : decode cX4_order 72 = .ok (.bipush (-2), 2) := by decide +kernel
theorem dX4_order_74 : decode cX4_order 74 = .ok (.ireturn, 1) := by decide +kernel
theorem dX4_order_75 : decode cX4_order 75 = .ok (.aload_n 0, 1) := by decide +kernel
theorem dX4_order_76 : decode cX4_order 76 = .ok (.getfield 12, 3) := by decide +kernel
theorem dX4_order_79 : decode cX4_order 79 = .ok (.getfield 122, 3) := by decide +kernel
theorem dX4_order_82 : decode cX4_order 82 = .ok (.invokevirtual 48, 3) := by decide +kernel
theorem dX4_order_85 : decode cX4_order 85 = .ok (.ifCond .eq 6, 3) := by decide +kernel
theorem dX4_order_88 : decode cX4_order 88 = .ok (.bipush (-3), 2) := by decide +kernel
theorem dX4_order_90 : decode cX4_order 90 = .ok (.ireturn, 1) := by decide +kernel
theorem dX4_order_91 : decode cX4_order 91 = .ok (.aload_n 0, 1) := by decide +kernel
theorem dX4_order_92 : decode cX4_order 92 = .ok (.getfield 25, 3) := by decide +kernel
theorem dX4_order_95 : decode cX4_order 95 = .ok (.aload_n 0, 1) := by decide +kernel
theorem dX4_order_96 : decode cX4_order 96 = .ok (.getfield 12, 3) := by decide +kernel
theorem dX4_order_99 : decode cX4_order 99 = .ok (.invokevirtual 54, 3) := by decide +kernel
theorem dX4_order_102 : decode cX4_order 102 = .ok (.aload_n 0, 1) := by decide +kernel
theorem dX4_order_103 : decode cX4_order 103 = .ok (.getfield 12, 3) := by decide +kernel
theorem dX4_order_106 : decode cX4_order 106 = .ok (.iload_n 1, 1) := by decide +kernel
theorem dX4_order_107 : decode cX4_order 107 = .ok (.iload_n 2, 1) := by decide +kernel
theorem dX4_order_108 : decode cX4_order 108 = .ok (.iload_n 3, 1) := by decide +kernel
theorem dX4_order_109 : decode cX4_order 109 = .ok (.iload 4, 2) := by decide +kernel
theorem dX4_order_111 : decode cX4_order 111 = .ok (.iload 5, 2) := by decide +kernel
theorem dX4_order_113 : decode cX4_order 113 = .ok (.invokevirtual 125, 3) := by decide +kernel
theorem dX4_order_116 : decode cX4_order 116 = .ok (.ireturn, 1) := by decide +kernel
theorem dX4_takeBack_0 : decode cX4_takeBack 0 = .ok (.aload_n 0, 1) := by decide +kernel
theorem dX4_takeBack_1 : decode cX4_takeBack 1 = .ok (.getfield 12, 3) := by decide +kernel
theorem dX4_takeBack_4 : decode cX4_takeBack 4 = .ok (.getfield 122, 3) := by decide +kernel
theorem dX4_takeBack_7 : decode cX4_takeBack 7 = .ok (.iload_n 1, 1) := by decide +kernel
theorem dX4_takeBack_8 : decode cX4_takeBack 8 = .ok (.invokevirtual 81, 3) := by decide +kernel
theorem dX4_takeBack_11 : decode cX4_takeBack 11 = .ok (.ifCond .ne 5, 3) := by decide +kernel
theorem dX4_takeBack_14 : decode cX4_takeBack 14 = .ok (.iconst (-1), 1) := by decide +kernel
theorem dX4_takeBack_15 : decode cX4_takeBack 15 = .ok (.ireturn, 1) := by decide +kernel
theorem dX4_takeBack_16 : decode cX4_takeBack 16 = .ok (.aload_n 0, 1) := by decide +kernel
theorem dX4_takeBack_17 : decode cX4_takeBack 17 = .ok (.getfield 25, 3) := by decide +kernel
theorem dX4_takeBack_20 : decode cX4_takeBack 20 = .ok (.aload_n 0, 1) := by decide +kernel
theorem dX4_takeBack_21 : decode cX4_takeBack 21 = .ok (.getfield 12, 3) := by decide +kernel
theorem dX4_takeBack_24 : decode cX4_takeBack 24 = .ok (.invokevirtual 54, 3) := by decide +kernel
theorem dX4_takeBack_27 : decode cX4_takeBack 27 = .ok (.aload_n 0, 1) := by decide +kernel
theorem dX4_takeBack_28 : decode cX4_takeBack 28 = .ok (.getfield 12, 3) := by decide +kernel
theorem dX4_takeBack_31 : decode cX4_takeBack 31 = .ok (.getfield 122, 3) := by decide +kernel
theorem dX4_takeBack_34 : decode cX4_takeBack 34 = .ok (.iload_n 1, 1) := by decide +kernel
theorem dX4_takeBack_35 : decode cX4_takeBack 35 = .ok (.invokevirtual 129, 3) := by decide +kernel
theorem dX4_takeBack_38 : decode cX4_takeBack 38 = .ok (.aload_n 0, 1) := by decide +kernel
theorem dX4_takeBack_39 : decode cX4_takeBack 39 = .ok (.getfield 12, 3) := by decide +kernel
theorem dX4_takeBack_42 : decode cX4_takeBack 42 = .ok (.getfield 122, 3) := by decide +kernel
theorem dX4_takeBack_45 : decode cX4_takeBack 45 = .ok (.invokevirtual 133, 3) := by decide +kernel
theorem dX4_takeBack_48 : decode cX4_takeBack 48 = .ok (.ireturn, 1) := by decide +kernel
theorem dX4_pass_0 : decode cX4_pass 0 = .ok (.iload_n 1, 1) := by decide +kernel
theorem dX4_pass_1 : decode cX4_pass 1 = .ok (.iconst 1, 1) := by decide +kernel
theorem dX4_pass_2 : decode cX4_pass 2 = .ok (.bipush 20, 2) := by decide +kernel
theorem dX4_pass_4 : decode cX4_pass 4 = .ok (.invokestatic 40, 3) := by decide +kernel
theorem dX4_pass_7 : decode cX4_pass 7 = .ok (.ifCond .ne 6, 3) := by decide +kernel
theorem dX4_pass_10 : decode cX4_pass 10 = .ok (.bipush (-2), 2) := by decide +kernel
theorem dX4_pass_12 : decode cX4_pass 12 = .ok (.ireturn, 1) := by decide +kernel
theorem dX4_pass_13 : decode cX4_pass 13 = .ok (.aload_n 0, 1) := by decide +kernel
theorem dX4_pass_14 : decode cX4_pass 14 = .ok (.getfield 12, 3) := by decide +kernel
theorem dX4_pass_17 : decode cX4_pass 17 = .ok (.getfield 109, 3) := by decide +kernel
theorem dX4_pass_20 : decode cX4_pass 20 = .ok (.iload_n 1, 1) := by decide +kernel
theorem dX4_pass_21 : decode cX4_pass 21 = .ok (.iadd, 1) := by decide +kernel
theorem dX4_pass_22 : decode cX4_pass 22 = .ok (.sipush 200, 3) := by decide +kernel
theorem dX4_pass_25 : decode cX4_pass 25 = .ok (.if_icmp .lt 6, 3) := by decide +kernel
theorem dX4_pass_28 : decode cX4_pass 28 = .ok (.bipush (-4), 2) := by decide +kernel
theorem dX4_pass_30 : decode cX4_pass 30 = .ok (.ireturn, 1) := by decide +kernel
theorem dX4_pass_31 : decode cX4_pass 31 = .ok (.aload_n 0, 1) := by decide +kernel
theorem dX4_pass_32 : decode cX4_pass 32 = .ok (.getfield 25, 3) := by decide +kernel
theorem dX4_pass_35 : decode cX4_pass 35 = .ok (.aload_n 0, 1) := by decide +kernel
theorem dX4_pass_36 : decode cX4_pass 36 = .ok (.getfield 12, 3) := by decide +kernel
theorem dX4_pass_39 : decode cX4_pass 39 = .ok (.invokevirtual 54, 3) := by decide +kernel
theorem dX4_pass_42 : decode cX4_pass 42 = .ok (.iconst 0, 1) := by decide +kernel
theorem dX4_pass_43 : decode cX4_pass 43 = .ok (.istore_n 2, 1) := by decide +kernel
theorem dX4_pass_44 : decode cX4_pass 44 = .ok (.iconst 0, 1) := by decide +kernel
theorem dX4_pass_45 : decode cX4_pass 45 = .ok (.istore_n 3, 1) := by decide +kernel
theorem dX4_pass_46 : decode cX4_pass 46 = .ok (.iload_n 3, 1) := by decide +kernel
theorem dX4_pass_47 : decode cX4_pass 47 = .ok (.iload_n 1, 1) := by decide +kernel
theorem dX4_pass_48 : decode cX4_pass 48 = .ok (.if_icmp .ge 19, 3) := by decide +kernel
theorem dX4_pass_51 : decode cX4_pass 51 = .ok (.iload_n 2, 1) := by decide +kernel
theorem dX4_pass_52 : decode cX4_pass 52 = .ok (.aload_n 0, 1) := by decide +kernel
theorem dX4_pass_53 : decode cX4_pass 53 = .ok (.getfield 12, 3) := by decide +kernel
theorem dX4_pass_56 : decode cX4_pass 56 = .ok (.invokevirtual 136, 3) := by decide +kernel
theorem dX4_pass_59 : decode cX4_pass 59 = .ok (.iadd, 1) := by decide +kernel
theorem dX4_pass_60 : decode cX4_pass 60 = .ok (.istore_n 2, 1) := by decide +kernel
theorem dX4_pass_61 : decode cX4_pass 61 = .ok (.iinc 3 1, 3) := by decide +kernel
theorem dX4_pass_64 : decode cX4_pass 64 = .ok (.goto (-18), 3) := by decide +kernel
theorem dX4_pass_67 : decode cX4_pass 67 = .ok (.iload_n 2, 1) := by decide +kernel
theorem dX4_pass_68 : decode cX4_pass 68 = .ok (.ireturn, 1) := by decide +kernel
theorem dX4_undo_0 : decode cX4_undo 0 = .ok (.aload_n 0, 1) := by decide +kernel
theorem dX4_undo_1 : decode cX4_undo 1 = .ok (.getfield 25, 3) := by decide +kernel
theorem dX4_undo_4 : decode cX4_undo 4 = .ok (.invokevirtual 163, 3) := by decide +kernel
theorem dX4_undo_7 : decode cX4_undo 7 = .ok (.ifCond .ne 6, 3) := by decide +kernel
theorem dX4_undo_10 : decode cX4_undo 10 = .ok (.bipush (-5), 2) := by decide +kernel
theorem dX4_undo_12 : decode cX4_undo 12 = .ok (.ireturn, 1) := by decide +kernel
theorem dX4_undo_13 : decode cX4_undo 13 = .ok (.aload_n 0, 1) := by decide +kernel
theorem dX4_undo_14 : decode cX4_undo 14 = .ok (.getfield 25, 3) := by decide +kernel
theorem dX4_undo_17 : decode cX4_undo 17 = .ok (.aload_n 0, 1) := by decide +kernel
theorem dX4_undo_18 : decode cX4_undo 18 = .ok (.getfield 12, 3) := by decide +kernel
theorem dX4_undo_21 : decode cX4_undo 21 = .ok (.invokevirtual 164, 3) := by decide +kernel
theorem dX4_undo_24 : decode cX4_undo 24 = .ok (.aload_n 0, 1) := by decide +kernel
theorem dX4_undo_25 : decode cX4_undo 25 = .ok (.getfield 25, 3) := by decide +kernel
theorem dX4_undo_28 : decode cX4_undo 28 = .ok (.invokevirtual 163, 3) := by decide +kernel
theorem dX4_undo_31 : decode cX4_undo 31 = .ok (.ireturn, 1) := by decide +kernel
theorem dX4_keep_0 : decode cX4_keep 0 = .ok (.aload_n 0, 1) := by decide +kernel
theorem dX4_keep_1 : decode cX4_keep 1 = .ok (.getfield 16, 3) := by decide +kernel
theorem dX4_keep_4 : decode cX4_keep 4 = .ok (.aload_n 0, 1) := by decide +kernel
theorem dX4_keep_5 : decode cX4_keep 5 = .ok (.getfield 12, 3) := by decide +kernel
theorem dX4_keep_8 : decode cX4_keep 8 = .ok (.invokevirtual 167, 3) := by decide +kernel
theorem dX4_keep_11 : decode cX4_keep 11 = .ok (.aload_n 0, 1) := by decide +kernel
theorem dX4_keep_12 : decode cX4_keep 12 = .ok (.iconst 1, 1) := by decide +kernel
theorem dX4_keep_13 : decode cX4_keep 13 = .ok (.putfield 36, 3) := by decide +kernel
theorem dX4_keep_16 : decode cX4_keep 16 = .ok (.aload_n 0, 1) := by decide +kernel
theorem dX4_keep_17 : decode cX4_keep 17 = .ok (.getfield 12, 3) := by decide +kernel
theorem dX4_keep_20 : decode cX4_keep 20 = .ok (.getfield 109, 3) := by decide +kernel
theorem dX4_keep_23 : decode cX4_keep 23 = .ok (.ireturn, 1) := by decide +kernel
theorem dX4_restore_0 : decode cX4_restore 0 = .ok (.aload_n 0, 1) := by decide +kernel
theorem dX4_restore_1 : decode cX4_restore 1 = .ok (.getfield 36, 3) := by decide +kernel
theorem dX4_restore_4 : decode cX4_restore 4 = .ok (.ifCond .ne 6, 3) := by decide +kernel
theorem dX4_restore_7 : decode cX4_restore 7 = .ok (.bipush (-5), 2) := by decide +kernel
theorem dX4_restore_9 : decode cX4_restore 9 = .ok (.ireturn, 1) := by decide +kernel
theorem dX4_restore_10 : decode cX4_restore 10 = .ok (.aload_n 0, 1) := by decide +kernel
theorem dX4_restore_11 : decode cX4_restore 11 = .ok (.getfield 25, 3) := by decide +kernel
theorem dX4_restore_14 : decode cX4_restore 14 = .ok (.aload_n 0, 1) := by decide +kernel
theorem dX4_restore_15 : decode cX4_restore 15 = .ok (.getfield 12, 3) := by decide +kernel
theorem dX4_restore_18 : decode cX4_restore 18 = .ok (.invokevirtual 54, 3) := by decide +kernel
theorem dX4_restore_21 : decode cX4_restore 21 = .ok (.aload_n 0, 1) := by decide +kernel
theorem dX4_restore_22 : decode cX4_restore 22 = .ok (.getfield 12, 3) := by decide +kernel
theorem dX4_restore_25 : decode cX4_restore 25 = .ok (.aload_n 0, 1) := by decide +kernel
theorem dX4_restore_26 : decode cX4_restore 26 = .ok (.getfield 16, 3) := by decide +kernel
theorem dX4_restore_29 : decode cX4_restore 29 = .ok (.invokevirtual 167, 3) := by decide +kernel
theorem dX4_restore_32 : decode cX4_restore 32 = .ok (.aload_n 0, 1) := by decide +kernel
theorem dX4_restore_33 : decode cX4_restore 33 = .ok (.getfield 12, 3) := by decide +kernel
theorem dX4_restore_36 : decode cX4_restore 36 = .ok (.getfield 109, 3) := by decide +kernel
theorem dX4_restore_39 : decode cX4_restore 39 = .ok (.ireturn, 1) := by decide +kernel
theorem dX4_bears_0 : decode cX4_bears 0 = .ok (.aload_n 0, 1) := by decide +kernel
theorem dX4_bears_1 : decode cX4_bears 1 = .ok (.getfield 12, 3) := by decide +kernel
theorem dX4_bears_4 : decode cX4_bears 4 = .ok (.getfield 44, 3) := by decide +kernel
theorem dX4_bears_7 : decode cX4_bears 7 = .ok (.iload_n 1, 1) := by decide +kernel
theorem dX4_bears_8 : decode cX4_bears 8 = .ok (.invokevirtual 81, 3) := by decide +kernel
theorem dX4_bears_11 : decode cX4_bears 11 = .ok (.ifCond .ne 5, 3) := by decide +kernel
theorem dX4_bears_14 : decode cX4_bears 14 = .ok (.iconst (-1), 1) := by decide +kernel
theorem dX4_bears_15 : decode cX4_bears 15 = .ok (.ireturn, 1) := by decide +kernel
theorem dX4_bears_16 : decode cX4_bears 16 = .ok (.iload_n 2, 1) := by decide +kernel
theorem dX4_bears_17 : decode cX4_bears 17 = .ok (.invokestatic 170, 3) := by decide +kernel
theorem dX4_bears_20 : decode cX4_bears 20 = .ok (.ifCond .ne 6, 3) := by decide +kernel
theorem dX4_bears_23 : decode cX4_bears 23 = .ok (.bipush (-2), 2) := by decide +kernel
theorem dX4_bears_25 : decode cX4_bears 25 = .ok (.ireturn, 1) := by decide +kernel
theorem dX4_bears_26 : decode cX4_bears 26 = .ok (.aload_n 0, 1) := by decide +kernel
theorem dX4_bears_27 : decode cX4_bears 27 = .ok (.getfield 12, 3) := by decide +kernel
theorem dX4_bears_30 : decode cX4_bears 30 = .ok (.iload_n 1, 1) := by decide +kernel
theorem dX4_bears_31 : decode cX4_bears 31 = .ok (.iload_n 2, 1) := by decide +kernel
theorem dX4_bears_32 : decode cX4_bears 32 = .ok (.invokevirtual 173, 3) := by decide +kernel
theorem dX4_bears_35 : decode cX4_bears 35 = .ok (.ireturn, 1) := by decide +kernel
theorem dX4_willBear_0 : decode cX4_willBear 0 = .ok (.aload_n 0, 1) := by decide +kernel
theorem dX4_willBear_1 : decode cX4_willBear 1 = .ok (.getfield 12, 3) := by decide +kernel
theorem dX4_willBear_4 : decode cX4_willBear 4 = .ok (.getfield 44, 3) := by decide +kernel
theorem dX4_willBear_7 : decode cX4_willBear 7 = .ok (.iload_n 1, 1) := by decide +kernel
theorem dX4_willBear_8 : decode cX4_willBear 8 = .ok (.invokevirtual 81, 3) := by decide +kernel
theorem dX4_willBear_11 : decode cX4_willBear 11 = .ok (.ifCond .eq 14, 3) := by decide +kernel
theorem dX4_willBear_14 : decode cX4_willBear 14 = .ok (.aload_n 0, 1) := by decide +kernel
theorem dX4_willBear_15 : decode cX4_willBear 15 = .ok (.getfield 12, 3) := by decide +kernel
theorem dX4_willBear_18 : decode cX4_willBear 18 = .ok (.iload_n 3, 1) := by decide +kernel
theorem dX4_willBear_19 : decode cX4_willBear 19 = .ok (.invokevirtual 69, 3) := by decide +kernel
theorem dX4_willBear_22 : decode cX4_willBear 22 = .ok (.ifCond .ne 5, 3) := by decide +kernel
theorem dX4_willBear_25 : decode cX4_willBear 25 = .ok (.iconst (-1), 1) := by decide +kernel
theorem dX4_willBear_26 : decode cX4_willBear 26 = .ok (.ireturn, 1) := by decide +kernel
theorem dX4_willBear_27 : decode cX4_willBear 27 = .ok (.iload_n 2, 1) := by decide +kernel
theorem dX4_willBear_28 : decode cX4_willBear 28 = .ok (.invokestatic 170, 3) := by decide +kernel
theorem dX4_willBear_31 : decode cX4_willBear 31 = .ok (.ifCond .ne 6, 3) := by decide +kernel
theorem dX4_willBear_34 : decode cX4_willBear 34 = .ok (.bipush (-2), 2) := by decide +kernel
theorem dX4_willBear_36 : decode cX4_willBear 36 = .ok (.ireturn, 1) := by decide +kernel
theorem dX4_willBear_37 : decode cX4_willBear 37 = .ok (.aload_n 0, 1) := by decide +kernel
theorem dX4_willBear_38 : decode cX4_willBear 38 = .ok (.getfield 19, 3) := by decide +kernel
theorem dX4_willBear_41 : decode cX4_willBear 41 = .ok (.aload_n 0, 1) := by decide +kernel
theorem dX4_willBear_42 : decode cX4_willBear 42 = .ok (.getfield 12, 3) := by decide +kernel
theorem dX4_willBear_45 : decode cX4_willBear 45 = .ok (.invokevirtual 167, 3) := by decide +kernel
theorem dX4_willBear_48 : decode cX4_willBear 48 = .ok (.aload_n 0, 1) := by decide +kernel
theorem dX4_willBear_49 : decode cX4_willBear 49 = .ok (.getfield 19, 3) := by decide +kernel
theorem dX4_willBear_52 : decode cX4_willBear 52 = .ok (.iload_n 3, 1) := by decide +kernel
theorem dX4_willBear_53 : decode cX4_willBear 53 = .ok (.invokevirtual 176, 3) := by decide +kernel
theorem dX4_willBear_56 : decode cX4_willBear 56 = .ok (.aload_n 0, 1) := by decide +kernel
theorem dX4_willBear_57 : decode cX4_willBear 57 = .ok (.getfield 19, 3) := by decide +kernel
theorem dX4_willBear_60 : decode cX4_willBear 60 = .ok (.iload_n 1, 1) := by decide +kernel
theorem dX4_willBear_61 : decode cX4_willBear 61 = .ok (.iload_n 2, 1) := by decide +kernel
theorem dX4_willBear_62 : decode cX4_willBear 62 = .ok (.invokevirtual 173, 3) := by decide +kernel
theorem dX4_willBear_65 : decode cX4_willBear 65 = .ok (.ireturn, 1) := by decide +kernel
theorem dX4_windLimit_0 : decode cX4_windLimit 0 = .ok (.iload_n 1, 1) := by decide +kernel
theorem dX4_windLimit_1 : decode cX4_windLimit 1 = .ok (.iload_n 2, 1) := by decide +kernel
theorem dX4_windLimit_2 : decode cX4_windLimit 2 = .ok (.invokestatic 84, 3) := by decide +kernel
theorem dX4_windLimit_5 : decode cX4_windLimit 5 = .ok (.ifCond .ne 6, 3) := by decide +kernel
theorem dX4_windLimit_8 : decode cX4_windLimit 8 = .ok (.bipush (-2), 2) := by decide +kernel
theorem dX4_windLimit_10 : decode cX4_windLimit 10 = .ok (.ireturn, 1) := by decide +kernel
theorem dX4_windLimit_11 : decode cX4_windLimit 11 = .ok (.iload_n 1, 1) := by decide +kernel
theorem dX4_windLimit_12 : decode cX4_windLimit 12 = .ok (.iload_n 2, 1) := by decide +kernel
theorem dX4_windLimit_13 : decode cX4_windLimit 13 = .ok (.invokestatic 179, 3) := by decide +kernel
theorem dX4_windLimit_16 : decode cX4_windLimit 16 = .ok (.ireturn, 1) := by decide +kernel
theorem dX4_machine_0 : decode cX4_machine 0 = .ok (.aload_n 0, 1) := by decide +kernel
theorem dX4_machine_1 : decode cX4_machine 1 = .ok (.getfield 12, 3) := by decide +kernel
theorem dX4_machine_4 : decode cX4_machine 4 = .ok (.getfield 44, 3) := by decide +kernel
theorem dX4_machine_7 : decode cX4_machine 7 = .ok (.iload_n 1, 1) := by decide +kernel
theorem dX4_machine_8 : decode cX4_machine 8 = .ok (.invokevirtual 81, 3) := by decide +kernel
theorem dX4_machine_11 : decode cX4_machine 11 = .ok (.ifCond .ne 5, 3) := by decide +kernel
theorem dX4_machine_14 : decode cX4_machine 14 = .ok (.iconst (-1), 1) := by decide +kernel
theorem dX4_machine_15 : decode cX4_machine 15 = .ok (.ireturn, 1) := by decide +kernel
theorem dX4_machine_16 : decode cX4_machine 16 = .ok (.iload_n 2, 1) := by decide +kernel
theorem dX4_machine_17 : decode cX4_machine 17 = .ok (.tableswitch 138 0 6 #[43, 56, 69, 84, 97, 110, 123], 43) := by decide +kernel
theorem dX4_machine_60 : decode cX4_machine 60 = .ok (.aload_n 0, 1) := by decide +kernel
theorem dX4_machine_61 : decode cX4_machine 61 = .ok (.getfield 12, 3) := by decide +kernel
theorem dX4_machine_64 : decode cX4_machine 64 = .ok (.getfield 44, 3) := by decide +kernel
theorem dX4_machine_67 : decode cX4_machine 67 = .ok (.iload_n 1, 1) := by decide +kernel
theorem dX4_machine_68 : decode cX4_machine 68 = .ok (.iconst 0, 1) := by decide +kernel
theorem dX4_machine_69 : decode cX4_machine 69 = .ok (.invokevirtual 106, 3) := by decide +kernel
theorem dX4_machine_72 : decode cX4_machine 72 = .ok (.ireturn, 1) := by decide +kernel
theorem dX4_machine_73 : decode cX4_machine 73 = .ok (.aload_n 0, 1) := by decide +kernel
theorem dX4_machine_74 : decode cX4_machine 74 = .ok (.getfield 12, 3) := by decide +kernel
theorem dX4_machine_77 : decode cX4_machine 77 = .ok (.getfield 44, 3) := by decide +kernel
theorem dX4_machine_80 : decode cX4_machine 80 = .ok (.iload_n 1, 1) := by decide +kernel
theorem dX4_machine_81 : decode cX4_machine 81 = .ok (.iconst 1, 1) := by decide +kernel
theorem dX4_machine_82 : decode cX4_machine 82 = .ok (.invokevirtual 106, 3) := by decide +kernel
theorem dX4_machine_85 : decode cX4_machine 85 = .ok (.ireturn, 1) := by decide +kernel
theorem dX4_machine_86 : decode cX4_machine 86 = .ok (.aload_n 0, 1) := by decide +kernel
theorem dX4_machine_87 : decode cX4_machine 87 = .ok (.getfield 12, 3) := by decide +kernel
theorem dX4_machine_90 : decode cX4_machine 90 = .ok (.getfield 92, 3) := by decide +kernel
theorem dX4_machine_93 : decode cX4_machine 93 = .ok (.iconst 1, 1) := by decide +kernel
theorem dX4_machine_94 : decode cX4_machine 94 = .ok (.iload_n 1, 1) := by decide +kernel
theorem dX4_machine_95 : decode cX4_machine 95 = .ok (.iconst 5, 1) := by decide +kernel
theorem dX4_machine_96 : decode cX4_machine 96 = .ok (.iconst 0, 1) := by decide +kernel
theorem dX4_machine_97 : decode cX4_machine 97 = .ok (.invokevirtual 182, 3) := by decide +kernel
theorem dX4_machine_100 : decode cX4_machine 100 = .ok (.ireturn, 1) := by decide +kernel
theorem dX4_machine_101 : decode cX4_machine 101 = .ok (.aload_n 0, 1) := by decide +kernel
theorem dX4_machine_102 : decode cX4_machine 102 = .ok (.getfield 12, 3) := by decide +kernel
theorem dX4_machine_105 : decode cX4_machine 105 = .ok (.getfield 122, 3) := by decide +kernel
theorem dX4_machine_108 : decode cX4_machine 108 = .ok (.iconst 1, 1) := by decide +kernel
theorem dX4_machine_109 : decode cX4_machine 109 = .ok (.iload_n 1, 1) := by decide +kernel
theorem dX4_machine_110 : decode cX4_machine 110 = .ok (.invokevirtual 186, 3) := by decide +kernel
theorem dX4_machine_113 : decode cX4_machine 113 = .ok (.ireturn, 1) := by decide +kernel
theorem dX4_machine_114 : decode cX4_machine 114 = .ok (.aload_n 0, 1) := by decide +kernel
theorem dX4_machine_115 : decode cX4_machine 115 = .ok (.getfield 12, 3) := by decide +kernel
theorem dX4_machine_118 : decode cX4_machine 118 = .ok (.getfield 122, 3) := by decide +kernel
theorem dX4_machine_121 : decode cX4_machine 121 = .ok (.iconst 2, 1) := by decide +kernel
theorem dX4_machine_122 : decode cX4_machine 122 = .ok (.iload_n 1, 1) := by decide +kernel
theorem dX4_machine_123 : decode cX4_machine 123 = .ok (.invokevirtual 186, 3) := by decide +kernel
theorem dX4_machine_126 : decode cX4_machine 126 = .ok (.ireturn, 1) := by decide +kernel
theorem dX4_machine_127 : decode cX4_machine 127 = .ok (.aload_n 0, 1) := by decide +kernel
theorem dX4_machine_128 : decode cX4_machine 128 = .ok (.getfield 12, 3) := by decide +kernel
theorem dX4_machine_131 : decode cX4_machine 131 = .ok (.getfield 44, 3) := by decide +kernel
theorem dX4_machine_134 : decode cX4_machine 134 = .ok (.iload_n 1, 1) := by decide +kernel
theorem dX4_machine_135 : decode cX4_machine 135 = .ok (.iconst 2, 1) := by decide +kernel
theorem dX4_machine_136 : decode cX4_machine 136 = .ok (.invokevirtual 106, 3) := by decide +kernel
theorem dX4_machine_139 : decode cX4_machine 139 = .ok (.ireturn, 1) := by decide +kernel
theorem dX4_machine_140 : decode cX4_machine 140 = .ok (.aload_n 0, 1) := by decide +kernel
theorem dX4_machine_141 : decode cX4_machine 141 = .ok (.getfield 12, 3) := by decide +kernel
theorem dX4_machine_144 : decode cX4_machine 144 = .ok (.getfield 92, 3) := by decide +kernel
theorem dX4_machine_147 : decode cX4_machine 147 = .ok (.iconst 1, 1) := by decide +kernel
theorem dX4_machine_148 : decode cX4_machine 148 = .ok (.iload_n 1, 1) := by decide +kernel
theorem dX4_machine_149 : decode cX4_machine 149 = .ok (.iconst 5, 1) := by decide +kernel
theorem dX4_machine_150 : decode cX4_machine 150 = .ok (.iconst 1, 1) := by decide +kernel
theorem dX4_machine_151 : decode cX4_machine 151 = .ok (.invokevirtual 182, 3) := by decide +kernel
theorem dX4_machine_154 : decode cX4_machine 154 = .ok (.ireturn, 1) := by decide +kernel
theorem dX4_machine_155 : decode cX4_machine 155 = .ok (.bipush (-2), 2) := by decide +kernel
theorem dX4_machine_157 : decode cX4_machine 157 = .ok (.ireturn, 1) := by decide +kernel
theorem dX4_member_0 : decode cX4_member 0 = .ok (.aload_n 0, 1) := by decide +kernel
theorem dX4_member_1 : decode cX4_member 1 = .ok (.getfield 12, 3) := by decide +kernel
theorem dX4_member_4 : decode cX4_member 4 = .ok (.getfield 62, 3) := by decide +kernel
theorem dX4_member_7 : decode cX4_member 7 = .ok (.iload_n 1, 1) := by decide +kernel
theorem dX4_member_8 : decode cX4_member 8 = .ok (.invokevirtual 81, 3) := by decide +kernel
theorem dX4_member_11 : decode cX4_member 11 = .ok (.ifCond .ne 5, 3) := by decide +kernel
theorem dX4_member_14 : decode cX4_member 14 = .ok (.iconst (-1), 1) := by decide +kernel
theorem dX4_member_15 : decode cX4_member 15 = .ok (.ireturn, 1) := by decide +kernel
theorem dX4_member_16 : decode cX4_member 16 = .ok (.iload_n 2, 1) := by decide +kernel
theorem dX4_member_17 : decode cX4_member 17 = .ok (.tableswitch 142 0 6 #[43, 56, 71, 86, 101, 116, 129], 43) := by decide +kernel
theorem dX4_member_60 : decode cX4_member 60 = .ok (.aload_n 0, 1) := by decide +kernel
theorem dX4_member_61 : decode cX4_member 61 = .ok (.getfield 12, 3) := by decide +kernel
theorem dX4_member_64 : decode cX4_member 64 = .ok (.getfield 62, 3) := by decide +kernel
theorem dX4_member_67 : decode cX4_member 67 = .ok (.iload_n 1, 1) := by decide +kernel
theorem dX4_member_68 : decode cX4_member 68 = .ok (.iconst 0, 1) := by decide +kernel
theorem dX4_member_69 : decode cX4_member 69 = .ok (.invokevirtual 106, 3) := by decide +kernel
theorem dX4_member_72 : decode cX4_member 72 = .ok (.ireturn, 1) := by decide +kernel
theorem dX4_member_73 : decode cX4_member 73 = .ok (.aload_n 0, 1) := by decide +kernel
theorem dX4_member_74 : decode cX4_member 74 = .ok (.getfield 12, 3) := by decide +kernel
theorem dX4_member_77 : decode cX4_member 77 = .ok (.getfield 92, 3) := by decide +kernel
theorem dX4_member_80 : decode cX4_member 80 = .ok (.iconst 0, 1) := by decide +kernel
theorem dX4_member_81 : decode cX4_member 81 = .ok (.iload_n 1, 1) := by decide +kernel
theorem dX4_member_82 : decode cX4_member 82 = .ok (.iconst 5, 1) := by decide +kernel
theorem dX4_member_83 : decode cX4_member 83 = .ok (.iconst 0, 1) := by decide +kernel
theorem dX4_member_84 : decode cX4_member 84 = .ok (.invokevirtual 182, 3) := by decide +kernel
theorem dX4_member_87 : decode cX4_member 87 = .ok (.ireturn, 1) := by decide +kernel
theorem dX4_member_88 : decode cX4_member 88 = .ok (.aload_n 0, 1) := by decide +kernel
theorem dX4_member_89 : decode cX4_member 89 = .ok (.getfield 12, 3) := by decide +kernel
theorem dX4_member_92 : decode cX4_member 92 = .ok (.getfield 92, 3) := by decide +kernel
theorem dX4_member_95 : decode cX4_member 95 = .ok (.iconst 0, 1) := by decide +kernel
theorem dX4_member_96 : decode cX4_member 96 = .ok (.iload_n 1, 1) := by decide +kernel
theorem dX4_member_97 : decode cX4_member 97 = .ok (.iconst 5, 1) := by decide +kernel
theorem dX4_member_98 : decode cX4_member 98 = .ok (.iconst 1, 1) := by decide +kernel
theorem dX4_member_99 : decode cX4_member 99 = .ok (.invokevirtual 182, 3) := by decide +kernel
theorem dX4_member_102 : decode cX4_member 102 = .ok (.ireturn, 1) := by decide +kernel
theorem dX4_member_103 : decode cX4_member 103 = .ok (.aload_n 0, 1) := by decide +kernel
theorem dX4_member_104 : decode cX4_member 104 = .ok (.getfield 12, 3) := by decide +kernel
theorem dX4_member_107 : decode cX4_member 107 = .ok (.getfield 92, 3) := by decide +kernel
theorem dX4_member_110 : decode cX4_member 110 = .ok (.iconst 0, 1) := by decide +kernel
theorem dX4_member_111 : decode cX4_member 111 = .ok (.iload_n 1, 1) := by decide +kernel
theorem dX4_member_112 : decode cX4_member 112 = .ok (.iconst 5, 1) := by decide +kernel
theorem dX4_member_113 : decode cX4_member 113 = .ok (.iconst 2, 1) := by decide +kernel
theorem dX4_member_114 : decode cX4_member 114 = .ok (.invokevirtual 182, 3) := by decide +kernel
theorem dX4_member_117 : decode cX4_member 117 = .ok (.ireturn, 1) := by decide +kernel
theorem dX4_member_118 : decode cX4_member 118 = .ok (.aload_n 0, 1) := by decide +kernel
theorem dX4_member_119 : decode cX4_member 119 = .ok (.getfield 12, 3) := by decide +kernel
theorem dX4_member_122 : decode cX4_member 122 = .ok (.getfield 92, 3) := by decide +kernel
theorem dX4_member_125 : decode cX4_member 125 = .ok (.iconst 0, 1) := by decide +kernel
theorem dX4_member_126 : decode cX4_member 126 = .ok (.iload_n 1, 1) := by decide +kernel
theorem dX4_member_127 : decode cX4_member 127 = .ok (.iconst 5, 1) := by decide +kernel
theorem dX4_member_128 : decode cX4_member 128 = .ok (.iconst 3, 1) := by decide +kernel
theorem dX4_member_129 : decode cX4_member 129 = .ok (.invokevirtual 182, 3) := by decide +kernel
theorem dX4_member_132 : decode cX4_member 132 = .ok (.ireturn, 1) := by decide +kernel
theorem dX4_member_133 : decode cX4_member 133 = .ok (.aload_n 0, 1) := by decide +kernel
theorem dX4_member_134 : decode cX4_member 134 = .ok (.getfield 12, 3) := by decide +kernel
theorem dX4_member_137 : decode cX4_member 137 = .ok (.getfield 62, 3) := by decide +kernel
theorem dX4_member_140 : decode cX4_member 140 = .ok (.iload_n 1, 1) := by decide +kernel
theorem dX4_member_141 : decode cX4_member 141 = .ok (.iconst 1, 1) := by decide +kernel
theorem dX4_member_142 : decode cX4_member 142 = .ok (.invokevirtual 106, 3) := by decide +kernel
theorem dX4_member_145 : decode cX4_member 145 = .ok (.ireturn, 1) := by decide +kernel
theorem dX4_member_146 : decode cX4_member 146 = .ok (.aload_n 0, 1) := by decide +kernel
theorem dX4_member_147 : decode cX4_member 147 = .ok (.getfield 12, 3) := by decide +kernel
theorem dX4_member_150 : decode cX4_member 150 = .ok (.getfield 122, 3) := by decide +kernel
theorem dX4_member_153 : decode cX4_member 153 = .ok (.iconst 0, 1) := by decide +kernel
theorem dX4_member_154 : decode cX4_member 154 = .ok (.iload_n 1, 1) := by decide +kernel
theorem dX4_member_155 : decode cX4_member 155 = .ok (.invokevirtual 186, 3) := by decide +kernel
theorem dX4_member_158 : decode cX4_member 158 = .ok (.ireturn, 1) := by decide +kernel
theorem dX4_member_159 : decode cX4_member 159 = .ok (.bipush (-2), 2) := by decide +kernel
theorem dX4_member_161 : decode cX4_member 161 = .ok (.ireturn, 1) := by decide +kernel
theorem dX4_booking_0 : decode cX4_booking 0 = .ok (.aload_n 0, 1) := by decide +kernel
theorem dX4_booking_1 : decode cX4_booking 1 = .ok (.getfield 12, 3) := by decide +kernel
theorem dX4_booking_4 : decode cX4_booking 4 = .ok (.getfield 92, 3) := by decide +kernel
theorem dX4_booking_7 : decode cX4_booking 7 = .ok (.iload_n 1, 1) := by decide +kernel
theorem dX4_booking_8 : decode cX4_booking 8 = .ok (.invokevirtual 81, 3) := by decide +kernel
theorem dX4_booking_11 : decode cX4_booking 11 = .ok (.ifCond .ne 5, 3) := by decide +kernel
theorem dX4_booking_14 : decode cX4_booking 14 = .ok (.iconst (-1), 1) := by decide +kernel
theorem dX4_booking_15 : decode cX4_booking 15 = .ok (.ireturn, 1) := by decide +kernel
theorem dX4_booking_16 : decode cX4_booking 16 = .ok (.iload_n 2, 1) := by decide +kernel
theorem dX4_booking_17 : decode cX4_booking 17 = .ok (.bipush 8, 2) := by decide +kernel
theorem dX4_booking_19 : decode cX4_booking 19 = .ok (.if_icmp .ne 12, 3) := by decide +kernel
theorem dX4_booking_22 : decode cX4_booking 22 = .ok (.aload_n 0, 1) := by decide +kernel
theorem dX4_booking_23 : decode cX4_booking 23 = .ok (.getfield 12, 3) := by decide +kernel
theorem dX4_booking_26 : decode cX4_booking 26 = .ok (.iload_n 1, 1) := by decide +kernel
theorem dX4_booking_27 : decode cX4_booking 27 = .ok (.invokevirtual 189, 3) := by decide +kernel
theorem dX4_booking_30 : decode cX4_booking 30 = .ok (.ireturn, 1) := by decide +kernel
theorem dX4_booking_31 : decode cX4_booking 31 = .ok (.iload_n 2, 1) := by decide +kernel
theorem dX4_booking_32 : decode cX4_booking 32 = .ok (.iconst 0, 1) := by decide +kernel
theorem dX4_booking_33 : decode cX4_booking 33 = .ok (.bipush 7, 2) := by decide +kernel
theorem dX4_booking_35 : decode cX4_booking 35 = .ok (.invokestatic 40, 3) := by decide +kernel
theorem dX4_booking_38 : decode cX4_booking 38 = .ok (.ifCond .eq 18, 3) := by decide +kernel
theorem dX4_booking_41 : decode cX4_booking 41 = .ok (.aload_n 0, 1) := by decide +kernel
theorem dX4_booking_42 : decode cX4_booking 42 = .ok (.getfield 12, 3) := by decide +kernel
theorem dX4_booking_45 : decode cX4_booking 45 = .ok (.getfield 92, 3) := by decide +kernel
theorem dX4_booking_48 : decode cX4_booking 48 = .ok (.iload_n 1, 1) := by decide +kernel
theorem dX4_booking_49 : decode cX4_booking 49 = .ok (.iload_n 2, 1) := by decide +kernel
theorem dX4_booking_50 : decode cX4_booking 50 = .ok (.invokevirtual 106, 3) := by decide +kernel
theorem dX4_booking_53 : decode cX4_booking 53 = .ok (.goto 5, 3) := by decide +kernel
theorem dX4_booking_56 : decode cX4_booking 56 = .ok (.bipush (-2), 2) := by decide +kernel
theorem dX4_booking_58 : decode cX4_booking 58 = .ok (.ireturn, 1) := by decide +kernel
theorem dX4_move_0 : decode cX4_move 0 = .ok (.aload_n 0, 1) := by decide +kernel
theorem dX4_move_1 : decode cX4_move 1 = .ok (.getfield 12, 3) := by decide +kernel
theorem dX4_move_4 : decode cX4_move 4 = .ok (.getfield 122, 3) := by decide +kernel
theorem dX4_move_7 : decode cX4_move 7 = .ok (.iload_n 1, 1) := by decide +kernel
theorem dX4_move_8 : decode cX4_move 8 = .ok (.invokevirtual 81, 3) := by decide +kernel
theorem dX4_move_11 : decode cX4_move 11 = .ok (.ifCond .ne 5, 3) := by decide +kernel
theorem dX4_move_14 : decode cX4_move 14 = .ok (.iconst (-1), 1) := by decide +kernel
theorem dX4_move_15 : decode cX4_move 15 = .ok (.ireturn, 1) := by decide +kernel
theorem dX4_move_16 : decode cX4_move 16 = .ok (.iload_n 2, 1) := by decide +kernel
theorem dX4_move_17 : decode cX4_move 17 = .ok (.iconst 0, 1) := by decide +kernel
theorem dX4_move_18 : decode cX4_move 18 = .ok (.iconst 4, 1) := by decide +kernel
theorem dX4_move_19 : decode cX4_move 19 = .ok (.invokestatic 40, 3) := by decide +kernel
theorem dX4_move_22 : decode cX4_move 22 = .ok (.ifCond .eq 18, 3) := by decide +kernel
theorem dX4_move_25 : decode cX4_move 25 = .ok (.aload_n 0, 1) := by decide +kernel
theorem dX4_move_26 : decode cX4_move 26 = .ok (.getfield 12, 3) := by decide +kernel
theorem dX4_move_29 : decode cX4_move 29 = .ok (.getfield 122, 3) := by decide +kernel
theorem dX4_move_32 : decode cX4_move 32 = .ok (.iload_n 1, 1) := by decide +kernel
theorem dX4_move_33 : decode cX4_move 33 = .ok (.iload_n 2, 1) := by decide +kernel
theorem dX4_move_34 : decode cX4_move 34 = .ok (.invokevirtual 106, 3) := by decide +kernel
theorem dX4_move_37 : decode cX4_move 37 = .ok (.goto 5, 3) := by decide +kernel
theorem dX4_move_40 : decode cX4_move 40 = .ok (.bipush (-2), 2) := by decide +kernel
theorem dX4_move_42 : decode cX4_move 42 = .ok (.ireturn, 1) := by decide +kernel
theorem dX4_bookedAt_0 : decode cX4_bookedAt 0 = .ok (.aload_n 0, 1) := by decide +kernel
theorem dX4_bookedAt_1 : decode cX4_bookedAt 1 = .ok (.getfield 12, 3) := by decide +kernel
theorem dX4_bookedAt_4 : decode cX4_bookedAt 4 = .ok (.getfield 44, 3) := by decide +kernel
theorem dX4_bookedAt_7 : decode cX4_bookedAt 7 = .ok (.iload_n 1, 1) := by decide +kernel
theorem dX4_bookedAt_8 : decode cX4_bookedAt 8 = .ok (.invokevirtual 81, 3) := by decide +kernel
theorem dX4_bookedAt_11 : decode cX4_bookedAt 11 = .ok (.ifCond .eq 10, 3) := by decide +kernel
theorem dX4_bookedAt_14 : decode cX4_bookedAt 14 = .ok (.iload_n 2, 1) := by decide +kernel
theorem dX4_bookedAt_15 : decode cX4_bookedAt 15 = .ok (.invokestatic 192, 3) := by decide +kernel
theorem dX4_bookedAt_18 : decode cX4_bookedAt 18 = .ok (.ifCond .ne 5, 3) := by decide +kernel
theorem dX4_bookedAt_21 : decode cX4_bookedAt 21 = .ok (.iconst (-1), 1) := by decide +kernel
theorem dX4_bookedAt_22 : decode cX4_bookedAt 22 = .ok (.ireturn, 1) := by decide +kernel
theorem dX4_bookedAt_23 : decode cX4_bookedAt 23 = .ok (.aload_n 0, 1) := by decide +kernel
theorem dX4_bookedAt_24 : decode cX4_bookedAt 24 = .ok (.getfield 12, 3) := by decide +kernel
theorem dX4_bookedAt_27 : decode cX4_bookedAt 27 = .ok (.iload_n 1, 1) := by decide +kernel
theorem dX4_bookedAt_28 : decode cX4_bookedAt 28 = .ok (.iload_n 2, 1) := by decide +kernel
theorem dX4_bookedAt_29 : decode cX4_bookedAt 29 = .ok (.invokevirtual 195, 3) := by decide +kernel
theorem dX4_bookedAt_32 : decode cX4_bookedAt 32 = .ok (.ireturn, 1) := by decide +kernel
theorem dX4_machineFor_0 : decode cX4_machineFor 0 = .ok (.aload_n 0, 1) := by decide +kernel
theorem dX4_machineFor_1 : decode cX4_machineFor 1 = .ok (.getfield 12, 3) := by decide +kernel
theorem dX4_machineFor_4 : decode cX4_machineFor 4 = .ok (.iload_n 1, 1) := by decide +kernel
theorem dX4_machineFor_5 : decode cX4_machineFor 5 = .ok (.invokevirtual 69, 3) := by decide +kernel
theorem dX4_machineFor_8 : decode cX4_machineFor 8 = .ok (.ifCond .ne 5, 3) := by decide +kernel
theorem dX4_machineFor_11 : decode cX4_machineFor 11 = .ok (.iconst (-1), 1) := by decide +kernel
theorem dX4_machineFor_12 : decode cX4_machineFor 12 = .ok (.ireturn, 1) := by decide +kernel
theorem dX4_machineFor_13 : decode cX4_machineFor 13 = .ok (.iload_n 2, 1) := by decide +kernel
theorem dX4_machineFor_14 : decode cX4_machineFor 14 = .ok (.iload_n 3, 1) := by decide +kernel
theorem dX4_machineFor_15 : decode cX4_machineFor 15 = .ok (.invokestatic 84, 3) := by decide +kernel
theorem dX4_machineFor_18 : decode cX4_machineFor 18 = .ok (.ifCond .ne 6, 3) := by decide +kernel
theorem dX4_machineFor_21 : decode cX4_machineFor 21 = .ok (.bipush (-2), 2) := by decide +kernel
theorem dX4_machineFor_23 : decode cX4_machineFor 23 = .ok (.ireturn, 1) := by decide +kernel
theorem dX4_machineFor_24 : decode cX4_machineFor 24 = .ok (.iconst 0, 1) := by decide +kernel
theorem dX4_machineFor_25 : decode cX4_machineFor 25 = .ok (.istore 4, 2) := by decide +kernel
theorem dX4_machineFor_27 : decode cX4_machineFor 27 = .ok (.iload 4, 2) := by decide +kernel
theorem dX4_machineFor_29 : decode cX4_machineFor 29 = .ok (.aload_n 0, 1) := by decide +kernel
theorem dX4_machineFor_30 : decode cX4_machineFor 30 = .ok (.getfield 12, 3) := by decide +kernel
theorem dX4_machineFor_33 : decode cX4_machineFor 33 = .ok (.getfield 44, 3) := by decide +kernel
theorem dX4_machineFor_36 : decode cX4_machineFor 36 = .ok (.invokevirtual 133, 3) := by decide +kernel
theorem dX4_machineFor_39 : decode cX4_machineFor 39 = .ok (.if_icmp .ge 27, 3) := by decide +kernel
theorem dX4_machineFor_42 : decode cX4_machineFor 42 = .ok (.aload_n 0, 1) := by decide +kernel
theorem dX4_machineFor_43 : decode cX4_machineFor 43 = .ok (.getfield 12, 3) := by decide +kernel
theorem dX4_machineFor_46 : decode cX4_machineFor 46 = .ok (.iload 4, 2) := by decide +kernel
theorem dX4_machineFor_48 : decode cX4_machineFor 48 = .ok (.iload_n 1, 1) := by decide +kernel
theorem dX4_machineFor_49 : decode cX4_machineFor 49 = .ok (.iload_n 2, 1) := by decide +kernel
theorem dX4_machineFor_50 : decode cX4_machineFor 50 = .ok (.iload_n 3, 1) := by decide +kernel
theorem dX4_machineFor_51 : decode cX4_machineFor 51 = .ok (.invokevirtual 88, 3) := by decide +kernel
theorem dX4_machineFor_54 : decode cX4_machineFor 54 = .ok (.ifCond .eq 6, 3) := by decide +kernel
theorem dX4_machineFor_57 : decode cX4_machineFor 57 = .ok (.iload 4, 2) := by decide +kernel
theorem dX4_machineFor_59 : decode cX4_machineFor 59 = .ok (.ireturn, 1) := by decide +kernel
theorem dX4_machineFor_60 : decode cX4_machineFor 60 = .ok (.iinc 4 1, 3) := by decide +kernel
theorem dX4_machineFor_63 : decode cX4_machineFor 63 = .ok (.goto (-36), 3) := by decide +kernel
theorem dX4_machineFor_66 : decode cX4_machineFor 66 = .ok (.bipush (-5), 2) := by decide +kernel
theorem dX4_machineFor_68 : decode cX4_machineFor 68 = .ok (.ireturn, 1) := by decide +kernel
theorem dX4_fate_0 : decode cX4_fate 0 = .ok (.aload_n 0, 1) := by decide +kernel
theorem dX4_fate_1 : decode cX4_fate 1 = .ok (.getfield 12, 3) := by decide +kernel
theorem dX4_fate_4 : decode cX4_fate 4 = .ok (.getfield 92, 3) := by decide +kernel
theorem dX4_fate_7 : decode cX4_fate 7 = .ok (.iload_n 1, 1) := by decide +kernel
theorem dX4_fate_8 : decode cX4_fate 8 = .ok (.invokevirtual 81, 3) := by decide +kernel
theorem dX4_fate_11 : decode cX4_fate 11 = .ok (.ifCond .ne 5, 3) := by decide +kernel
theorem dX4_fate_14 : decode cX4_fate 14 = .ok (.iconst (-1), 1) := by decide +kernel
theorem dX4_fate_15 : decode cX4_fate 15 = .ok (.ireturn, 1) := by decide +kernel
theorem dX4_fate_16 : decode cX4_fate 16 = .ok (.aload_n 0, 1) := by decide +kernel
theorem dX4_fate_17 : decode cX4_fate 17 = .ok (.getfield 12, 3) := by decide +kernel
theorem dX4_fate_20 : decode cX4_fate 20 = .ok (.iload_n 1, 1) := by decide +kernel
theorem dX4_fate_21 : decode cX4_fate 21 = .ok (.invokevirtual 103, 3) := by decide +kernel
theorem dX4_fate_24 : decode cX4_fate 24 = .ok (.ifCond .ne 6, 3) := by decide +kernel
theorem dX4_fate_27 : decode cX4_fate 27 = .ok (.bipush (-4), 2) := by decide +kernel
theorem dX4_fate_29 : decode cX4_fate 29 = .ok (.ireturn, 1) := by decide +kernel
theorem dX4_fate_30 : decode cX4_fate 30 = .ok (.aload_n 0, 1) := by decide +kernel
theorem dX4_fate_31 : decode cX4_fate 31 = .ok (.getfield 19, 3) := by decide +kernel
theorem dX4_fate_34 : decode cX4_fate 34 = .ok (.aload_n 0, 1) := by decide +kernel
theorem dX4_fate_35 : decode cX4_fate 35 = .ok (.getfield 12, 3) := by decide +kernel
theorem dX4_fate_38 : decode cX4_fate 38 = .ok (.invokevirtual 167, 3) := by decide +kernel
theorem dX4_fate_41 : decode cX4_fate 41 = .ok (.aload_n 0, 1) := by decide +kernel
theorem dX4_fate_42 : decode cX4_fate 42 = .ok (.getfield 19, 3) := by decide +kernel
theorem dX4_fate_45 : decode cX4_fate 45 = .ok (.aload_n 0, 1) := by decide +kernel
theorem dX4_fate_46 : decode cX4_fate 46 = .ok (.getfield 12, 3) := by decide +kernel
theorem dX4_fate_49 : decode cX4_fate 49 = .ok (.getfield 92, 3) := by decide +kernel
theorem dX4_fate_52 : decode cX4_fate 52 = .ok (.iload_n 1, 1) := by decide +kernel
theorem dX4_fate_53 : decode cX4_fate 53 = .ok (.iconst 2, 1) := by decide +kernel
theorem dX4_fate_54 : decode cX4_fate 54 = .ok (.invokevirtual 106, 3) := by decide +kernel
theorem dX4_fate_57 : decode cX4_fate 57 = .ok (.invokevirtual 176, 3) := by decide +kernel
theorem dX4_fate_60 : decode cX4_fate 60 = .ok (.aload_n 0, 1) := by decide +kernel
theorem dX4_fate_61 : decode cX4_fate 61 = .ok (.getfield 19, 3) := by decide +kernel
theorem dX4_fate_64 : decode cX4_fate 64 = .ok (.iload_n 1, 1) := by decide +kernel
theorem dX4_fate_65 : decode cX4_fate 65 = .ok (.invokevirtual 198, 3) := by decide +kernel
theorem dX4_fate_68 : decode cX4_fate 68 = .ok (.ifCond .ne 5, 3) := by decide +kernel
theorem dX4_fate_71 : decode cX4_fate 71 = .ok (.iconst 0, 1) := by decide +kernel
theorem dX4_fate_72 : decode cX4_fate 72 = .ok (.ireturn, 1) := by decide +kernel
theorem dX4_fate_73 : decode cX4_fate 73 = .ok (.aload_n 0, 1) := by decide +kernel
theorem dX4_fate_74 : decode cX4_fate 74 = .ok (.getfield 19, 3) := by decide +kernel
theorem dX4_fate_77 : decode cX4_fate 77 = .ok (.iload_n 1, 1) := by decide +kernel
theorem dX4_fate_78 : decode cX4_fate 78 = .ok (.invokevirtual 201, 3) := by decide +kernel
theorem dX4_fate_81 : decode cX4_fate 81 = .ok (.bipush (-5), 2) := by decide +kernel
theorem dX4_fate_83 : decode cX4_fate 83 = .ok (.if_icmp .ne 7, 3) := by decide +kernel
theorem dX4_fate_86 : decode cX4_fate 86 = .ok (.iconst 2, 1) := by decide +kernel
theorem dX4_fate_87 : decode cX4_fate 87 = .ok (.goto 4, 3) := by decide +kernel
theorem dX4_fate_90 : decode cX4_fate 90 = .ok (.iconst 1, 1) := by decide +kernel
theorem dX4_fate_91 : decode cX4_fate 91 = .ok (.ireturn, 1) := by decide +kernel
theorem dX4_wind_0 : decode cX4_wind 0 = .ok (.iload_n 1, 1) := by decide +kernel
theorem dX4_wind_1 : decode cX4_wind 1 = .ok (.invokestatic 192, 3) := by decide +kernel
theorem dX4_wind_4 : decode cX4_wind 4 = .ok (.ifCond .eq 14, 3) := by decide +kernel
theorem dX4_wind_7 : decode cX4_wind 7 = .ok (.aload_n 0, 1) := by decide +kernel
theorem dX4_wind_8 : decode cX4_wind 8 = .ok (.getfield 12, 3) := by decide +kernel
theorem dX4_wind_11 : decode cX4_wind 11 = .ok (.iload_n 1, 1) := by decide +kernel
theorem dX4_wind_12 : decode cX4_wind 12 = .ok (.invokevirtual 73, 3) := by decide +kernel
theorem dX4_wind_15 : decode cX4_wind 15 = .ok (.goto 4, 3) := by decide +kernel
theorem dX4_wind_18 : decode cX4_wind 18 = .ok (.iconst (-1), 1) := by decide +kernel
theorem dX4_wind_19 : decode cX4_wind 19 = .ok (.ireturn, 1) := by decide +kernel
theorem dX4_count_0 : decode cX4_count 0 = .ok (.iload_n 1, 1) := by decide +kernel
theorem dX4_count_1 : decode cX4_count 1 = .ok (.tableswitch 263 0 16 #[83, 91, 102, 113, 124, 137, 150, 163, 176, 187, 195, 203, 215, 227, 235, 247, 255], 83) := by decide +kernel
theorem dX4_count_84 : decode cX4_count 84 = .ok (.aload_n 0, 1) := by decide +kernel
theorem dX4_count_85 : decode cX4_count 85 = .ok (.getfield 12, 3) := by decide +kernel
theorem dX4_count_88 : decode cX4_count 88 = .ok (.getfield 109, 3) := by decide +kernel
theorem dX4_count_91 : decode cX4_count 91 = .ok (.ireturn, 1) := by decide +kernel
theorem dX4_count_92 : decode cX4_count 92 = .ok (.aload_n 0, 1) := by decide +kernel
theorem dX4_count_93 : decode cX4_count 93 = .ok (.getfield 12, 3) := by decide +kernel
theorem dX4_count_96 : decode cX4_count 96 = .ok (.getfield 44, 3) := by decide +kernel
theorem dX4_count_99 : decode cX4_count 99 = .ok (.invokevirtual 133, 3) := by decide +kernel
theorem dX4_count_102 : decode cX4_count 102 = .ok (.ireturn, 1) := by decide +kernel
theorem dX4_count_103 : decode cX4_count 103 = .ok (.aload_n 0, 1) := by decide +kernel
theorem dX4_count_104 : decode cX4_count 104 = .ok (.getfield 12, 3) := by decide +kernel
theorem dX4_count_107 : decode cX4_count 107 = .ok (.getfield 62, 3) := by decide +kernel
theorem dX4_count_110 : decode cX4_count 110 = .ok (.invokevirtual 133, 3) := by decide +kernel
theorem dX4_count_113 : decode cX4_count 113 = .ok (.ireturn, 1) := by decide +kernel
theorem dX4_count_114 : decode cX4_count 114 = .ok (.aload_n 0, 1) := by decide +kernel
theorem dX4_count_115 : decode cX4_count 115 = .ok (.getfield 12, 3) := by decide +kernel
theorem dX4_count_118 : decode cX4_count 118 = .ok (.getfield 92, 3) := by decide +kernel
theorem dX4_count_121 : decode cX4_count 121 = .ok (.invokevirtual 133, 3) := by decide +kernel
theorem dX4_count_124 : decode cX4_count 124 = .ok (.ireturn, 1) := by decide +kernel
theorem dX4_count_125 : decode cX4_count 125 = .ok (.aload_n 0, 1) := by decide +kernel
theorem dX4_count_126 : decode cX4_count 126 = .ok (.getfield 12, 3) := by decide +kernel
theorem dX4_count_129 : decode cX4_count 129 = .ok (.getfield 92, 3) := by decide +kernel
theorem dX4_count_132 : decode cX4_count 132 = .ok (.iconst 5, 1) := by decide +kernel
theorem dX4_count_133 : decode cX4_count 133 = .ok (.iconst 0, 1) := by decide +kernel
theorem dX4_count_134 : decode cX4_count 134 = .ok (.invokevirtual 186, 3) := by decide +kernel
theorem dX4_count_137 : decode cX4_count 137 = .ok (.ireturn, 1) := by decide +kernel
theorem dX4_count_138 : decode cX4_count 138 = .ok (.aload_n 0, 1) := by decide +kernel
theorem dX4_count_139 : decode cX4_count 139 = .ok (.getfield 12, 3) := by decide +kernel
theorem dX4_count_142 : decode cX4_count 142 = .ok (.getfield 92, 3) := by decide +kernel
theorem dX4_count_145 : decode cX4_count 145 = .ok (.iconst 5, 1) := by decide +kernel
theorem dX4_count_146 : decode cX4_count 146 = .ok (.iconst 1, 1) := by decide +kernel
theorem dX4_count_147 : decode cX4_count 147 = .ok (.invokevirtual 186, 3) := by decide +kernel
theorem dX4_count_150 : decode cX4_count 150 = .ok (.ireturn, 1) := by decide +kernel
theorem dX4_count_151 : decode cX4_count 151 = .ok (.aload_n 0, 1) := by decide +kernel
theorem dX4_count_152 : decode cX4_count 152 = .ok (.getfield 12, 3) := by decide +kernel
theorem dX4_count_155 : decode cX4_count 155 = .ok (.getfield 92, 3) := by decide +kernel
theorem dX4_count_158 : decode cX4_count 158 = .ok (.iconst 5, 1) := by decide +kernel
theorem dX4_count_159 : decode cX4_count 159 = .ok (.iconst 2, 1) := by decide +kernel
theorem dX4_count_160 : decode cX4_count 160 = .ok (.invokevirtual 186, 3) := by decide +kernel
theorem dX4_count_163 : decode cX4_count 163 = .ok (.ireturn, 1) := by decide +kernel
theorem dX4_count_164 : decode cX4_count 164 = .ok (.aload_n 0, 1) := by decide +kernel
theorem dX4_count_165 : decode cX4_count 165 = .ok (.getfield 12, 3) := by decide +kernel
theorem dX4_count_168 : decode cX4_count 168 = .ok (.getfield 92, 3) := by decide +kernel
theorem dX4_count_171 : decode cX4_count 171 = .ok (.iconst 5, 1) := by decide +kernel
theorem dX4_count_172 : decode cX4_count 172 = .ok (.iconst 3, 1) := by decide +kernel
theorem dX4_count_173 : decode cX4_count 173 = .ok (.invokevirtual 186, 3) := by decide +kernel
theorem dX4_count_176 : decode cX4_count 176 = .ok (.ireturn, 1) := by decide +kernel
theorem dX4_count_177 : decode cX4_count 177 = .ok (.aload_n 0, 1) := by decide +kernel
theorem dX4_count_178 : decode cX4_count 178 = .ok (.getfield 12, 3) := by decide +kernel
theorem dX4_count_181 : decode cX4_count 181 = .ok (.getfield 122, 3) := by decide +kernel
theorem dX4_count_184 : decode cX4_count 184 = .ok (.invokevirtual 133, 3) := by decide +kernel
theorem dX4_count_187 : decode cX4_count 187 = .ok (.ireturn, 1) := by decide +kernel
theorem dX4_count_188 : decode cX4_count 188 = .ok (.aload_n 0, 1) := by decide +kernel
theorem dX4_count_189 : decode cX4_count 189 = .ok (.getfield 12, 3) := by decide +kernel
theorem dX4_count_192 : decode cX4_count 192 = .ok (.getfield 204, 3) := by decide +kernel
theorem dX4_count_195 : decode cX4_count 195 = .ok (.ireturn, 1) := by decide +kernel
theorem dX4_count_196 : decode cX4_count 196 = .ok (.aload_n 0, 1) := by decide +kernel
theorem dX4_count_197 : decode cX4_count 197 = .ok (.getfield 12, 3) := by decide +kernel
theorem dX4_count_200 : decode cX4_count 200 = .ok (.getfield 207, 3) := by decide +kernel
theorem dX4_count_203 : decode cX4_count 203 = .ok (.ireturn, 1) := by decide +kernel
theorem dX4_count_204 : decode cX4_count 204 = .ok (.aload_n 0, 1) := by decide +kernel
theorem dX4_count_205 : decode cX4_count 205 = .ok (.getfield 12, 3) := by decide +kernel
theorem dX4_count_208 : decode cX4_count 208 = .ok (.getfield 62, 3) := by decide +kernel
theorem dX4_count_211 : decode cX4_count 211 = .ok (.iconst 0, 1) := by decide +kernel
theorem dX4_count_212 : decode cX4_count 212 = .ok (.invokevirtual 210, 3) := by decide +kernel
theorem dX4_count_215 : decode cX4_count 215 = .ok (.ireturn, 1) := by decide +kernel
theorem dX4_count_216 : decode cX4_count 216 = .ok (.aload_n 0, 1) := by decide +kernel
theorem dX4_count_217 : decode cX4_count 217 = .ok (.getfield 12, 3) := by decide +kernel
theorem dX4_count_220 : decode cX4_count 220 = .ok (.getfield 62, 3) := by decide +kernel
theorem dX4_count_223 : decode cX4_count 223 = .ok (.iconst 1, 1) := by decide +kernel
theorem dX4_count_224 : decode cX4_count 224 = .ok (.invokevirtual 210, 3) := by decide +kernel
theorem dX4_count_227 : decode cX4_count 227 = .ok (.ireturn, 1) := by decide +kernel
theorem dX4_count_228 : decode cX4_count 228 = .ok (.aload_n 0, 1) := by decide +kernel
theorem dX4_count_229 : decode cX4_count 229 = .ok (.getfield 12, 3) := by decide +kernel
theorem dX4_count_232 : decode cX4_count 232 = .ok (.getfield 213, 3) := by decide +kernel
theorem dX4_count_235 : decode cX4_count 235 = .ok (.ireturn, 1) := by decide +kernel
theorem dX4_count_236 : decode cX4_count 236 = .ok (.aload_n 0, 1) := by decide +kernel
theorem dX4_count_237 : decode cX4_count 237 = .ok (.getfield 12, 3) := by decide +kernel
theorem dX4_count_240 : decode cX4_count 240 = .ok (.getfield 44, 3) := by decide +kernel
theorem dX4_count_243 : decode cX4_count 243 = .ok (.iconst 1, 1) := by decide +kernel
theorem dX4_count_244 : decode cX4_count 244 = .ok (.invokevirtual 210, 3) := by decide +kernel
theorem dX4_count_247 : decode cX4_count 247 = .ok (.ireturn, 1) := by decide +kernel
theorem dX4_count_248 : decode cX4_count 248 = .ok (.aload_n 0, 1) := by decide +kernel
theorem dX4_count_249 : decode cX4_count 249 = .ok (.getfield 25, 3) := by decide +kernel
theorem dX4_count_252 : decode cX4_count 252 = .ok (.invokevirtual 163, 3) := by decide +kernel
theorem dX4_count_255 : decode cX4_count 255 = .ok (.ireturn, 1) := by decide +kernel
theorem dX4_count_256 : decode cX4_count 256 = .ok (.aload_n 0, 1) := by decide +kernel
theorem dX4_count_257 : decode cX4_count 257 = .ok (.getfield 32, 3) := by decide +kernel
theorem dX4_count_260 : decode cX4_count 260 = .ok (.invokevirtual 143, 3) := by decide +kernel
theorem dX4_count_263 : decode cX4_count 263 = .ok (.ireturn, 1) := by decide +kernel
theorem dX4_count_264 : decode cX4_count 264 = .ok (.bipush (-2), 2) := by decide +kernel
theorem dX4_count_266 : decode cX4_count 266 = .ok (.ireturn, 1) := by decide +kernel
theorem dX4_isWithin_0 : decode cX4_isWithin 0 = .ok (.iload_n 0, 1) := by decide +kernel
theorem dX4_isWithin_1 : decode cX4_isWithin 1 = .ok (.iload_n 1, 1) := by decide +kernel
theorem dX4_isWithin_2 : decode cX4_isWithin 2 = .ok (.if_icmp .lt 12, 3) := by decide +kernel
theorem dX4_isWithin_5 : decode cX4_isWithin 5 = .ok (.iload_n 0, 1) := by decide +kernel
theorem dX4_isWithin_6 : decode cX4_isWithin 6 = .ok (.iload_n 2, 1) := by decide +kernel
theorem dX4_isWithin_7 : decode cX4_isWithin 7 = .ok (.if_icmp .gt 7, 3) := by decide +kernel
theorem dX4_isWithin_10 : decode cX4_isWithin 10 = .ok (.iconst 1, 1) := by decide +kernel
theorem dX4_isWithin_11 : decode cX4_isWithin 11 = .ok (.goto 4, 3) := by decide +kernel
theorem dX4_isWithin_14 : decode cX4_isWithin 14 = .ok (.iconst 0, 1) := by decide +kernel
theorem dX4_isWithin_15 : decode cX4_isWithin 15 = .ok (.ireturn, 1) := by decide +kernel
theorem dX4_isHalfDay_0 : decode cX4_isHalfDay 0 = .ok (.iload_n 0, 1) := by decide +kernel
theorem dX4_isHalfDay_1 : decode cX4_isHalfDay 1 = .ok (.iconst 0, 1) := by decide +kernel
theorem dX4_isHalfDay_2 : decode cX4_isHalfDay 2 = .ok (.sipush 199, 3) := by decide +kernel
theorem dX4_isHalfDay_5 : decode cX4_isHalfDay 5 = .ok (.invokestatic 40, 3) := by decide +kernel
theorem dX4_isHalfDay_8 : decode cX4_isHalfDay 8 = .ok (.ireturn, 1) := by decide +kernel
theorem dX4_isRadius_0 : decode cX4_isRadius 0 = .ok (.iload_n 0, 1) := by decide +kernel
theorem dX4_isRadius_1 : decode cX4_isRadius 1 = .ok (.iconst 2, 1) := by decide +kernel
theorem dX4_isRadius_2 : decode cX4_isRadius 2 = .ok (.bipush 60, 2) := by decide +kernel
theorem dX4_isRadius_4 : decode cX4_isRadius 4 = .ok (.invokestatic 40, 3) := by decide +kernel
theorem dX4_isRadius_7 : decode cX4_isRadius 7 = .ok (.ireturn, 1) := by decide +kernel
theorem dX4_isLift_0 : decode cX4_isLift 0 = .ok (.iload_n 0, 1) := by decide +kernel
theorem dX4_isLift_1 : decode cX4_isLift 1 = .ok (.iconst 1, 1) := by decide +kernel
theorem dX4_isLift_2 : decode cX4_isLift 2 = .ok (.sipush 2000, 3) := by decide +kernel
theorem dX4_isLift_5 : decode cX4_isLift 5 = .ok (.invokestatic 40, 3) := by decide +kernel
theorem dX4_isLift_8 : decode cX4_isLift 8 = .ok (.ifCond .eq 14, 3) := by decide +kernel
theorem dX4_isLift_11 : decode cX4_isLift 11 = .ok (.iload_n 1, 1) := by decide +kernel
theorem dX4_isLift_12 : decode cX4_isLift 12 = .ok (.invokestatic 170, 3) := by decide +kernel
theorem dX4_isLift_15 : decode cX4_isLift 15 = .ok (.ifCond .eq 7, 3) := by decide +kernel
theorem dX4_isLift_18 : decode cX4_isLift 18 = .ok (.iconst 1, 1) := by decide +kernel
theorem dX4_isLift_19 : decode cX4_isLift 19 = .ok (.goto 4, 3) := by decide +kernel
theorem dX4_isLift_22 : decode cX4_isLift 22 = .ok (.iconst 0, 1) := by decide +kernel
theorem dX4_isLift_23 : decode cX4_isLift 23 = .ok (.ireturn, 1) := by decide +kernel
theorem dX4_limitFor_0 : decode cX4_limitFor 0 = .ok (.bipush 60, 2) := by decide +kernel
theorem dX4_limitFor_2 : decode cX4_limitFor 2 = .ok (.iload_n 0, 1) := by decide +kernel
theorem dX4_limitFor_3 : decode cX4_limitFor 3 = .ok (.bipush 20, 2) := by decide +kernel
theorem dX4_limitFor_5 : decode cX4_limitFor 5 = .ok (.idiv, 1) := by decide +kernel
theorem dX4_limitFor_6 : decode cX4_limitFor 6 = .ok (.isub, 1) := by decide +kernel
theorem dX4_limitFor_7 : decode cX4_limitFor 7 = .ok (.iload_n 1, 1) := by decide +kernel
theorem dX4_limitFor_8 : decode cX4_limitFor 8 = .ok (.iconst 2, 1) := by decide +kernel
theorem dX4_limitFor_9 : decode cX4_limitFor 9 = .ok (.idiv, 1) := by decide +kernel
theorem dX4_limitFor_10 : decode cX4_limitFor 10 = .ok (.isub, 1) := by decide +kernel
theorem dX4_limitFor_11 : decode cX4_limitFor 11 = .ok (.bipush 10, 2) := by decide +kernel
theorem dX4_limitFor_13 : decode cX4_limitFor 13 = .ok (.invokestatic 216, 3) := by decide +kernel
theorem dX4_limitFor_16 : decode cX4_limitFor 16 = .ok (.ireturn, 1) := by decide +kernel
end
section
theorem dL_cell_0 : decode cL_cell 0 = .ok (.iload_n 1, 1) := by decide +kernel
theorem dL_cell_1 : decode cL_cell 1 = .ok (.aload_n 0, 1) := by decide +kernel
theorem dL_cell_2 : decode cL_cell 2 = .ok (.arraylength, 1) := by decide +kernel
theorem dL_cell_3 : decode cL_cell 3 = .ok (.if_icmp .ge 9, 3) := by decide +kernel
theorem dL_cell_6 : decode cL_cell 6 = .ok (.aload_n 0, 1) := by decide +kernel
theorem dL_cell_7 : decode cL_cell 7 = .ok (.iload_n 1, 1) := by decide +kernel
theorem dL_cell_8 : decode cL_cell 8 = .ok (.iaload, 1) := by decide +kernel
theorem dL_cell_9 : decode cL_cell 9 = .ok (.goto 16, 3) := by decide +kernel
theorem dL_cell_12 : decode cL_cell 12 = .ok (.sipush 7919, 3) := by decide +kernel
theorem dL_cell_15 : decode cL_cell 15 = .ok (.iload_n 1, 1) := by decide +kernel
theorem dL_cell_16 : decode cL_cell 16 = .ok (.bipush 37, 2) := by decide +kernel
theorem dL_cell_18 : decode cL_cell 18 = .ok (.iadd, 1) := by decide +kernel
theorem dL_cell_19 : decode cL_cell 19 = .ok (.imul, 1) := by decide +kernel
theorem dL_cell_20 : decode cL_cell 20 = .ok (.iload_n 1, 1) := by decide +kernel
theorem dL_cell_21 : decode cL_cell 21 = .ok (.bipush 67, 2) := by decide +kernel
theorem dL_cell_23 : decode cL_cell 23 = .ok (.iadd, 1) := by decide +kernel
theorem dL_cell_24 : decode cL_cell 24 = .ok (.imul, 1) := by decide +kernel
theorem dL_cell_25 : decode cL_cell 25 = .ok (.ireturn, 1) := by decide +kernel
theorem dL_low_0 : decode cL_low 0 = .ok (.iload_n 0, 1) := by decide +kernel
theorem dL_low_1 : decode cL_low 1 = .ok (.ldc 7, 2) := by decide +kernel
theorem dL_low_3 : decode cL_low 3 = .ok (.iand, 1) := by decide +kernel
theorem dL_low_4 : decode cL_low 4 = .ok (.iload_n 1, 1) := by decide +kernel
theorem dL_low_5 : decode cL_low 5 = .ok (.irem, 1) := by decide +kernel
theorem dL_low_6 : decode cL_low 6 = .ok (.ireturn, 1) := by decide +kernel
theorem dL_all_0 : decode cL_all 0 = .ok (.ldc2_w 8, 3) := by decide +kernel
theorem dL_all_3 : decode cL_all 3 = .ok (.lstore_n 1, 1) := by decide +kernel
theorem dL_all_4 : decode cL_all 4 = .ok (.iconst 0, 1) := by decide +kernel
theorem dL_all_5 : decode cL_all 5 = .ok (.istore_n 3, 1) := by decide +kernel
theorem dL_all_6 : decode cL_all 6 = .ok (.iload_n 3, 1) := by decide +kernel
theorem dL_all_7 : decode cL_all 7 = .ok (.bipush 15, 2) := by decide +kernel
theorem dL_all_9 : decode cL_all 9 = .ok (.if_icmp .ge 22, 3) := by decide +kernel
theorem dL_all_12 : decode cL_all 12 = .ok (.ldc2_w 10, 3) := by decide +kernel
theorem dL_all_15 : decode cL_all 15 = .ok (.lload_n 1, 1) := by decide +kernel
theorem dL_all_16 : decode cL_all 16 = .ok (.lmul, 1) := by decide +kernel
theorem dL_all_17 : decode cL_all 17 = .ok (.aload_n 0, 1) := by decide +kernel
theorem dL_all_18 : decode cL_all 18 = .ok (.iload_n 3, 1) := by decide +kernel
theorem dL_all_19 : decode cL_all 19 = .ok (.invokevirtual 12, 3) := by decide +kernel
theorem dL_all_22 : decode cL_all 22 = .ok (.i2l, 1) := by decide +kernel
theorem dL_all_23 : decode cL_all 23 = .ok (.ladd, 1) := by decide +kernel
theorem dL_all_24 : decode cL_all 24 = .ok (.lstore_n 1, 1) := by decide +kernel
theorem dL_all_25 : decode cL_all 25 = .ok (.iinc 3 1, 3) := by decide +kernel
theorem dL_all_28 : decode cL_all 28 = .ok (.goto (-22), 3) := by decide +kernel
theorem dL_all_31 : decode cL_all 31 = .ok (.iconst 0, 1) := by decide +kernel
theorem dL_all_32 : decode cL_all 32 = .ok (.istore_n 3, 1) := by decide +kernel
theorem dL_all_33 : decode cL_all 33 = .ok (.iload_n 3, 1) := by decide +kernel
theorem dL_all_34 : decode cL_all 34 = .ok (.bipush 7, 2) := by decide +kernel
theorem dL_all_36 : decode cL_all 36 = .ok (.aload_n 0, 1) := by decide +kernel
theorem dL_all_37 : decode cL_all 37 = .ok (.iconst 1, 1) := by decide +kernel
theorem dL_all_38 : decode cL_all 38 = .ok (.invokevirtual 12, 3) := by decide +kernel
theorem dL_all_41 : decode cL_all 41 = .ok (.imul, 1) := by decide +kernel
theorem dL_all_42 : decode cL_all 42 = .ok (.if_icmp .ge 29, 3) := by decide +kernel
theorem dL_all_45 : decode cL_all 45 = .ok (.ldc2_w 10, 3) := by decide +kernel
theorem dL_all_48 : decode cL_all 48 = .ok (.lload_n 1, 1) := by decide +kernel
theorem dL_all_49 : decode cL_all 49 = .ok (.lmul, 1) := by decide +kernel
theorem dL_all_50 : decode cL_all 50 = .ok (.aload_n 0, 1) := by decide +kernel
theorem dL_all_51 : decode cL_all 51 = .ok (.iload_n 3, 1) := by decide +kernel
theorem dL_all_52 : decode cL_all 52 = .ok (.bipush 7, 2) := by decide +kernel
theorem dL_all_54 : decode cL_all 54 = .ok (.idiv, 1) := by decide +kernel
theorem dL_all_55 : decode cL_all 55 = .ok (.iload_n 3, 1) := by decide +kernel
theorem dL_all_56 : decode cL_all 56 = .ok (.bipush 7, 2) := by decide +kernel
theorem dL_all_58 : decode cL_all 58 = .ok (.irem, 1) := by decide +kernel
theorem dL_all_59 : decode cL_all 59 = .ok (.invokevirtual 18, 3) := by decide +kernel
theorem dL_all_62 : decode cL_all 62 = .ok (.i2l, 1) := by decide +kernel
theorem dL_all_63 : decode cL_all 63 = .ok (.ladd, 1) := by decide +kernel
theorem dL_all_64 : decode cL_all 64 = .ok (.lstore_n 1, 1) := by decide +kernel
theorem dL_all_65 : decode cL_all 65 = .ok (.iinc 3 1, 3) := by decide +kernel
theorem dL_all_68 : decode cL_all 68 = .ok (.goto (-35), 3) := by decide +kernel
theorem dL_all_71 : decode cL_all 71 = .ok (.iconst 0, 1) := by decide +kernel
theorem dL_all_72 : decode cL_all 72 = .ok (.istore_n 3, 1) := by decide +kernel
theorem dL_all_73 : decode cL_all 73 = .ok (.iload_n 3, 1) := by decide +kernel
theorem dL_all_74 : decode cL_all 74 = .ok (.bipush 7, 2) := by decide +kernel
theorem dL_all_76 : decode cL_all 76 = .ok (.aload_n 0, 1) := by decide +kernel
theorem dL_all_77 : decode cL_all 77 = .ok (.iconst 2, 1) := by decide +kernel
theorem dL_all_78 : decode cL_all 78 = .ok (.invokevirtual 12, 3) := by decide +kernel
theorem dL_all_81 : decode cL_all 81 = .ok (.imul, 1) := by decide +kernel
theorem dL_all_82 : decode cL_all 82 = .ok (.if_icmp .ge 29, 3) := by decide +kernel
theorem dL_all_85 : decode cL_all 85 = .ok (.ldc2_w 10, 3) := by decide +kernel
theorem dL_all_88 : decode cL_all 88 = .ok (.lload_n 1, 1) := by decide +kernel
theorem dL_all_89 : decode cL_all 89 = .ok (.lmul, 1) := by decide +kernel
theorem dL_all_90 : decode cL_all 90 = .ok (.aload_n 0, 1) := by decide +kernel
theorem dL_all_91 : decode cL_all 91 = .ok (.iload_n 3, 1) := by decide +kernel
theorem dL_all_92 : decode cL_all 92 = .ok (.bipush 7, 2) := by decide +kernel
theorem dL_all_94 : decode cL_all 94 = .ok (.idiv, 1) := by decide +kernel
theorem dL_all_95 : decode cL_all 95 = .ok (.iload_n 3, 1) := by decide +kernel
theorem dL_all_96 : decode cL_all 96 = .ok (.bipush 7, 2) := by decide +kernel
theorem dL_all_98 : decode cL_all 98 = .ok (.irem, 1) := by decide +kernel
theorem dL_all_99 : decode cL_all 99 = .ok (.invokevirtual 22, 3) := by decide +kernel
theorem dL_all_102 : decode cL_all 102 = .ok (.i2l, 1) := by decide +kernel
theorem dL_all_103 : decode cL_all 103 = .ok (.ladd, 1) := by decide +kernel
theorem dL_all_104 : decode cL_all 104 = .ok (.lstore_n 1, 1) := by decide +kernel
theorem dL_all_105 : decode cL_all 105 = .ok (.iinc 3 1, 3) := by decide +kernel
theorem dL_all_108 : decode cL_all 108 = .ok (.goto (-35), 3) := by decide +kernel
theorem dL_all_111 : decode cL_all 111 = .ok (.iconst 0, 1) := by decide +kernel
theorem dL_all_112 : decode cL_all 112 = .ok (.istore_n 3, 1) := by decide +kernel
theorem dL_all_113 : decode cL_all 113 = .ok (.iload_n 3, 1) := by decide +kernel
theorem dL_all_114 : decode cL_all 114 = .ok (.bipush 9, 2) := by decide +kernel
theorem dL_all_116 : decode cL_all 116 = .ok (.aload_n 0, 1) := by decide +kernel
theorem dL_all_117 : decode cL_all 117 = .ok (.iconst 3, 1) := by decide +kernel
theorem dL_all_118 : decode cL_all 118 = .ok (.invokevirtual 12, 3) := by decide +kernel
theorem dL_all_121 : decode cL_all 121 = .ok (.imul, 1) := by decide +kernel
theorem dL_all_122 : decode cL_all 122 = .ok (.if_icmp .ge 29, 3) := by decide +kernel
theorem dL_all_125 : decode cL_all 125 = .ok (.ldc2_w 10, 3) := by decide +kernel
theorem dL_all_128 : decode cL_all 128 = .ok (.lload_n 1, 1) := by decide +kernel
theorem dL_all_129 : decode cL_all 129 = .ok (.lmul, 1) := by decide +kernel
theorem dL_all_130 : decode cL_all 130 = .ok (.aload_n 0, 1) := by decide +kernel
theorem dL_all_131 : decode cL_all 131 = .ok (.iload_n 3, 1) := by decide +kernel
theorem dL_all_132 : decode cL_all 132 = .ok (.bipush 9, 2) := by decide +kernel
theorem dL_all_134 : decode cL_all 134 = .ok (.idiv, 1) := by decide +kernel
theorem dL_all_135 : decode cL_all 135 = .ok (.iload_n 3, 1) := by decide +kernel
theorem dL_all_136 : decode cL_all 136 = .ok (.bipush 9, 2) := by decide +kernel
theorem dL_all_138 : decode cL_all 138 = .ok (.irem, 1) := by decide +kernel
theorem dL_all_139 : decode cL_all 139 = .ok (.invokevirtual 25, 3) := by decide +kernel
theorem dL_all_142 : decode cL_all 142 = .ok (.i2l, 1) := by decide +kernel
theorem dL_all_143 : decode cL_all 143 = .ok (.ladd, 1) := by decide +kernel
theorem dL_all_144 : decode cL_all 144 = .ok (.lstore_n 1, 1) := by decide +kernel
theorem dL_all_145 : decode cL_all 145 = .ok (.iinc 3 1, 3) := by decide +kernel
theorem dL_all_148 : decode cL_all 148 = .ok (.goto (-35), 3) := by decide +kernel
theorem dL_all_151 : decode cL_all 151 = .ok (.iconst 0, 1) := by decide +kernel
theorem dL_all_152 : decode cL_all 152 = .ok (.istore_n 3, 1) := by decide +kernel
theorem dL_all_153 : decode cL_all 153 = .ok (.iload_n 3, 1) := by decide +kernel
theorem dL_all_154 : decode cL_all 154 = .ok (.iconst 5, 1) := by decide +kernel
theorem dL_all_155 : decode cL_all 155 = .ok (.aload_n 0, 1) := by decide +kernel
theorem dL_all_156 : decode cL_all 156 = .ok (.bipush 8, 2) := by decide +kernel
theorem dL_all_158 : decode cL_all 158 = .ok (.invokevirtual 12, 3) := by decide +kernel
theorem dL_all_161 : decode cL_all 161 = .ok (.imul, 1) := by decide +kernel
theorem dL_all_162 : decode cL_all 162 = .ok (.if_icmp .ge 27, 3) := by decide +kernel
theorem dL_all_165 : decode cL_all 165 = .ok (.ldc2_w 10, 3) := by decide +kernel
theorem dL_all_168 : decode cL_all 168 = .ok (.lload_n 1, 1) := by decide +kernel
theorem dL_all_169 : decode cL_all 169 = .ok (.lmul, 1) := by decide +kernel
theorem dL_all_170 : decode cL_all 170 = .ok (.aload_n 0, 1) := by decide +kernel
theorem dL_all_171 : decode cL_all 171 = .ok (.iload_n 3, 1) := by decide +kernel
theorem dL_all_172 : decode cL_all 172 = .ok (.iconst 5, 1) := by decide +kernel
theorem dL_all_173 : decode cL_all 173 = .ok (.idiv, 1) := by decide +kernel
theorem dL_all_174 : decode cL_all 174 = .ok (.iload_n 3, 1) := by decide +kernel
theorem dL_all_175 : decode cL_all 175 = .ok (.iconst 5, 1) := by decide +kernel
theorem dL_all_176 : decode cL_all 176 = .ok (.irem, 1) := by decide +kernel
theorem dL_all_177 : decode cL_all 177 = .ok (.invokevirtual 28, 3) := by decide +kernel
theorem dL_all_180 : decode cL_all 180 = .ok (.i2l, 1) := by decide +kernel
theorem dL_all_181 : decode cL_all 181 = .ok (.ladd, 1) := by decide +kernel
theorem dL_all_182 : decode cL_all 182 = .ok (.lstore_n 1, 1) := by decide +kernel
theorem dL_all_183 : decode cL_all 183 = .ok (.iinc 3 1, 3) := by decide +kernel
theorem dL_all_186 : decode cL_all 186 = .ok (.goto (-33), 3) := by decide +kernel
theorem dL_all_189 : decode cL_all 189 = .ok (.iconst 0, 1) := by decide +kernel
theorem dL_all_190 : decode cL_all 190 = .ok (.istore_n 3, 1) := by decide +kernel
theorem dL_all_191 : decode cL_all 191 = .ok (.iload_n 3, 1) := by decide +kernel
theorem dL_all_192 : decode cL_all 192 = .ok (.sipush 200, 3) := by decide +kernel
theorem dL_all_195 : decode cL_all 195 = .ok (.if_icmp .ge 22, 3) := by decide +kernel
theorem dL_all_198 : decode cL_all 198 = .ok (.ldc2_w 10, 3) := by decide +kernel
theorem dL_all_201 : decode cL_all 201 = .ok (.lload_n 1, 1) := by decide +kernel
theorem dL_all_202 : decode cL_all 202 = .ok (.lmul, 1) := by decide +kernel
theorem dL_all_203 : decode cL_all 203 = .ok (.aload_n 0, 1) := by decide +kernel
theorem dL_all_204 : decode cL_all 204 = .ok (.iload_n 3, 1) := by decide +kernel
theorem dL_all_205 : decode cL_all 205 = .ok (.invokevirtual 31, 3) := by decide +kernel
theorem dL_all_208 : decode cL_all 208 = .ok (.i2l, 1) := by decide +kernel
theorem dL_all_209 : decode cL_all 209 = .ok (.ladd, 1) := by decide +kernel
theorem dL_all_210 : decode cL_all 210 = .ok (.lstore_n 1, 1) := by decide +kernel
theorem dL_all_211 : decode cL_all 211 = .ok (.iinc 3 1, 3) := by decide +kernel
theorem dL_all_214 : decode cL_all 214 = .ok (.goto (-23), 3) := by decide +kernel
theorem dL_all_217 : decode cL_all 217 = .ok (.lload_n 1, 1) := by decide +kernel
theorem dL_all_218 : decode cL_all 218 = .ok (.lreturn, 1) := by decide +kernel
theorem dL_isSound_0 : decode cL_isSound 0 = .ok (.aload_n 0, 1) := by decide +kernel
theorem dL_isSound_1 : decode cL_isSound 1 = .ok (.iconst 0, 1) := by decide +kernel
theorem dL_isSound_2 : decode cL_isSound 2 = .ok (.invokevirtual 12, 3) := by decide +kernel
theorem dL_isSound_5 : decode cL_isSound 5 = .ok (.istore_n 2, 1) := by decide +kernel
theorem dL_isSound_6 : decode cL_isSound 6 = .ok (.iconst 0, 1) := by decide +kernel
theorem dL_isSound_7 : decode cL_isSound 7 = .ok (.istore_n 3, 1) := by decide +kernel
theorem dL_isSound_8 : decode cL_isSound 8 = .ok (.iconst 0, 1) := by decide +kernel
theorem dL_isSound_9 : decode cL_isSound 9 = .ok (.istore 4, 2) := by decide +kernel
theorem dL_isSound_11 : decode cL_isSound 11 = .ok (.iconst 0, 1) := by decide +kernel
theorem dL_isSound_12 : decode cL_isSound 12 = .ok (.istore 5, 2) := by decide +kernel
theorem dL_isSound_14 : decode cL_isSound 14 = .ok (.iconst 0, 1) := by decide +kernel
theorem dL_isSound_15 : decode cL_isSound 15 = .ok (.istore 6, 2) := by decide +kernel
theorem dL_isSound_17 : decode cL_isSound 17 = .ok (.iload 6, 2) := by decide +kernel
theorem dL_isSound_19 : decode cL_isSound 19 = .ok (.aload_n 0, 1) := by decide +kernel
theorem dL_isSound_20 : decode cL_isSound 20 = .ok (.iconst 1, 1) := by decide +kernel
theorem dL_isSound_21 : decode cL_isSound 21 = .ok (.invokevirtual 12, 3) := by decide +kernel
theorem dL_isSound_24 : decode cL_isSound 24 = .ok (.if_icmp .ge 114, 3) := by decide +kernel
theorem dL_isSound_27 : decode cL_isSound 27 = .ok (.iload_n 3, 1) := by decide +kernel
theorem dL_isSound_28 : decode cL_isSound 28 = .ok (.aload_n 0, 1) := by decide +kernel
theorem dL_isSound_29 : decode cL_isSound 29 = .ok (.iload 6, 2) := by decide +kernel
theorem dL_isSound_31 : decode cL_isSound 31 = .ok (.iconst 2, 1) := by decide +kernel
theorem dL_isSound_32 : decode cL_isSound 32 = .ok (.invokevirtual 18, 3) := by decide +kernel
theorem dL_isSound_35 : decode cL_isSound 35 = .ok (.iadd, 1) := by decide +kernel
theorem dL_isSound_36 : decode cL_isSound 36 = .ok (.istore_n 3, 1) := by decide +kernel
theorem dL_isSound_37 : decode cL_isSound 37 = .ok (.iload 4, 2) := by decide +kernel
theorem dL_isSound_39 : decode cL_isSound 39 = .ok (.aload_n 0, 1) := by decide +kernel
theorem dL_isSound_40 : decode cL_isSound 40 = .ok (.iload 6, 2) := by decide +kernel
theorem dL_isSound_42 : decode cL_isSound 42 = .ok (.bipush 6, 2) := by decide +kernel
theorem dL_isSound_44 : decode cL_isSound 44 = .ok (.invokevirtual 18, 3) := by decide +kernel
theorem dL_isSound_47 : decode cL_isSound 47 = .ok (.iadd, 1) := by decide +kernel
theorem dL_isSound_48 : decode cL_isSound 48 = .ok (.istore 4, 2) := by decide +kernel
theorem dL_isSound_50 : decode cL_isSound 50 = .ok (.iload 5, 2) := by decide +kernel
theorem dL_isSound_52 : decode cL_isSound 52 = .ok (.aload_n 0, 1) := by decide +kernel
theorem dL_isSound_53 : decode cL_isSound 53 = .ok (.iload 6, 2) := by decide +kernel
theorem dL_isSound_55 : decode cL_isSound 55 = .ok (.iconst 3, 1) := by decide +kernel
theorem dL_isSound_56 : decode cL_isSound 56 = .ok (.invokevirtual 18, 3) := by decide +kernel
theorem dL_isSound_59 : decode cL_isSound 59 = .ok (.aload_n 0, 1) := by decide +kernel
theorem dL_isSound_60 : decode cL_isSound 60 = .ok (.iload 6, 2) := by decide +kernel
theorem dL_isSound_62 : decode cL_isSound 62 = .ok (.iconst 4, 1) := by decide +kernel
theorem dL_isSound_63 : decode cL_isSound 63 = .ok (.invokevirtual 18, 3) := by decide +kernel
theorem dL_isSound_66 : decode cL_isSound 66 = .ok (.isub, 1) := by decide +kernel
theorem dL_isSound_67 : decode cL_isSound 67 = .ok (.iadd, 1) := by decide +kernel
theorem dL_isSound_68 : decode cL_isSound 68 = .ok (.istore 5, 2) := by decide +kernel
theorem dL_isSound_70 : decode cL_isSound 70 = .ok (.aload_n 0, 1) := by decide +kernel
theorem dL_isSound_71 : decode cL_isSound 71 = .ok (.iload 6, 2) := by decide +kernel
theorem dL_isSound_73 : decode cL_isSound 73 = .ok (.iconst 1, 1) := by decide +kernel
theorem dL_isSound_74 : decode cL_isSound 74 = .ok (.invokevirtual 18, 3) := by decide +kernel
theorem dL_isSound_77 : decode cL_isSound 77 = .ok (.ifCond .lt 53, 3) := by decide +kernel
theorem dL_isSound_80 : decode cL_isSound 80 = .ok (.aload_n 0, 1) := by decide +kernel
theorem dL_isSound_81 : decode cL_isSound 81 = .ok (.iload 6, 2) := by decide +kernel
theorem dL_isSound_83 : decode cL_isSound 83 = .ok (.iconst 1, 1) := by decide +kernel
theorem dL_isSound_84 : decode cL_isSound 84 = .ok (.invokevirtual 18, 3) := by decide +kernel
theorem dL_isSound_87 : decode cL_isSound 87 = .ok (.bipush 12, 2) := by decide +kernel
theorem dL_isSound_89 : decode cL_isSound 89 = .ok (.if_icmp .gt 41, 3) := by decide +kernel
theorem dL_isSound_92 : decode cL_isSound 92 = .ok (.aload_n 0, 1) := by decide +kernel
theorem dL_isSound_93 : decode cL_isSound 93 = .ok (.iload 6, 2) := by decide +kernel
theorem dL_isSound_95 : decode cL_isSound 95 = .ok (.iconst 2, 1) := by decide +kernel
theorem dL_isSound_96 : decode cL_isSound 96 = .ok (.invokevirtual 34, 3) := by decide +kernel
theorem dL_isSound_99 : decode cL_isSound 99 = .ok (.aload_n 0, 1) := by decide +kernel
theorem dL_isSound_100 : decode cL_isSound 100 = .ok (.iload 6, 2) := by decide +kernel
theorem dL_isSound_102 : decode cL_isSound 102 = .ok (.bipush 60, 2) := by decide +kernel
theorem dL_isSound_104 : decode cL_isSound 104 = .ok (.invokevirtual 34, 3) := by decide +kernel
theorem dL_isSound_107 : decode cL_isSound 107 = .ok (.if_icmp .lt 23, 3) := by decide +kernel
theorem dL_isSound_110 : decode cL_isSound 110 = .ok (.aload_n 0, 1) := by decide +kernel
theorem dL_isSound_111 : decode cL_isSound 111 = .ok (.iload 6, 2) := by decide +kernel
theorem dL_isSound_113 : decode cL_isSound 113 = .ok (.iconst 2, 1) := by decide +kernel
theorem dL_isSound_114 : decode cL_isSound 114 = .ok (.invokevirtual 34, 3) := by decide +kernel
theorem dL_isSound_117 : decode cL_isSound 117 = .ok (.bipush 10, 2) := by decide +kernel
theorem dL_isSound_119 : decode cL_isSound 119 = .ok (.aload_n 0, 1) := by decide +kernel
theorem dL_isSound_120 : decode cL_isSound 120 = .ok (.iload 6, 2) := by decide +kernel
theorem dL_isSound_122 : decode cL_isSound 122 = .ok (.iconst 0, 1) := by decide +kernel
theorem dL_isSound_123 : decode cL_isSound 123 = .ok (.invokevirtual 18, 3) := by decide +kernel
theorem dL_isSound_126 : decode cL_isSound 126 = .ok (.imul, 1) := by decide +kernel
theorem dL_isSound_127 : decode cL_isSound 127 = .ok (.if_icmp .le 5, 3) := by decide +kernel
theorem dL_isSound_130 : decode cL_isSound 130 = .ok (.iconst 0, 1) := by decide +kernel
theorem dL_isSound_131 : decode cL_isSound 131 = .ok (.ireturn, 1) := by decide +kernel
theorem dL_isSound_132 : decode cL_isSound 132 = .ok (.iinc 6 1, 3) := by decide +kernel
theorem dL_isSound_135 : decode cL_isSound 135 = .ok (.goto (-118), 3) := by decide +kernel
theorem dL_isSound_138 : decode cL_isSound 138 = .ok (.iconst 0, 1) := by decide +kernel
theorem dL_isSound_139 : decode cL_isSound 139 = .ok (.istore 6, 2) := by decide +kernel
theorem dL_isSound_141 : decode cL_isSound 141 = .ok (.iconst 0, 1) := by decide +kernel
theorem dL_isSound_142 : decode cL_isSound 142 = .ok (.istore 7, 2) := by decide +kernel
theorem dL_isSound_144 : decode cL_isSound 144 = .ok (.iconst 0, 1) := by decide +kernel
theorem dL_isSound_145 : decode cL_isSound 145 = .ok (.istore 8, 2) := by decide +kernel
theorem dL_isSound_147 : decode cL_isSound 147 = .ok (.iconst 0, 1) := by decide +kernel
theorem dL_isSound_148 : decode cL_isSound 148 = .ok (.istore 9, 2) := by decide +kernel
theorem dL_isSound_150 : decode cL_isSound 150 = .ok (.iconst 0, 1) := by decide +kernel
theorem dL_isSound_151 : decode cL_isSound 151 = .ok (.istore 10, 2) := by decide +kernel
theorem dL_isSound_153 : decode cL_isSound 153 = .ok (.iload 10, 2) := by decide +kernel
theorem dL_isSound_155 : decode cL_isSound 155 = .ok (.aload_n 0, 1) := by decide +kernel
theorem dL_isSound_156 : decode cL_isSound 156 = .ok (.iconst 2, 1) := by decide +kernel
theorem dL_isSound_157 : decode cL_isSound 157 = .ok (.invokevirtual 12, 3) := by decide +kernel
theorem dL_isSound_160 : decode cL_isSound 160 = .ok (.if_icmp .ge 134, 3) := by decide +kernel
theorem dL_isSound_163 : decode cL_isSound 163 = .ok (.iload 6, 2) := by decide +kernel
theorem dL_isSound_165 : decode cL_isSound 165 = .ok (.aload_n 0, 1) := by decide +kernel
theorem dL_isSound_166 : decode cL_isSound 166 = .ok (.iload 10, 2) := by decide +kernel
theorem dL_isSound_168 : decode cL_isSound 168 = .ok (.iconst 0, 1) := by decide +kernel
theorem dL_isSound_169 : decode cL_isSound 169 = .ok (.invokevirtual 22, 3) := by decide +kernel
theorem dL_isSound_172 : decode cL_isSound 172 = .ok (.iadd, 1) := by decide +kernel
theorem dL_isSound_173 : decode cL_isSound 173 = .ok (.istore 6, 2) := by decide +kernel
theorem dL_isSound_175 : decode cL_isSound 175 = .ok (.iload 7, 2) := by decide +kernel
theorem dL_isSound_177 : decode cL_isSound 177 = .ok (.aload_n 0, 1) := by decide +kernel
theorem dL_isSound_178 : decode cL_isSound 178 = .ok (.iload 10, 2) := by decide +kernel
theorem dL_isSound_180 : decode cL_isSound 180 = .ok (.iconst 5, 1) := by decide +kernel
theorem dL_isSound_181 : decode cL_isSound 181 = .ok (.invokevirtual 22, 3) := by decide +kernel
theorem dL_isSound_184 : decode cL_isSound 184 = .ok (.iadd, 1) := by decide +kernel
theorem dL_isSound_185 : decode cL_isSound 185 = .ok (.istore 7, 2) := by decide +kernel
theorem dL_isSound_187 : decode cL_isSound 187 = .ok (.iload 8, 2) := by decide +kernel
theorem dL_isSound_189 : decode cL_isSound 189 = .ok (.aload_n 0, 1) := by decide +kernel
theorem dL_isSound_190 : decode cL_isSound 190 = .ok (.iload 10, 2) := by decide +kernel
theorem dL_isSound_192 : decode cL_isSound 192 = .ok (.bipush 6, 2) := by decide +kernel
theorem dL_isSound_194 : decode cL_isSound 194 = .ok (.invokevirtual 22, 3) := by decide +kernel
theorem dL_isSound_197 : decode cL_isSound 197 = .ok (.iadd, 1) := by decide +kernel
theorem dL_isSound_198 : decode cL_isSound 198 = .ok (.istore 8, 2) := by decide +kernel
theorem dL_isSound_200 : decode cL_isSound 200 = .ok (.iconst 0, 1) := by decide +kernel
theorem dL_isSound_201 : decode cL_isSound 201 = .ok (.istore 11, 2) := by decide +kernel
theorem dL_isSound_203 : decode cL_isSound 203 = .ok (.iload 11, 2) := by decide +kernel
theorem dL_isSound_205 : decode cL_isSound 205 = .ok (.iconst 4, 1) := by decide +kernel
theorem dL_isSound_206 : decode cL_isSound 206 = .ok (.if_icmp .ge 82, 3) := by decide +kernel
theorem dL_isSound_209 : decode cL_isSound 209 = .ok (.iconst 0, 1) := by decide +kernel
theorem dL_isSound_210 : decode cL_isSound 210 = .ok (.istore 12, 2) := by decide +kernel
theorem dL_isSound_212 : decode cL_isSound 212 = .ok (.iconst 0, 1) := by decide +kernel
theorem dL_isSound_213 : decode cL_isSound 213 = .ok (.istore 13, 2) := by decide +kernel
theorem dL_isSound_215 : decode cL_isSound 215 = .ok (.iload 13, 2) := by decide +kernel
theorem dL_isSound_217 : decode cL_isSound 217 = .ok (.aload_n 0, 1) := by decide +kernel
theorem dL_isSound_218 : decode cL_isSound 218 = .ok (.iconst 3, 1) := by decide +kernel
theorem dL_isSound_219 : decode cL_isSound 219 = .ok (.invokevirtual 12, 3) := by decide +kernel
theorem dL_isSound_222 : decode cL_isSound 222 = .ok (.if_icmp .ge 43, 3) := by decide +kernel
theorem dL_isSound_225 : decode cL_isSound 225 = .ok (.iload 12, 2) := by decide +kernel
theorem dL_isSound_227 : decode cL_isSound 227 = .ok (.aload_n 0, 1) := by decide +kernel
theorem dL_isSound_228 : decode cL_isSound 228 = .ok (.iload 13, 2) := by decide +kernel
theorem dL_isSound_230 : decode cL_isSound 230 = .ok (.iconst 0, 1) := by decide +kernel
theorem dL_isSound_231 : decode cL_isSound 231 = .ok (.invokevirtual 25, 3) := by decide +kernel
theorem dL_isSound_234 : decode cL_isSound 234 = .ok (.iload 10, 2) := by decide +kernel
theorem dL_isSound_236 : decode cL_isSound 236 = .ok (.if_icmp .ne 19, 3) := by decide +kernel
theorem dL_isSound_239 : decode cL_isSound 239 = .ok (.aload_n 0, 1) := by decide +kernel
theorem dL_isSound_240 : decode cL_isSound 240 = .ok (.iload 13, 2) := by decide +kernel
theorem dL_isSound_242 : decode cL_isSound 242 = .ok (.iconst 5, 1) := by decide +kernel
theorem dL_isSound_243 : decode cL_isSound 243 = .ok (.invokevirtual 25, 3) := by decide +kernel
theorem dL_isSound_246 : decode cL_isSound 246 = .ok (.iload 11, 2) := by decide +kernel
theorem dL_isSound_248 : decode cL_isSound 248 = .ok (.if_icmp .ne 7, 3) := by decide +kernel
theorem dL_isSound_251 : decode cL_isSound 251 = .ok (.iconst 1, 1) := by decide +kernel
theorem dL_isSound_252 : decode cL_isSound 252 = .ok (.goto 4, 3) := by decide +kernel
theorem dL_isSound_255 : decode cL_isSound 255 = .ok (.iconst 0, 1) := by decide +kernel
theorem dL_isSound_256 : decode cL_isSound 256 = .ok (.iadd, 1) := by decide +kernel
theorem dL_isSound_257 : decode cL_isSound 257 = .ok (.istore 12, 2) := by decide +kernel
theorem dL_isSound_259 : decode cL_isSound 259 = .ok (.iinc 13 1, 3) := by decide +kernel
theorem dL_isSound_262 : decode cL_isSound 262 = .ok (.goto (-47), 3) := by decide +kernel
theorem dL_isSound_265 : decode cL_isSound 265 = .ok (.aload_n 0, 1) := by decide +kernel
theorem dL_isSound_266 : decode cL_isSound 266 = .ok (.iload 10, 2) := by decide +kernel
theorem dL_isSound_268 : decode cL_isSound 268 = .ok (.iconst 1, 1) := by decide +kernel
theorem dL_isSound_269 : decode cL_isSound 269 = .ok (.iload 11, 2) := by decide +kernel
theorem dL_isSound_271 : decode cL_isSound 271 = .ok (.iadd, 1) := by decide +kernel
theorem dL_isSound_272 : decode cL_isSound 272 = .ok (.invokevirtual 22, 3) := by decide +kernel
theorem dL_isSound_275 : decode cL_isSound 275 = .ok (.iload 12, 2) := by decide +kernel
theorem dL_isSound_277 : decode cL_isSound 277 = .ok (.if_icmp .eq 5, 3) := by decide +kernel
theorem dL_isSound_280 : decode cL_isSound 280 = .ok (.iconst 0, 1) := by decide +kernel
theorem dL_isSound_281 : decode cL_isSound 281 = .ok (.ireturn, 1) := by decide +kernel
theorem dL_isSound_282 : decode cL_isSound 282 = .ok (.iinc 11 1, 3) := by decide +kernel
theorem dL_isSound_285 : decode cL_isSound 285 = .ok (.goto (-82), 3) := by decide +kernel
theorem dL_isSound_288 : decode cL_isSound 288 = .ok (.iinc 10 1, 3) := by decide +kernel
theorem dL_isSound_291 : decode cL_isSound 291 = .ok (.goto (-138), 3) := by decide +kernel
theorem dL_isSound_294 : decode cL_isSound 294 = .ok (.iconst 0, 1) := by decide +kernel
theorem dL_isSound_295 : decode cL_isSound 295 = .ok (.istore 10, 2) := by decide +kernel
theorem dL_isSound_297 : decode cL_isSound 297 = .ok (.iload 10, 2) := by decide +kernel
theorem dL_isSound_299 : decode cL_isSound 299 = .ok (.aload_n 0, 1) := by decide +kernel
theorem dL_isSound_300 : decode cL_isSound 300 = .ok (.iconst 3, 1) := by decide +kernel
theorem dL_isSound_301 : decode cL_isSound 301 = .ok (.invokevirtual 12, 3) := by decide +kernel
theorem dL_isSound_304 : decode cL_isSound 304 = .ok (.if_icmp .ge 119, 3) := by decide +kernel
theorem dL_isSound_307 : decode cL_isSound 307 = .ok (.aload_n 0, 1) := by decide +kernel
theorem dL_isSound_308 : decode cL_isSound 308 = .ok (.iload 10, 2) := by decide +kernel
theorem dL_isSound_310 : decode cL_isSound 310 = .ok (.iconst 5, 1) := by decide +kernel
theorem dL_isSound_311 : decode cL_isSound 311 = .ok (.invokevirtual 25, 3) := by decide +kernel
theorem dL_isSound_314 : decode cL_isSound 314 = .ok (.ifCond .ne 7, 3) := by decide +kernel
theorem dL_isSound_317 : decode cL_isSound 317 = .ok (.iconst 1, 1) := by decide +kernel
theorem dL_isSound_318 : decode cL_isSound 318 = .ok (.goto 4, 3) := by decide +kernel
theorem dL_isSound_321 : decode cL_isSound 321 = .ok (.iconst 0, 1) := by decide +kernel
theorem dL_isSound_322 : decode cL_isSound 322 = .ok (.istore 11, 2) := by decide +kernel
theorem dL_isSound_324 : decode cL_isSound 324 = .ok (.iload 9, 2) := by decide +kernel
theorem dL_isSound_326 : decode cL_isSound 326 = .ok (.aload_n 0, 1) := by decide +kernel
theorem dL_isSound_327 : decode cL_isSound 327 = .ok (.iload 10, 2) := by decide +kernel
theorem dL_isSound_329 : decode cL_isSound 329 = .ok (.bipush 7, 2) := by decide +kernel
theorem dL_isSound_331 : decode cL_isSound 331 = .ok (.invokevirtual 25, 3) := by decide +kernel
theorem dL_isSound_334 : decode cL_isSound 334 = .ok (.iadd, 1) := by decide +kernel
theorem dL_isSound_335 : decode cL_isSound 335 = .ok (.istore 9, 2) := by decide +kernel
theorem dL_isSound_337 : decode cL_isSound 337 = .ok (.iload 11, 2) := by decide +kernel
theorem dL_isSound_339 : decode cL_isSound 339 = .ok (.ifCond .eq 14, 3) := by decide +kernel
theorem dL_isSound_342 : decode cL_isSound 342 = .ok (.aload_n 0, 1) := by decide +kernel
theorem dL_isSound_343 : decode cL_isSound 343 = .ok (.iload 10, 2) := by decide +kernel
theorem dL_isSound_345 : decode cL_isSound 345 = .ok (.iconst 2, 1) := by decide +kernel
theorem dL_isSound_346 : decode cL_isSound 346 = .ok (.invokevirtual 25, 3) := by decide +kernel
theorem dL_isSound_349 : decode cL_isSound 349 = .ok (.iload_n 2, 1) := by decide +kernel
theorem dL_isSound_350 : decode cL_isSound 350 = .ok (.if_icmp .lt 65, 3) := by decide +kernel
theorem dL_isSound_353 : decode cL_isSound 353 = .ok (.iload 11, 2) := by decide +kernel
theorem dL_isSound_355 : decode cL_isSound 355 = .ok (.aload_n 0, 1) := by decide +kernel
theorem dL_isSound_356 : decode cL_isSound 356 = .ok (.aload_n 0, 1) := by decide +kernel
theorem dL_isSound_357 : decode cL_isSound 357 = .ok (.iload 10, 2) := by decide +kernel
theorem dL_isSound_359 : decode cL_isSound 359 = .ok (.iconst 1, 1) := by decide +kernel
theorem dL_isSound_360 : decode cL_isSound 360 = .ok (.invokevirtual 25, 3) := by decide +kernel
theorem dL_isSound_363 : decode cL_isSound 363 = .ok (.aload_n 0, 1) := by decide +kernel
theorem dL_isSound_364 : decode cL_isSound 364 = .ok (.iload 10, 2) := by decide +kernel
theorem dL_isSound_366 : decode cL_isSound 366 = .ok (.iconst 2, 1) := by decide +kernel
theorem dL_isSound_367 : decode cL_isSound 367 = .ok (.invokevirtual 25, 3) := by decide +kernel
theorem dL_isSound_370 : decode cL_isSound 370 = .ok (.invokevirtual 37, 3) := by decide +kernel
theorem dL_isSound_373 : decode cL_isSound 373 = .ok (.iload 10, 2) := by decide +kernel
theorem dL_isSound_375 : decode cL_isSound 375 = .ok (.if_icmp .ne 7, 3) := by decide +kernel
theorem dL_isSound_378 : decode cL_isSound 378 = .ok (.iconst 1, 1) := by decide +kernel
theorem dL_isSound_379 : decode cL_isSound 379 = .ok (.goto 4, 3) := by decide +kernel
theorem dL_isSound_382 : decode cL_isSound 382 = .ok (.iconst 0, 1) := by decide +kernel
theorem dL_isSound_383 : decode cL_isSound 383 = .ok (.if_icmp .ne 32, 3) := by decide +kernel
theorem dL_isSound_386 : decode cL_isSound 386 = .ok (.aload_n 0, 1) := by decide +kernel
theorem dL_isSound_387 : decode cL_isSound 387 = .ok (.iload 10, 2) := by decide +kernel
theorem dL_isSound_389 : decode cL_isSound 389 = .ok (.bipush 8, 2) := by decide +kernel
theorem dL_isSound_391 : decode cL_isSound 391 = .ok (.invokevirtual 25, 3) := by decide +kernel
theorem dL_isSound_394 : decode cL_isSound 394 = .ok (.aload_n 0, 1) := by decide +kernel
theorem dL_isSound_395 : decode cL_isSound 395 = .ok (.aload_n 0, 1) := by decide +kernel
theorem dL_isSound_396 : decode cL_isSound 396 = .ok (.iload 10, 2) := by decide +kernel
theorem dL_isSound_398 : decode cL_isSound 398 = .ok (.iconst 3, 1) := by decide +kernel
theorem dL_isSound_399 : decode cL_isSound 399 = .ok (.invokevirtual 25, 3) := by decide +kernel
theorem dL_isSound_402 : decode cL_isSound 402 = .ok (.aload_n 0, 1) := by decide +kernel
theorem dL_isSound_403 : decode cL_isSound 403 = .ok (.iload 10, 2) := by decide +kernel
theorem dL_isSound_405 : decode cL_isSound 405 = .ok (.iconst 4, 1) := by decide +kernel
theorem dL_isSound_406 : decode cL_isSound 406 = .ok (.invokevirtual 25, 3) := by decide +kernel
theorem dL_isSound_409 : decode cL_isSound 409 = .ok (.invokevirtual 40, 3) := by decide +kernel
theorem dL_isSound_412 : decode cL_isSound 412 = .ok (.if_icmp .eq 5, 3) := by decide +kernel
theorem dL_isSound_415 : decode cL_isSound 415 = .ok (.iconst 0, 1) := by decide +kernel
theorem dL_isSound_416 : decode cL_isSound 416 = .ok (.ireturn, 1) := by decide +kernel
theorem dL_isSound_417 : decode cL_isSound 417 = .ok (.iinc 10 1, 3) := by decide +kernel
theorem dL_isSound_420 : decode cL_isSound 420 = .ok (.goto (-123), 3) := by decide +kernel
theorem dL_isSound_423 : decode cL_isSound 423 = .ok (.iconst 0, 1) := by decide +kernel
theorem dL_isSound_424 : decode cL_isSound 424 = .ok (.istore 10, 2) := by decide +kernel
theorem dL_isSound_426 : decode cL_isSound 426 = .ok (.iload 10, 2) := by decide +kernel
theorem dL_isSound_428 : decode cL_isSound 428 = .ok (.aload_n 0, 1) := by decide +kernel
theorem dL_isSound_429 : decode cL_isSound 429 = .ok (.bipush 8, 2) := by decide +kernel
theorem dL_isSound_431 : decode cL_isSound 431 = .ok (.invokevirtual 12, 3) := by decide +kernel
theorem dL_isSound_434 : decode cL_isSound 434 = .ok (.if_icmp .ge 39, 3) := by decide +kernel
theorem dL_isSound_437 : decode cL_isSound 437 = .ok (.aload_n 0, 1) := by decide +kernel
theorem dL_isSound_438 : decode cL_isSound 438 = .ok (.iload 10, 2) := by decide +kernel
theorem dL_isSound_440 : decode cL_isSound 440 = .ok (.iconst 4, 1) := by decide +kernel
theorem dL_isSound_441 : decode cL_isSound 441 = .ok (.invokevirtual 28, 3) := by decide +kernel
theorem dL_isSound_444 : decode cL_isSound 444 = .ok (.iload_n 2, 1) := by decide +kernel
theorem dL_isSound_445 : decode cL_isSound 445 = .ok (.if_icmp .lt 20, 3) := by decide +kernel
theorem dL_isSound_448 : decode cL_isSound 448 = .ok (.aload_n 0, 1) := by decide +kernel
theorem dL_isSound_449 : decode cL_isSound 449 = .ok (.iload 10, 2) := by decide +kernel
theorem dL_isSound_451 : decode cL_isSound 451 = .ok (.iconst 1, 1) := by decide +kernel
theorem dL_isSound_452 : decode cL_isSound 452 = .ok (.invokevirtual 28, 3) := by decide +kernel
theorem dL_isSound_455 : decode cL_isSound 455 = .ok (.aload_n 0, 1) := by decide +kernel
theorem dL_isSound_456 : decode cL_isSound 456 = .ok (.iload 10, 2) := by decide +kernel
theorem dL_isSound_458 : decode cL_isSound 458 = .ok (.iconst 2, 1) := by decide +kernel
theorem dL_isSound_459 : decode cL_isSound 459 = .ok (.invokevirtual 28, 3) := by decide +kernel
theorem dL_isSound_462 : decode cL_isSound 462 = .ok (.if_icmp .ne 5, 3) := by decide +kernel
theorem dL_isSound_465 : decode cL_isSound 465 = .ok (.iconst 0, 1) := by decide +kernel
theorem dL_isSound_466 : decode cL_isSound 466 = .ok (.ireturn, 1) := by decide +kernel
theorem dL_isSound_467 : decode cL_isSound 467 = .ok (.iinc 10 1, 3) := by decide +kernel
theorem dL_isSound_470 : decode cL_isSound 470 = .ok (.goto (-44), 3) := by decide +kernel
theorem dL_isSound_473 : decode cL_isSound 473 = .ok (.iload 5, 2) := by decide +kernel
theorem dL_isSound_475 : decode cL_isSound 475 = .ok (.ifCond .ne 152, 3) := by decide +kernel
theorem dL_isSound_478 : decode cL_isSound 478 = .ok (.iload_n 3, 1) := by decide +kernel
theorem dL_isSound_479 : decode cL_isSound 479 = .ok (.aload_n 0, 1) := by decide +kernel
theorem dL_isSound_480 : decode cL_isSound 480 = .ok (.iconst 4, 1) := by decide +kernel
theorem dL_isSound_481 : decode cL_isSound 481 = .ok (.invokevirtual 12, 3) := by decide +kernel
theorem dL_isSound_484 : decode cL_isSound 484 = .ok (.if_icmp .ne 143, 3) := by decide +kernel
theorem dL_isSound_487 : decode cL_isSound 487 = .ok (.iload 4, 2) := by decide +kernel
theorem dL_isSound_489 : decode cL_isSound 489 = .ok (.aload_n 0, 1) := by decide +kernel
theorem dL_isSound_490 : decode cL_isSound 490 = .ok (.iconst 5, 1) := by decide +kernel
theorem dL_isSound_491 : decode cL_isSound 491 = .ok (.invokevirtual 12, 3) := by decide +kernel
theorem dL_isSound_494 : decode cL_isSound 494 = .ok (.if_icmp .ne 133, 3) := by decide +kernel
theorem dL_isSound_497 : decode cL_isSound 497 = .ok (.iload 6, 2) := by decide +kernel
theorem dL_isSound_499 : decode cL_isSound 499 = .ok (.aload_n 0, 1) := by decide +kernel
theorem dL_isSound_500 : decode cL_isSound 500 = .ok (.bipush 11, 2) := by decide +kernel
theorem dL_isSound_502 : decode cL_isSound 502 = .ok (.invokevirtual 12, 3) := by decide +kernel
theorem dL_isSound_505 : decode cL_isSound 505 = .ok (.if_icmp .ne 122, 3) := by decide +kernel
theorem dL_isSound_508 : decode cL_isSound 508 = .ok (.iload 7, 2) := by decide +kernel
theorem dL_isSound_510 : decode cL_isSound 510 = .ok (.aload_n 0, 1) := by decide +kernel
theorem dL_isSound_511 : decode cL_isSound 511 = .ok (.bipush 12, 2) := by decide +kernel
theorem dL_isSound_513 : decode cL_isSound 513 = .ok (.invokevirtual 12, 3) := by decide +kernel
theorem dL_isSound_516 : decode cL_isSound 516 = .ok (.if_icmp .ne 111, 3) := by decide +kernel
theorem dL_isSound_519 : decode cL_isSound 519 = .ok (.iload 8, 2) := by decide +kernel
theorem dL_isSound_521 : decode cL_isSound 521 = .ok (.aload_n 0, 1) := by decide +kernel
theorem dL_isSound_522 : decode cL_isSound 522 = .ok (.bipush 8, 2) := by decide +kernel
theorem dL_isSound_524 : decode cL_isSound 524 = .ok (.invokevirtual 12, 3) := by decide +kernel
theorem dL_isSound_527 : decode cL_isSound 527 = .ok (.if_icmp .ne 100, 3) := by decide +kernel
theorem dL_isSound_530 : decode cL_isSound 530 = .ok (.iload 9, 2) := by decide +kernel
theorem dL_isSound_532 : decode cL_isSound 532 = .ok (.aload_n 0, 1) := by decide +kernel
theorem dL_isSound_533 : decode cL_isSound 533 = .ok (.bipush 12, 2) := by decide +kernel
theorem dL_isSound_535 : decode cL_isSound 535 = .ok (.invokevirtual 12, 3) := by decide +kernel
theorem dL_isSound_538 : decode cL_isSound 538 = .ok (.aload_n 0, 1) := by decide +kernel
theorem dL_isSound_539 : decode cL_isSound 539 = .ok (.bipush 13, 2) := by decide +kernel
theorem dL_isSound_541 : decode cL_isSound 541 = .ok (.invokevirtual 12, 3) := by decide +kernel
theorem dL_isSound_544 : decode cL_isSound 544 = .ok (.iadd, 1) := by decide +kernel
theorem dL_isSound_545 : decode cL_isSound 545 = .ok (.if_icmp .ne 82, 3) := by decide +kernel
theorem dL_isSound_548 : decode cL_isSound 548 = .ok (.aload_n 0, 1) := by decide +kernel
theorem dL_isSound_549 : decode cL_isSound 549 = .ok (.bipush 14, 2) := by decide +kernel
theorem dL_isSound_551 : decode cL_isSound 551 = .ok (.invokevirtual 12, 3) := by decide +kernel
theorem dL_isSound_554 : decode cL_isSound 554 = .ok (.iload_n 1, 1) := by decide +kernel
theorem dL_isSound_555 : decode cL_isSound 555 = .ok (.if_icmp .ne 72, 3) := by decide +kernel
theorem dL_isSound_558 : decode cL_isSound 558 = .ok (.aload_n 0, 1) := by decide +kernel
theorem dL_isSound_559 : decode cL_isSound 559 = .ok (.iconst 4, 1) := by decide +kernel
theorem dL_isSound_560 : decode cL_isSound 560 = .ok (.invokevirtual 12, 3) := by decide +kernel
theorem dL_isSound_563 : decode cL_isSound 563 = .ok (.aload_n 0, 1) := by decide +kernel
theorem dL_isSound_564 : decode cL_isSound 564 = .ok (.iconst 5, 1) := by decide +kernel
theorem dL_isSound_565 : decode cL_isSound 565 = .ok (.invokevirtual 12, 3) := by decide +kernel
theorem dL_isSound_568 : decode cL_isSound 568 = .ok (.iadd, 1) := by decide +kernel
theorem dL_isSound_569 : decode cL_isSound 569 = .ok (.aload_n 0, 1) := by decide +kernel
theorem dL_isSound_570 : decode cL_isSound 570 = .ok (.bipush 6, 2) := by decide +kernel
theorem dL_isSound_572 : decode cL_isSound 572 = .ok (.invokevirtual 12, 3) := by decide +kernel
theorem dL_isSound_575 : decode cL_isSound 575 = .ok (.iadd, 1) := by decide +kernel
theorem dL_isSound_576 : decode cL_isSound 576 = .ok (.aload_n 0, 1) := by decide +kernel
theorem dL_isSound_577 : decode cL_isSound 577 = .ok (.bipush 7, 2) := by decide +kernel
theorem dL_isSound_579 : decode cL_isSound 579 = .ok (.invokevirtual 12, 3) := by decide +kernel
theorem dL_isSound_582 : decode cL_isSound 582 = .ok (.iadd, 1) := by decide +kernel
theorem dL_isSound_583 : decode cL_isSound 583 = .ok (.aload_n 0, 1) := by decide +kernel
theorem dL_isSound_584 : decode cL_isSound 584 = .ok (.iconst 3, 1) := by decide +kernel
theorem dL_isSound_585 : decode cL_isSound 585 = .ok (.invokevirtual 12, 3) := by decide +kernel
theorem dL_isSound_588 : decode cL_isSound 588 = .ok (.if_icmp .ne 39, 3) := by decide +kernel
theorem dL_isSound_591 : decode cL_isSound 591 = .ok (.iload 6, 2) := by decide +kernel
theorem dL_isSound_593 : decode cL_isSound 593 = .ok (.bipush 30, 2) := by decide +kernel
theorem dL_isSound_595 : decode cL_isSound 595 = .ok (.iload 4, 2) := by decide +kernel
theorem dL_isSound_597 : decode cL_isSound 597 = .ok (.imul, 1) := by decide +kernel
theorem dL_isSound_598 : decode cL_isSound 598 = .ok (.bipush 8, 2) := by decide +kernel
theorem dL_isSound_600 : decode cL_isSound 600 = .ok (.iload 7, 2) := by decide +kernel
theorem dL_isSound_602 : decode cL_isSound 602 = .ok (.imul, 1) := by decide +kernel
theorem dL_isSound_603 : decode cL_isSound 603 = .ok (.iadd, 1) := by decide +kernel
theorem dL_isSound_604 : decode cL_isSound 604 = .ok (.iconst 5, 1) := by decide +kernel
theorem dL_isSound_605 : decode cL_isSound 605 = .ok (.aload_n 0, 1) := by decide +kernel
theorem dL_isSound_606 : decode cL_isSound 606 = .ok (.bipush 9, 2) := by decide +kernel
theorem dL_isSound_608 : decode cL_isSound 608 = .ok (.invokevirtual 12, 3) := by decide +kernel
theorem dL_isSound_611 : decode cL_isSound 611 = .ok (.aload_n 0, 1) := by decide +kernel
theorem dL_isSound_612 : decode cL_isSound 612 = .ok (.bipush 10, 2) := by decide +kernel
theorem dL_isSound_614 : decode cL_isSound 614 = .ok (.invokevirtual 12, 3) := by decide +kernel
theorem dL_isSound_617 : decode cL_isSound 617 = .ok (.iadd, 1) := by decide +kernel
theorem dL_isSound_618 : decode cL_isSound 618 = .ok (.imul, 1) := by decide +kernel
theorem dL_isSound_619 : decode cL_isSound 619 = .ok (.iadd, 1) := by decide +kernel
theorem dL_isSound_620 : decode cL_isSound 620 = .ok (.if_icmp .lt 7, 3) := by decide +kernel
theorem dL_isSound_623 : decode cL_isSound 623 = .ok (.iconst 1, 1) := by decide +kernel
theorem dL_isSound_624 : decode cL_isSound 624 = .ok (.goto 4, 3) := by decide +kernel
theorem dL_isSound_627 : decode cL_isSound 627 = .ok (.iconst 0, 1) := by decide +kernel
theorem dL_isSound_628 : decode cL_isSound 628 = .ok (.ireturn, 1) := by decide +kernel
theorem dL_isForetold_0 : decode cL_isForetold 0 = .ok (.aload_n 0, 1) := by decide +kernel
theorem dL_isForetold_1 : decode cL_isForetold 1 = .ok (.invokestatic 43, 3) := by decide +kernel
theorem dL_isForetold_4 : decode cL_isForetold 4 = .ok (.lstore_n 2, 1) := by decide +kernel
theorem dL_isForetold_5 : decode cL_isForetold 5 = .ok (.aload_n 0, 1) := by decide +kernel
theorem dL_isForetold_6 : decode cL_isForetold 6 = .ok (.iconst 0, 1) := by decide +kernel
theorem dL_isForetold_7 : decode cL_isForetold 7 = .ok (.invokevirtual 12, 3) := by decide +kernel
theorem dL_isForetold_10 : decode cL_isForetold 10 = .ok (.istore 4, 2) := by decide +kernel
theorem dL_isForetold_12 : decode cL_isForetold 12 = .ok (.aload_n 0, 1) := by decide +kernel
theorem dL_isForetold_13 : decode cL_isForetold 13 = .ok (.iconst 3, 1) := by decide +kernel
theorem dL_isForetold_14 : decode cL_isForetold 14 = .ok (.invokevirtual 12, 3) := by decide +kernel
theorem dL_isForetold_17 : decode cL_isForetold 17 = .ok (.ifCond .le 193, 3) := by decide +kernel
theorem dL_isForetold_20 : decode cL_isForetold 20 = .ok (.iload_n 1, 1) := by decide +kernel
theorem dL_isForetold_21 : decode cL_isForetold 21 = .ok (.aload_n 0, 1) := by decide +kernel
theorem dL_isForetold_22 : decode cL_isForetold 22 = .ok (.iconst 3, 1) := by decide +kernel
theorem dL_isForetold_23 : decode cL_isForetold 23 = .ok (.invokevirtual 12, 3) := by decide +kernel
theorem dL_isForetold_26 : decode cL_isForetold 26 = .ok (.invokestatic 49, 3) := by decide +kernel
theorem dL_isForetold_29 : decode cL_isForetold 29 = .ok (.istore 5, 2) := by decide +kernel
theorem dL_isForetold_31 : decode cL_isForetold 31 = .ok (.aload_n 0, 1) := by decide +kernel
theorem dL_isForetold_32 : decode cL_isForetold 32 = .ok (.iload 5, 2) := by decide +kernel
theorem dL_isForetold_34 : decode cL_isForetold 34 = .ok (.invokevirtual 52, 3) := by decide +kernel
theorem dL_isForetold_37 : decode cL_isForetold 37 = .ok (.istore 6, 2) := by decide +kernel
theorem dL_isForetold_39 : decode cL_isForetold 39 = .ok (.aload_n 0, 1) := by decide +kernel
theorem dL_isForetold_40 : decode cL_isForetold 40 = .ok (.iload 5, 2) := by decide +kernel
theorem dL_isForetold_42 : decode cL_isForetold 42 = .ok (.iconst 2, 1) := by decide +kernel
theorem dL_isForetold_43 : decode cL_isForetold 43 = .ok (.invokevirtual 25, 3) := by decide +kernel
theorem dL_isForetold_46 : decode cL_isForetold 46 = .ok (.istore 7, 2) := by decide +kernel
theorem dL_isForetold_48 : decode cL_isForetold 48 = .ok (.aload_n 0, 1) := by decide +kernel
theorem dL_isForetold_49 : decode cL_isForetold 49 = .ok (.invokestatic 43, 3) := by decide +kernel
theorem dL_isForetold_52 : decode cL_isForetold 52 = .ok (.lload_n 2, 1) := by decide +kernel
theorem dL_isForetold_53 : decode cL_isForetold 53 = .ok (.lcmp, 1) := by decide +kernel
theorem dL_isForetold_54 : decode cL_isForetold 54 = .ok (.ifCond .ne 33, 3) := by decide +kernel
theorem dL_isForetold_57 : decode cL_isForetold 57 = .ok (.iload 6, 2) := by decide +kernel
theorem dL_isForetold_59 : decode cL_isForetold 59 = .ok (.bipush (-4), 2) := by decide +kernel
theorem dL_isForetold_61 : decode cL_isForetold 61 = .ok (.if_icmp .ne 7, 3) := by decide +kernel
theorem dL_isForetold_64 : decode cL_isForetold 64 = .ok (.iconst 1, 1) := by decide +kernel
theorem dL_isForetold_65 : decode cL_isForetold 65 = .ok (.goto 4, 3) := by decide +kernel
theorem dL_isForetold_68 : decode cL_isForetold 68 = .ok (.iconst 0, 1) := by decide +kernel
theorem dL_isForetold_69 : decode cL_isForetold 69 = .ok (.aload_n 0, 1) := by decide +kernel
theorem dL_isForetold_70 : decode cL_isForetold 70 = .ok (.iload 5, 2) := by decide +kernel
theorem dL_isForetold_72 : decode cL_isForetold 72 = .ok (.iconst 5, 1) := by decide +kernel
theorem dL_isForetold_73 : decode cL_isForetold 73 = .ok (.invokevirtual 25, 3) := by decide +kernel
theorem dL_isForetold_76 : decode cL_isForetold 76 = .ok (.ifCond .eq 7, 3) := by decide +kernel
theorem dL_isForetold_79 : decode cL_isForetold 79 = .ok (.iconst 1, 1) := by decide +kernel
theorem dL_isForetold_80 : decode cL_isForetold 80 = .ok (.goto 4, 3) := by decide +kernel
theorem dL_isForetold_83 : decode cL_isForetold 83 = .ok (.iconst 0, 1) := by decide +kernel
theorem dL_isForetold_84 : decode cL_isForetold 84 = .ok (.if_icmp .eq 5, 3) := by decide +kernel
theorem dL_isForetold_87 : decode cL_isForetold 87 = .ok (.iconst 0, 1) := by decide +kernel
theorem dL_isForetold_88 : decode cL_isForetold 88 = .ok (.ireturn, 1) := by decide +kernel
theorem dL_isForetold_89 : decode cL_isForetold 89 = .ok (.iload 6, 2) := by decide +kernel
theorem dL_isForetold_91 : decode cL_isForetold 91 = .ok (.ifCond .lt 119, 3) := by decide +kernel
theorem dL_isForetold_94 : decode cL_isForetold 94 = .ok (.iload 7, 2) := by decide +kernel
theorem dL_isForetold_96 : decode cL_isForetold 96 = .ok (.iload 4, 2) := by decide +kernel
theorem dL_isForetold_98 : decode cL_isForetold 98 = .ok (.isub, 1) := by decide +kernel
theorem dL_isForetold_99 : decode cL_isForetold 99 = .ok (.bipush 20, 2) := by decide +kernel
theorem dL_isForetold_101 : decode cL_isForetold 101 = .ok (.if_icmp .ge 109, 3) := by decide +kernel
theorem dL_isForetold_104 : decode cL_isForetold 104 = .ok (.iload 7, 2) := by decide +kernel
theorem dL_isForetold_106 : decode cL_isForetold 106 = .ok (.sipush 199, 3) := by decide +kernel
theorem dL_isForetold_109 : decode cL_isForetold 109 = .ok (.if_icmp .ge 101, 3) := by decide +kernel
theorem dL_isForetold_112 : decode cL_isForetold 112 = .ok (.aload_n 0, 1) := by decide +kernel
theorem dL_isForetold_113 : decode cL_isForetold 113 = .ok (.iload 5, 2) := by decide +kernel
theorem dL_isForetold_115 : decode cL_isForetold 115 = .ok (.bipush 7, 2) := by decide +kernel
theorem dL_isForetold_117 : decode cL_isForetold 117 = .ok (.invokevirtual 25, 3) := by decide +kernel
theorem dL_isForetold_120 : decode cL_isForetold 120 = .ok (.istore 8, 2) := by decide +kernel
theorem dL_isForetold_122 : decode cL_isForetold 122 = .ok (.aload_n 0, 1) := by decide +kernel
theorem dL_isForetold_123 : decode cL_isForetold 123 = .ok (.iload 7, 2) := by decide +kernel
theorem dL_isForetold_125 : decode cL_isForetold 125 = .ok (.iload 4, 2) := by decide +kernel
theorem dL_isForetold_127 : decode cL_isForetold 127 = .ok (.isub, 1) := by decide +kernel
theorem dL_isForetold_128 : decode cL_isForetold 128 = .ok (.iconst 1, 1) := by decide +kernel
theorem dL_isForetold_129 : decode cL_isForetold 129 = .ok (.iadd, 1) := by decide +kernel
theorem dL_isForetold_130 : decode cL_isForetold 130 = .ok (.invokevirtual 55, 3) := by decide +kernel
theorem dL_isForetold_133 : decode cL_isForetold 133 = .ok (.ifCond .lt 75, 3) := by decide +kernel
theorem dL_isForetold_136 : decode cL_isForetold 136 = .ok (.aload_n 0, 1) := by decide +kernel
theorem dL_isForetold_137 : decode cL_isForetold 137 = .ok (.iload 5, 2) := by decide +kernel
theorem dL_isForetold_139 : decode cL_isForetold 139 = .ok (.iconst 5, 1) := by decide +kernel
theorem dL_isForetold_140 : decode cL_isForetold 140 = .ok (.invokevirtual 25, 3) := by decide +kernel
theorem dL_isForetold_143 : decode cL_isForetold 143 = .ok (.iconst 1, 1) := by decide +kernel
theorem dL_isForetold_144 : decode cL_isForetold 144 = .ok (.if_icmp .ne 7, 3) := by decide +kernel
theorem dL_isForetold_147 : decode cL_isForetold 147 = .ok (.iconst 1, 1) := by decide +kernel
theorem dL_isForetold_148 : decode cL_isForetold 148 = .ok (.goto 4, 3) := by decide +kernel
theorem dL_isForetold_151 : decode cL_isForetold 151 = .ok (.iconst 0, 1) := by decide +kernel
theorem dL_isForetold_152 : decode cL_isForetold 152 = .ok (.iload 6, 2) := by decide +kernel
theorem dL_isForetold_154 : decode cL_isForetold 154 = .ok (.ifCond .ne 7, 3) := by decide +kernel
theorem dL_isForetold_157 : decode cL_isForetold 157 = .ok (.iconst 1, 1) := by decide +kernel
theorem dL_isForetold_158 : decode cL_isForetold 158 = .ok (.goto 4, 3) := by decide +kernel
theorem dL_isForetold_161 : decode cL_isForetold 161 = .ok (.iconst 0, 1) := by decide +kernel
theorem dL_isForetold_162 : decode cL_isForetold 162 = .ok (.if_icmp .ne 46, 3) := by decide +kernel
theorem dL_isForetold_165 : decode cL_isForetold 165 = .ok (.aload_n 0, 1) := by decide +kernel
theorem dL_isForetold_166 : decode cL_isForetold 166 = .ok (.iload 5, 2) := by decide +kernel
theorem dL_isForetold_168 : decode cL_isForetold 168 = .ok (.bipush 7, 2) := by decide +kernel
theorem dL_isForetold_170 : decode cL_isForetold 170 = .ok (.invokevirtual 25, 3) := by decide +kernel
theorem dL_isForetold_173 : decode cL_isForetold 173 = .ok (.iload 8, 2) := by decide +kernel
theorem dL_isForetold_175 : decode cL_isForetold 175 = .ok (.iload 6, 2) := by decide +kernel
theorem dL_isForetold_177 : decode cL_isForetold 177 = .ok (.ifCond .ne 7, 3) := by decide +kernel
theorem dL_isForetold_180 : decode cL_isForetold 180 = .ok (.iconst 0, 1) := by decide +kernel
theorem dL_isForetold_181 : decode cL_isForetold 181 = .ok (.goto 4, 3) := by decide +kernel
theorem dL_isForetold_184 : decode cL_isForetold 184 = .ok (.iconst 1, 1) := by decide +kernel
theorem dL_isForetold_185 : decode cL_isForetold 185 = .ok (.iadd, 1) := by decide +kernel
theorem dL_isForetold_186 : decode cL_isForetold 186 = .ok (.if_icmp .ne 22, 3) := by decide +kernel
theorem dL_isForetold_189 : decode cL_isForetold 189 = .ok (.aload_n 0, 1) := by decide +kernel
theorem dL_isForetold_190 : decode cL_isForetold 190 = .ok (.iload 5, 2) := by decide +kernel
theorem dL_isForetold_192 : decode cL_isForetold 192 = .ok (.iconst 2, 1) := by decide +kernel
theorem dL_isForetold_193 : decode cL_isForetold 193 = .ok (.invokevirtual 25, 3) := by decide +kernel
theorem dL_isForetold_196 : decode cL_isForetold 196 = .ok (.iload 7, 2) := by decide +kernel
theorem dL_isForetold_198 : decode cL_isForetold 198 = .ok (.if_icmp .lt 10, 3) := by decide +kernel
theorem dL_isForetold_201 : decode cL_isForetold 201 = .ok (.aload_n 0, 1) := by decide +kernel
theorem dL_isForetold_202 : decode cL_isForetold 202 = .ok (.invokevirtual 58, 3) := by decide +kernel
theorem dL_isForetold_205 : decode cL_isForetold 205 = .ok (.ifCond .ge 5, 3) := by decide +kernel
theorem dL_isForetold_208 : decode cL_isForetold 208 = .ok (.iconst 0, 1) := by decide +kernel
theorem dL_isForetold_209 : decode cL_isForetold 209 = .ok (.ireturn, 1) := by decide +kernel
theorem dL_isForetold_210 : decode cL_isForetold 210 = .ok (.iload_n 1, 1) := by decide +kernel
theorem dL_isForetold_211 : decode cL_isForetold 211 = .ok (.iconst 5, 1) := by decide +kernel
theorem dL_isForetold_212 : decode cL_isForetold 212 = .ok (.ishr, 1) := by decide +kernel
theorem dL_isForetold_213 : decode cL_isForetold 213 = .ok (.aload_n 0, 1) := by decide +kernel
theorem dL_isForetold_214 : decode cL_isForetold 214 = .ok (.iconst 1, 1) := by decide +kernel
theorem dL_isForetold_215 : decode cL_isForetold 215 = .ok (.invokevirtual 12, 3) := by decide +kernel
theorem dL_isForetold_218 : decode cL_isForetold 218 = .ok (.invokestatic 49, 3) := by decide +kernel
theorem dL_isForetold_221 : decode cL_isForetold 221 = .ok (.istore 5, 2) := by decide +kernel
theorem dL_isForetold_223 : decode cL_isForetold 223 = .ok (.iconst 2, 1) := by decide +kernel
theorem dL_isForetold_224 : decode cL_isForetold 224 = .ok (.iload_n 1, 1) := by decide +kernel
theorem dL_isForetold_225 : decode cL_isForetold 225 = .ok (.bipush 8, 2) := by decide +kernel
theorem dL_isForetold_227 : decode cL_isForetold 227 = .ok (.ishr, 1) := by decide +kernel
theorem dL_isForetold_228 : decode cL_isForetold 228 = .ok (.bipush 59, 2) := by decide +kernel
theorem dL_isForetold_230 : decode cL_isForetold 230 = .ok (.invokestatic 49, 3) := by decide +kernel
theorem dL_isForetold_233 : decode cL_isForetold 233 = .ok (.iadd, 1) := by decide +kernel
theorem dL_isForetold_234 : decode cL_isForetold 234 = .ok (.istore 6, 2) := by decide +kernel
theorem dL_isForetold_236 : decode cL_isForetold 236 = .ok (.iload_n 1, 1) := by decide +kernel
theorem dL_isForetold_237 : decode cL_isForetold 237 = .ok (.bipush 14, 2) := by decide +kernel
theorem dL_isForetold_239 : decode cL_isForetold 239 = .ok (.ishr, 1) := by decide +kernel
theorem dL_isForetold_240 : decode cL_isForetold 240 = .ok (.bipush 15, 2) := by decide +kernel
theorem dL_isForetold_242 : decode cL_isForetold 242 = .ok (.invokestatic 49, 3) := by decide +kernel
theorem dL_isForetold_245 : decode cL_isForetold 245 = .ok (.istore 7, 2) := by decide +kernel
theorem dL_isForetold_247 : decode cL_isForetold 247 = .ok (.iload 4, 2) := by decide +kernel
theorem dL_isForetold_249 : decode cL_isForetold 249 = .ok (.iload 7, 2) := by decide +kernel
theorem dL_isForetold_251 : decode cL_isForetold 251 = .ok (.iadd, 1) := by decide +kernel
theorem dL_isForetold_252 : decode cL_isForetold 252 = .ok (.sipush 199, 3) := by decide +kernel
theorem dL_isForetold_255 : decode cL_isForetold 255 = .ok (.if_icmp .ge 51, 3) := by decide +kernel
theorem dL_isForetold_258 : decode cL_isForetold 258 = .ok (.aload_n 0, 1) := by decide +kernel
theorem dL_isForetold_259 : decode cL_isForetold 259 = .ok (.iload 5, 2) := by decide +kernel
theorem dL_isForetold_261 : decode cL_isForetold 261 = .ok (.iload 6, 2) := by decide +kernel
theorem dL_isForetold_263 : decode cL_isForetold 263 = .ok (.iload 4, 2) := by decide +kernel
theorem dL_isForetold_265 : decode cL_isForetold 265 = .ok (.iload 7, 2) := by decide +kernel
theorem dL_isForetold_267 : decode cL_isForetold 267 = .ok (.iadd, 1) := by decide +kernel
theorem dL_isForetold_268 : decode cL_isForetold 268 = .ok (.invokevirtual 62, 3) := by decide +kernel
theorem dL_isForetold_271 : decode cL_isForetold 271 = .ok (.istore 8, 2) := by decide +kernel
theorem dL_isForetold_273 : decode cL_isForetold 273 = .ok (.aload_n 0, 1) := by decide +kernel
theorem dL_isForetold_274 : decode cL_isForetold 274 = .ok (.iload 7, 2) := by decide +kernel
theorem dL_isForetold_276 : decode cL_isForetold 276 = .ok (.iconst 1, 1) := by decide +kernel
theorem dL_isForetold_277 : decode cL_isForetold 277 = .ok (.iadd, 1) := by decide +kernel
theorem dL_isForetold_278 : decode cL_isForetold 278 = .ok (.invokevirtual 55, 3) := by decide +kernel
theorem dL_isForetold_281 : decode cL_isForetold 281 = .ok (.ifCond .lt 23, 3) := by decide +kernel
theorem dL_isForetold_284 : decode cL_isForetold 284 = .ok (.aload_n 0, 1) := by decide +kernel
theorem dL_isForetold_285 : decode cL_isForetold 285 = .ok (.iload 5, 2) := by decide +kernel
theorem dL_isForetold_287 : decode cL_isForetold 287 = .ok (.iload 6, 2) := by decide +kernel
theorem dL_isForetold_289 : decode cL_isForetold 289 = .ok (.invokevirtual 34, 3) := by decide +kernel
theorem dL_isForetold_292 : decode cL_isForetold 292 = .ok (.iload 8, 2) := by decide +kernel
theorem dL_isForetold_294 : decode cL_isForetold 294 = .ok (.if_icmp .ne 10, 3) := by decide +kernel
theorem dL_isForetold_297 : decode cL_isForetold 297 = .ok (.aload_n 0, 1) := by decide +kernel
theorem dL_isForetold_298 : decode cL_isForetold 298 = .ok (.invokevirtual 58, 3) := by decide +kernel
theorem dL_isForetold_301 : decode cL_isForetold 301 = .ok (.ifCond .ge 5, 3) := by decide +kernel
theorem dL_isForetold_304 : decode cL_isForetold 304 = .ok (.iconst 0, 1) := by decide +kernel
theorem dL_isForetold_305 : decode cL_isForetold 305 = .ok (.ireturn, 1) := by decide +kernel
theorem dL_isForetold_306 : decode cL_isForetold 306 = .ok (.aload_n 0, 1) := by decide +kernel
theorem dL_isForetold_307 : decode cL_isForetold 307 = .ok (.invokestatic 43, 3) := by decide +kernel
theorem dL_isForetold_310 : decode cL_isForetold 310 = .ok (.lload_n 2, 1) := by decide +kernel
theorem dL_isForetold_311 : decode cL_isForetold 311 = .ok (.lcmp, 1) := by decide +kernel
theorem dL_isForetold_312 : decode cL_isForetold 312 = .ok (.ifCond .ne 7, 3) := by decide +kernel
theorem dL_isForetold_315 : decode cL_isForetold 315 = .ok (.iconst 1, 1) := by decide +kernel
theorem dL_isForetold_316 : decode cL_isForetold 316 = .ok (.goto 4, 3) := by decide +kernel
theorem dL_isForetold_319 : decode cL_isForetold 319 = .ok (.iconst 0, 1) := by decide +kernel
theorem dL_isForetold_320 : decode cL_isForetold 320 = .ok (.ireturn, 1) := by decide +kernel
theorem dL_isFound_0 : decode cL_isFound 0 = .ok (.aload_n 0, 1) := by decide +kernel
theorem dL_isFound_1 : decode cL_isFound 1 = .ok (.invokestatic 43, 3) := by decide +kernel
theorem dL_isFound_4 : decode cL_isFound 4 = .ok (.lstore_n 2, 1) := by decide +kernel
theorem dL_isFound_5 : decode cL_isFound 5 = .ok (.aload_n 0, 1) := by decide +kernel
theorem dL_isFound_6 : decode cL_isFound 6 = .ok (.iconst 0, 1) := by decide +kernel
theorem dL_isFound_7 : decode cL_isFound 7 = .ok (.invokevirtual 12, 3) := by decide +kernel
theorem dL_isFound_10 : decode cL_isFound 10 = .ok (.istore 4, 2) := by decide +kernel
theorem dL_isFound_12 : decode cL_isFound 12 = .ok (.iload 4, 2) := by decide +kernel
theorem dL_isFound_14 : decode cL_isFound 14 = .ok (.iload_n 1, 1) := by decide +kernel
theorem dL_isFound_15 : decode cL_isFound 15 = .ok (.iload 4, 2) := by decide +kernel
theorem dL_isFound_17 : decode cL_isFound 17 = .ok (.sipush 190, 3) := by decide +kernel
theorem dL_isFound_20 : decode cL_isFound 20 = .ok (.if_icmp .le 12, 3) := by decide +kernel
theorem dL_isFound_23 : decode cL_isFound 23 = .ok (.sipush 200, 3) := by decide +kernel
theorem dL_isFound_26 : decode cL_isFound 26 = .ok (.iload 4, 2) := by decide +kernel
theorem dL_isFound_28 : decode cL_isFound 28 = .ok (.isub, 1) := by decide +kernel
theorem dL_isFound_29 : decode cL_isFound 29 = .ok (.goto 5, 3) := by decide +kernel
theorem dL_isFound_32 : decode cL_isFound 32 = .ok (.bipush 9, 2) := by decide +kernel
theorem dL_isFound_34 : decode cL_isFound 34 = .ok (.invokestatic 49, 3) := by decide +kernel
theorem dL_isFound_37 : decode cL_isFound 37 = .ok (.iadd, 1) := by decide +kernel
theorem dL_isFound_38 : decode cL_isFound 38 = .ok (.istore 5, 2) := by decide +kernel
theorem dL_isFound_40 : decode cL_isFound 40 = .ok (.iconst 1, 1) := by decide +kernel
theorem dL_isFound_41 : decode cL_isFound 41 = .ok (.iload_n 1, 1) := by decide +kernel
theorem dL_isFound_42 : decode cL_isFound 42 = .ok (.iconst 4, 1) := by decide +kernel
theorem dL_isFound_43 : decode cL_isFound 43 = .ok (.ishr, 1) := by decide +kernel
theorem dL_isFound_44 : decode cL_isFound 44 = .ok (.sipush 900, 3) := by decide +kernel
theorem dL_isFound_47 : decode cL_isFound 47 = .ok (.invokestatic 49, 3) := by decide +kernel
theorem dL_isFound_50 : decode cL_isFound 50 = .ok (.iadd, 1) := by decide +kernel
theorem dL_isFound_51 : decode cL_isFound 51 = .ok (.istore 6, 2) := by decide +kernel
theorem dL_isFound_53 : decode cL_isFound 53 = .ok (.iconst 2, 1) := by decide +kernel
theorem dL_isFound_54 : decode cL_isFound 54 = .ok (.iload_n 1, 1) := by decide +kernel
theorem dL_isFound_55 : decode cL_isFound 55 = .ok (.bipush 9, 2) := by decide +kernel
theorem dL_isFound_57 : decode cL_isFound 57 = .ok (.ishr, 1) := by decide +kernel
theorem dL_isFound_58 : decode cL_isFound 58 = .ok (.bipush 59, 2) := by decide +kernel
theorem dL_isFound_60 : decode cL_isFound 60 = .ok (.invokestatic 49, 3) := by decide +kernel
theorem dL_isFound_63 : decode cL_isFound 63 = .ok (.iadd, 1) := by decide +kernel
theorem dL_isFound_64 : decode cL_isFound 64 = .ok (.istore 7, 2) := by decide +kernel
theorem dL_isFound_66 : decode cL_isFound 66 = .ok (.aload_n 0, 1) := by decide +kernel
theorem dL_isFound_67 : decode cL_isFound 67 = .ok (.iload 5, 2) := by decide +kernel
theorem dL_isFound_69 : decode cL_isFound 69 = .ok (.iload 6, 2) := by decide +kernel
theorem dL_isFound_71 : decode cL_isFound 71 = .ok (.iload 7, 2) := by decide +kernel
theorem dL_isFound_73 : decode cL_isFound 73 = .ok (.invokevirtual 66, 3) := by decide +kernel
theorem dL_isFound_76 : decode cL_isFound 76 = .ok (.istore 8, 2) := by decide +kernel
theorem dL_isFound_78 : decode cL_isFound 78 = .ok (.iconst 0, 1) := by decide +kernel
theorem dL_isFound_79 : decode cL_isFound 79 = .ok (.istore 9, 2) := by decide +kernel
theorem dL_isFound_81 : decode cL_isFound 81 = .ok (.iload 9, 2) := by decide +kernel
theorem dL_isFound_83 : decode cL_isFound 83 = .ok (.aload_n 0, 1) := by decide +kernel
theorem dL_isFound_84 : decode cL_isFound 84 = .ok (.iconst 1, 1) := by decide +kernel
theorem dL_isFound_85 : decode cL_isFound 85 = .ok (.invokevirtual 12, 3) := by decide +kernel
theorem dL_isFound_88 : decode cL_isFound 88 = .ok (.if_icmp .ge 116, 3) := by decide +kernel
theorem dL_isFound_91 : decode cL_isFound 91 = .ok (.aload_n 0, 1) := by decide +kernel
theorem dL_isFound_92 : decode cL_isFound 92 = .ok (.iconst 0, 1) := by decide +kernel
theorem dL_isFound_93 : decode cL_isFound 93 = .ok (.iload 9, 2) := by decide +kernel
theorem dL_isFound_95 : decode cL_isFound 95 = .ok (.iload 5, 2) := by decide +kernel
theorem dL_isFound_97 : decode cL_isFound 97 = .ok (.iload 6, 2) := by decide +kernel
theorem dL_isFound_99 : decode cL_isFound 99 = .ok (.iload 7, 2) := by decide +kernel
theorem dL_isFound_101 : decode cL_isFound 101 = .ok (.invokevirtual 69, 3) := by decide +kernel
theorem dL_isFound_104 : decode cL_isFound 104 = .ok (.istore 10, 2) := by decide +kernel
theorem dL_isFound_106 : decode cL_isFound 106 = .ok (.iload 10, 2) := by decide +kernel
theorem dL_isFound_108 : decode cL_isFound 108 = .ok (.ifCond .ge 10, 3) := by decide +kernel
theorem dL_isFound_111 : decode cL_isFound 111 = .ok (.iload 10, 2) := by decide +kernel
theorem dL_isFound_113 : decode cL_isFound 113 = .ok (.bipush (-3), 2) := by decide +kernel
theorem dL_isFound_115 : decode cL_isFound 115 = .ok (.if_icmp .ne 7, 3) := by decide +kernel
theorem dL_isFound_118 : decode cL_isFound 118 = .ok (.iconst 1, 1) := by decide +kernel
theorem dL_isFound_119 : decode cL_isFound 119 = .ok (.goto 4, 3) := by decide +kernel
theorem dL_isFound_122 : decode cL_isFound 122 = .ok (.iconst 0, 1) := by decide +kernel
theorem dL_isFound_123 : decode cL_isFound 123 = .ok (.istore 11, 2) := by decide +kernel
theorem dL_isFound_125 : decode cL_isFound 125 = .ok (.iload 10, 2) := by decide +kernel
theorem dL_isFound_127 : decode cL_isFound 127 = .ok (.ifCond .lt 40, 3) := by decide +kernel
theorem dL_isFound_130 : decode cL_isFound 130 = .ok (.aload_n 0, 1) := by decide +kernel
theorem dL_isFound_131 : decode cL_isFound 131 = .ok (.iload 9, 2) := by decide +kernel
theorem dL_isFound_133 : decode cL_isFound 133 = .ok (.iload 5, 2) := by decide +kernel
theorem dL_isFound_135 : decode cL_isFound 135 = .ok (.invokevirtual 37, 3) := by decide +kernel
theorem dL_isFound_138 : decode cL_isFound 138 = .ok (.iload 10, 2) := by decide +kernel
theorem dL_isFound_140 : decode cL_isFound 140 = .ok (.if_icmp .ne 56, 3) := by decide +kernel
theorem dL_isFound_143 : decode cL_isFound 143 = .ok (.aload_n 0, 1) := by decide +kernel
theorem dL_isFound_144 : decode cL_isFound 144 = .ok (.iload 10, 2) := by decide +kernel
theorem dL_isFound_146 : decode cL_isFound 146 = .ok (.bipush 6, 2) := by decide +kernel
theorem dL_isFound_148 : decode cL_isFound 148 = .ok (.invokevirtual 25, 3) := by decide +kernel
theorem dL_isFound_151 : decode cL_isFound 151 = .ok (.aload_n 0, 1) := by decide +kernel
theorem dL_isFound_152 : decode cL_isFound 152 = .ok (.iload 5, 2) := by decide +kernel
theorem dL_isFound_154 : decode cL_isFound 154 = .ok (.invokevirtual 31, 3) := by decide +kernel
theorem dL_isFound_157 : decode cL_isFound 157 = .ok (.if_icmp .ne 39, 3) := by decide +kernel
theorem dL_isFound_160 : decode cL_isFound 160 = .ok (.aload_n 0, 1) := by decide +kernel
theorem dL_isFound_161 : decode cL_isFound 161 = .ok (.invokevirtual 58, 3) := by decide +kernel
theorem dL_isFound_164 : decode cL_isFound 164 = .ok (.ifCond .lt 32, 3) := by decide +kernel
theorem dL_isFound_167 : decode cL_isFound 167 = .ok (.iload 11, 2) := by decide +kernel
theorem dL_isFound_169 : decode cL_isFound 169 = .ok (.ifCond .eq 15, 3) := by decide +kernel
theorem dL_isFound_172 : decode cL_isFound 172 = .ok (.iload 8, 2) := by decide +kernel
theorem dL_isFound_174 : decode cL_isFound 174 = .ok (.ifCond .lt 22, 3) := by decide +kernel
theorem dL_isFound_177 : decode cL_isFound 177 = .ok (.iload 9, 2) := by decide +kernel
theorem dL_isFound_179 : decode cL_isFound 179 = .ok (.iload 8, 2) := by decide +kernel
theorem dL_isFound_181 : decode cL_isFound 181 = .ok (.if_icmp .lt 15, 3) := by decide +kernel
theorem dL_isFound_184 : decode cL_isFound 184 = .ok (.iload 11, 2) := by decide +kernel
theorem dL_isFound_186 : decode cL_isFound 186 = .ok (.ifCond .ne 12, 3) := by decide +kernel
theorem dL_isFound_189 : decode cL_isFound 189 = .ok (.iload 9, 2) := by decide +kernel
theorem dL_isFound_191 : decode cL_isFound 191 = .ok (.iload 8, 2) := by decide +kernel
theorem dL_isFound_193 : decode cL_isFound 193 = .ok (.if_icmp .ne 5, 3) := by decide +kernel
theorem dL_isFound_196 : decode cL_isFound 196 = .ok (.iconst 0, 1) := by decide +kernel
theorem dL_isFound_197 : decode cL_isFound 197 = .ok (.ireturn, 1) := by decide +kernel
theorem dL_isFound_198 : decode cL_isFound 198 = .ok (.iinc 9 1, 3) := by decide +kernel
theorem dL_isFound_201 : decode cL_isFound 201 = .ok (.goto (-120), 3) := by decide +kernel
theorem dL_isFound_204 : decode cL_isFound 204 = .ok (.aload_n 0, 1) := by decide +kernel
theorem dL_isFound_205 : decode cL_isFound 205 = .ok (.invokestatic 43, 3) := by decide +kernel
theorem dL_isFound_208 : decode cL_isFound 208 = .ok (.lload_n 2, 1) := by decide +kernel
theorem dL_isFound_209 : decode cL_isFound 209 = .ok (.lcmp, 1) := by decide +kernel
theorem dL_isFound_210 : decode cL_isFound 210 = .ok (.ifCond .ne 7, 3) := by decide +kernel
theorem dL_isFound_213 : decode cL_isFound 213 = .ok (.iconst 1, 1) := by decide +kernel
theorem dL_isFound_214 : decode cL_isFound 214 = .ok (.goto 4, 3) := by decide +kernel
theorem dL_isFound_217 : decode cL_isFound 217 = .ok (.iconst 0, 1) := by decide +kernel
theorem dL_isFound_218 : decode cL_isFound 218 = .ok (.ireturn, 1) := by decide +kernel
theorem dL_acts_0 : decode cL_acts 0 = .ok (.aload_n 0, 1) := by decide +kernel
theorem dL_acts_1 : decode cL_acts 1 = .ok (.iconst 1, 1) := by decide +kernel
theorem dL_acts_2 : decode cL_acts 2 = .ok (.invokevirtual 12, 3) := by decide +kernel
theorem dL_acts_5 : decode cL_acts 5 = .ok (.istore_n 2, 1) := by decide +kernel
theorem dL_acts_6 : decode cL_acts 6 = .ok (.iload_n 1, 1) := by decide +kernel
theorem dL_acts_7 : decode cL_acts 7 = .ok (.iconst 4, 1) := by decide +kernel
theorem dL_acts_8 : decode cL_acts 8 = .ok (.ishr, 1) := by decide +kernel
theorem dL_acts_9 : decode cL_acts 9 = .ok (.iload_n 1, 1) := by decide +kernel
theorem dL_acts_10 : decode cL_acts 10 = .ok (.bipush 27, 2) := by decide +kernel
theorem dL_acts_12 : decode cL_acts 12 = .ok (.ishr, 1) := by decide +kernel
theorem dL_acts_13 : decode cL_acts 13 = .ok (.iconst 3, 1) := by decide +kernel
theorem dL_acts_14 : decode cL_acts 14 = .ok (.iand, 1) := by decide +kernel
theorem dL_acts_15 : decode cL_acts 15 = .ok (.ifCond .ne 13, 3) := by decide +kernel
theorem dL_acts_18 : decode cL_acts 18 = .ok (.aload_n 0, 1) := by decide +kernel
theorem dL_acts_19 : decode cL_acts 19 = .ok (.iconst 2, 1) := by decide +kernel
theorem dL_acts_20 : decode cL_acts 20 = .ok (.invokevirtual 12, 3) := by decide +kernel
theorem dL_acts_23 : decode cL_acts 23 = .ok (.iconst 1, 1) := by decide +kernel
theorem dL_acts_24 : decode cL_acts 24 = .ok (.iadd, 1) := by decide +kernel
theorem dL_acts_25 : decode cL_acts 25 = .ok (.goto 8, 3) := by decide +kernel
theorem dL_acts_28 : decode cL_acts 28 = .ok (.aload_n 0, 1) := by decide +kernel
theorem dL_acts_29 : decode cL_acts 29 = .ok (.iconst 2, 1) := by decide +kernel
theorem dL_acts_30 : decode cL_acts 30 = .ok (.invokevirtual 12, 3) := by decide +kernel
theorem dL_acts_33 : decode cL_acts 33 = .ok (.invokestatic 49, 3) := by decide +kernel
theorem dL_acts_36 : decode cL_acts 36 = .ok (.istore_n 3, 1) := by decide +kernel
theorem dL_acts_37 : decode cL_acts 37 = .ok (.iload_n 1, 1) := by decide +kernel
theorem dL_acts_38 : decode cL_acts 38 = .ok (.bipush 8, 2) := by decide +kernel
theorem dL_acts_40 : decode cL_acts 40 = .ok (.ishr, 1) := by decide +kernel
theorem dL_acts_41 : decode cL_acts 41 = .ok (.iload_n 2, 1) := by decide +kernel
theorem dL_acts_42 : decode cL_acts 42 = .ok (.invokestatic 49, 3) := by decide +kernel
theorem dL_acts_45 : decode cL_acts 45 = .ok (.istore 4, 2) := by decide +kernel
theorem dL_acts_47 : decode cL_acts 47 = .ok (.aload_n 0, 1) := by decide +kernel
theorem dL_acts_48 : decode cL_acts 48 = .ok (.iconst 0, 1) := by decide +kernel
theorem dL_acts_49 : decode cL_acts 49 = .ok (.invokevirtual 12, 3) := by decide +kernel
theorem dL_acts_52 : decode cL_acts 52 = .ok (.iload_n 1, 1) := by decide +kernel
theorem dL_acts_53 : decode cL_acts 53 = .ok (.bipush 11, 2) := by decide +kernel
theorem dL_acts_55 : decode cL_acts 55 = .ok (.ishr, 1) := by decide +kernel
theorem dL_acts_56 : decode cL_acts 56 = .ok (.bipush 9, 2) := by decide +kernel
theorem dL_acts_58 : decode cL_acts 58 = .ok (.invokestatic 49, 3) := by decide +kernel
theorem dL_acts_61 : decode cL_acts 61 = .ok (.iadd, 1) := by decide +kernel
theorem dL_acts_62 : decode cL_acts 62 = .ok (.iload_n 1, 1) := by decide +kernel
theorem dL_acts_63 : decode cL_acts 63 = .ok (.bipush 26, 2) := by decide +kernel
theorem dL_acts_65 : decode cL_acts 65 = .ok (.ishr, 1) := by decide +kernel
theorem dL_acts_66 : decode cL_acts 66 = .ok (.iconst 1, 1) := by decide +kernel
theorem dL_acts_67 : decode cL_acts 67 = .ok (.iand, 1) := by decide +kernel
theorem dL_acts_68 : decode cL_acts 68 = .ok (.isub, 1) := by decide +kernel
theorem dL_acts_69 : decode cL_acts 69 = .ok (.istore 5, 2) := by decide +kernel
theorem dL_acts_71 : decode cL_acts 71 = .ok (.iload_n 1, 1) := by decide +kernel
theorem dL_acts_72 : decode cL_acts 72 = .ok (.bipush 18, 2) := by decide +kernel
theorem dL_acts_74 : decode cL_acts 74 = .ok (.invokestatic 49, 3) := by decide +kernel
theorem dL_acts_77 : decode cL_acts 77 = .ok (.tableswitch 223 0 13 #[71, 76, 76, 76, 76, 109, 109, 125, 143, 143, 175, 175, 175, 204], 71) := by decide +kernel
theorem dL_acts_148 : decode cL_acts 148 = .ok (.aload_n 0, 1) := by decide +kernel
theorem dL_acts_149 : decode cL_acts 149 = .ok (.invokevirtual 73, 3) := by decide +kernel
theorem dL_acts_152 : decode cL_acts 152 = .ok (.ireturn, 1) := by decide +kernel
theorem dL_acts_153 : decode cL_acts 153 = .ok (.aload_n 0, 1) := by decide +kernel
theorem dL_acts_154 : decode cL_acts 154 = .ok (.iload_n 3, 1) := by decide +kernel
theorem dL_acts_155 : decode cL_acts 155 = .ok (.iload 4, 2) := by decide +kernel
theorem dL_acts_157 : decode cL_acts 157 = .ok (.iload 5, 2) := by decide +kernel
theorem dL_acts_159 : decode cL_acts 159 = .ok (.iconst 1, 1) := by decide +kernel
theorem dL_acts_160 : decode cL_acts 160 = .ok (.iload_n 1, 1) := by decide +kernel
theorem dL_acts_161 : decode cL_acts 161 = .ok (.bipush 15, 2) := by decide +kernel
theorem dL_acts_163 : decode cL_acts 163 = .ok (.ishr, 1) := by decide +kernel
theorem dL_acts_164 : decode cL_acts 164 = .ok (.sipush 500, 3) := by decide +kernel
theorem dL_acts_167 : decode cL_acts 167 = .ok (.invokestatic 49, 3) := by decide +kernel
theorem dL_acts_170 : decode cL_acts 170 = .ok (.iadd, 1) := by decide +kernel
theorem dL_acts_171 : decode cL_acts 171 = .ok (.iconst 2, 1) := by decide +kernel
theorem dL_acts_172 : decode cL_acts 172 = .ok (.iload_n 1, 1) := by decide +kernel
theorem dL_acts_173 : decode cL_acts 173 = .ok (.bipush 20, 2) := by decide +kernel
theorem dL_acts_175 : decode cL_acts 175 = .ok (.ishr, 1) := by decide +kernel
theorem dL_acts_176 : decode cL_acts 176 = .ok (.bipush 40, 2) := by decide +kernel
theorem dL_acts_178 : decode cL_acts 178 = .ok (.invokestatic 49, 3) := by decide +kernel
theorem dL_acts_181 : decode cL_acts 181 = .ok (.iadd, 1) := by decide +kernel
theorem dL_acts_182 : decode cL_acts 182 = .ok (.invokevirtual 69, 3) := by decide +kernel
theorem dL_acts_185 : decode cL_acts 185 = .ok (.ireturn, 1) := by decide +kernel
theorem dL_acts_186 : decode cL_acts 186 = .ok (.aload_n 0, 1) := by decide +kernel
theorem dL_acts_187 : decode cL_acts 187 = .ok (.iload 5, 2) := by decide +kernel
theorem dL_acts_189 : decode cL_acts 189 = .ok (.iload_n 1, 1) := by decide +kernel
theorem dL_acts_190 : decode cL_acts 190 = .ok (.bipush 15, 2) := by decide +kernel
theorem dL_acts_192 : decode cL_acts 192 = .ok (.ishr, 1) := by decide +kernel
theorem dL_acts_193 : decode cL_acts 193 = .ok (.bipush 101, 2) := by decide +kernel
theorem dL_acts_195 : decode cL_acts 195 = .ok (.invokestatic 49, 3) := by decide +kernel
theorem dL_acts_198 : decode cL_acts 198 = .ok (.invokevirtual 76, 3) := by decide +kernel
theorem dL_acts_201 : decode cL_acts 201 = .ok (.ireturn, 1) := by decide +kernel
theorem dL_acts_202 : decode cL_acts 202 = .ok (.aload_n 0, 1) := by decide +kernel
theorem dL_acts_203 : decode cL_acts 203 = .ok (.iload_n 1, 1) := by decide +kernel
theorem dL_acts_204 : decode cL_acts 204 = .ok (.iconst 4, 1) := by decide +kernel
theorem dL_acts_205 : decode cL_acts 205 = .ok (.ishr, 1) := by decide +kernel
theorem dL_acts_206 : decode cL_acts 206 = .ok (.iconst 1, 1) := by decide +kernel
theorem dL_acts_207 : decode cL_acts 207 = .ok (.aload_n 0, 1) := by decide +kernel
theorem dL_acts_208 : decode cL_acts 208 = .ok (.iconst 3, 1) := by decide +kernel
theorem dL_acts_209 : decode cL_acts 209 = .ok (.invokevirtual 12, 3) := by decide +kernel
theorem dL_acts_212 : decode cL_acts 212 = .ok (.iadd, 1) := by decide +kernel
theorem dL_acts_213 : decode cL_acts 213 = .ok (.invokestatic 49, 3) := by decide +kernel
theorem dL_acts_216 : decode cL_acts 216 = .ok (.invokevirtual 79, 3) := by decide +kernel
theorem dL_acts_219 : decode cL_acts 219 = .ok (.ireturn, 1) := by decide +kernel
theorem dL_acts_220 : decode cL_acts 220 = .ok (.aload_n 0, 1) := by decide +kernel
theorem dL_acts_221 : decode cL_acts 221 = .ok (.iload_n 1, 1) := by decide +kernel
theorem dL_acts_222 : decode cL_acts 222 = .ok (.iconst 4, 1) := by decide +kernel
theorem dL_acts_223 : decode cL_acts 223 = .ok (.ishr, 1) := by decide +kernel
theorem dL_acts_224 : decode cL_acts 224 = .ok (.iconst 1, 1) := by decide +kernel
theorem dL_acts_225 : decode cL_acts 225 = .ok (.aload_n 0, 1) := by decide +kernel
theorem dL_acts_226 : decode cL_acts 226 = .ok (.iconst 3, 1) := by decide +kernel
theorem dL_acts_227 : decode cL_acts 227 = .ok (.invokevirtual 12, 3) := by decide +kernel
theorem dL_acts_230 : decode cL_acts 230 = .ok (.iadd, 1) := by decide +kernel
theorem dL_acts_231 : decode cL_acts 231 = .ok (.invokestatic 49, 3) := by decide +kernel
theorem dL_acts_234 : decode cL_acts 234 = .ok (.iload_n 1, 1) := by decide +kernel
theorem dL_acts_235 : decode cL_acts 235 = .ok (.bipush 9, 2) := by decide +kernel
theorem dL_acts_237 : decode cL_acts 237 = .ok (.ishr, 1) := by decide +kernel
theorem dL_acts_238 : decode cL_acts 238 = .ok (.iconst 1, 1) := by decide +kernel
theorem dL_acts_239 : decode cL_acts 239 = .ok (.aload_n 0, 1) := by decide +kernel
theorem dL_acts_240 : decode cL_acts 240 = .ok (.iconst 3, 1) := by decide +kernel
theorem dL_acts_241 : decode cL_acts 241 = .ok (.invokevirtual 12, 3) := by decide +kernel
theorem dL_acts_244 : decode cL_acts 244 = .ok (.iadd, 1) := by decide +kernel
theorem dL_acts_245 : decode cL_acts 245 = .ok (.invokestatic 49, 3) := by decide +kernel
theorem dL_acts_248 : decode cL_acts 248 = .ok (.invokevirtual 82, 3) := by decide +kernel
theorem dL_acts_251 : decode cL_acts 251 = .ok (.ireturn, 1) := by decide +kernel
theorem dL_acts_252 : decode cL_acts 252 = .ok (.aload_n 0, 1) := by decide +kernel
theorem dL_acts_253 : decode cL_acts 253 = .ok (.iload_n 3, 1) := by decide +kernel
theorem dL_acts_254 : decode cL_acts 254 = .ok (.iload 4, 2) := by decide +kernel
theorem dL_acts_256 : decode cL_acts 256 = .ok (.iload_n 1, 1) := by decide +kernel
theorem dL_acts_257 : decode cL_acts 257 = .ok (.bipush 15, 2) := by decide +kernel
theorem dL_acts_259 : decode cL_acts 259 = .ok (.ishr, 1) := by decide +kernel
theorem dL_acts_260 : decode cL_acts 260 = .ok (.iload_n 2, 1) := by decide +kernel
theorem dL_acts_261 : decode cL_acts 261 = .ok (.invokestatic 49, 3) := by decide +kernel
theorem dL_acts_264 : decode cL_acts 264 = .ok (.iconst 1, 1) := by decide +kernel
theorem dL_acts_265 : decode cL_acts 265 = .ok (.iload_n 1, 1) := by decide +kernel
theorem dL_acts_266 : decode cL_acts 266 = .ok (.bipush 18, 2) := by decide +kernel
theorem dL_acts_268 : decode cL_acts 268 = .ok (.ishr, 1) := by decide +kernel
theorem dL_acts_269 : decode cL_acts 269 = .ok (.bipush 12, 2) := by decide +kernel
theorem dL_acts_271 : decode cL_acts 271 = .ok (.invokestatic 49, 3) := by decide +kernel
theorem dL_acts_274 : decode cL_acts 274 = .ok (.iadd, 1) := by decide +kernel
theorem dL_acts_275 : decode cL_acts 275 = .ok (.iload 5, 2) := by decide +kernel
theorem dL_acts_277 : decode cL_acts 277 = .ok (.invokevirtual 85, 3) := by decide +kernel
theorem dL_acts_280 : decode cL_acts 280 = .ok (.ireturn, 1) := by decide +kernel
theorem dL_acts_281 : decode cL_acts 281 = .ok (.aload_n 0, 1) := by decide +kernel
theorem dL_acts_282 : decode cL_acts 282 = .ok (.iload_n 1, 1) := by decide +kernel
theorem dL_acts_283 : decode cL_acts 283 = .ok (.iconst 4, 1) := by decide +kernel
theorem dL_acts_284 : decode cL_acts 284 = .ok (.ishr, 1) := by decide +kernel
theorem dL_acts_285 : decode cL_acts 285 = .ok (.iconst 1, 1) := by decide +kernel
theorem dL_acts_286 : decode cL_acts 286 = .ok (.aload_n 0, 1) := by decide +kernel
theorem dL_acts_287 : decode cL_acts 287 = .ok (.bipush 8, 2) := by decide +kernel
theorem dL_acts_289 : decode cL_acts 289 = .ok (.invokevirtual 12, 3) := by decide +kernel
theorem dL_acts_292 : decode cL_acts 292 = .ok (.iadd, 1) := by decide +kernel
theorem dL_acts_293 : decode cL_acts 293 = .ok (.invokestatic 49, 3) := by decide +kernel
theorem dL_acts_296 : decode cL_acts 296 = .ok (.invokevirtual 88, 3) := by decide +kernel
theorem dL_acts_299 : decode cL_acts 299 = .ok (.ireturn, 1) := by decide +kernel
theorem dL_acts_300 : decode cL_acts 300 = .ok (.aload_n 0, 1) := by decide +kernel
theorem dL_acts_301 : decode cL_acts 301 = .ok (.iload_n 1, 1) := by decide +kernel
theorem dL_acts_302 : decode cL_acts 302 = .ok (.iconst 4, 1) := by decide +kernel
theorem dL_acts_303 : decode cL_acts 303 = .ok (.ishr, 1) := by decide +kernel
theorem dL_acts_304 : decode cL_acts 304 = .ok (.iload_n 1, 1) := by decide +kernel
theorem dL_acts_305 : decode cL_acts 305 = .ok (.bipush 20, 2) := by decide +kernel
theorem dL_acts_307 : decode cL_acts 307 = .ok (.ishr, 1) := by decide +kernel
theorem dL_acts_308 : decode cL_acts 308 = .ok (.iconst 3, 1) := by decide +kernel
theorem dL_acts_309 : decode cL_acts 309 = .ok (.iand, 1) := by decide +kernel
theorem dL_acts_310 : decode cL_acts 310 = .ok (.ifCond .ne 8, 3) := by decide +kernel
theorem dL_acts_313 : decode cL_acts 313 = .ok (.bipush 21, 2) := by decide +kernel
theorem dL_acts_315 : decode cL_acts 315 = .ok (.goto 4, 3) := by decide +kernel
theorem dL_acts_318 : decode cL_acts 318 = .ok (.iconst 4, 1) := by decide +kernel
theorem dL_acts_319 : decode cL_acts 319 = .ok (.invokestatic 49, 3) := by decide +kernel
theorem dL_acts_322 : decode cL_acts 322 = .ok (.invokevirtual 55, 3) := by decide +kernel
theorem dL_acts_325 : decode cL_acts 325 = .ok (.ireturn, 1) := by decide +kernel
theorem dL_law_0 : decode cL_law 0 = .ok (.new 13, 3) := by decide +kernel
theorem dL_law_3 : decode cL_law 3 = .ok (.dup, 1) := by decide +kernel
theorem dL_law_4 : decode cL_law 4 = .ok (.invokespecial 91, 3) := by decide +kernel
theorem dL_law_7 : decode cL_law 7 = .ok (.astore_n 1, 1) := by decide +kernel
theorem dL_law_8 : decode cL_law 8 = .ok (.aload_n 0, 1) := by decide +kernel
theorem dL_law_9 : decode cL_law 9 = .ok (.iconst 0, 1) := by decide +kernel
theorem dL_law_10 : decode cL_law 10 = .ok (.invokestatic 92, 3) := by decide +kernel
theorem dL_law_13 : decode cL_law 13 = .ok (.istore_n 2, 1) := by decide +kernel
theorem dL_law_14 : decode cL_law 14 = .ok (.iconst 0, 1) := by decide +kernel
theorem dL_law_15 : decode cL_law 15 = .ok (.istore_n 3, 1) := by decide +kernel
theorem dL_law_16 : decode cL_law 16 = .ok (.iconst 0, 1) := by decide +kernel
theorem dL_law_17 : decode cL_law 17 = .ok (.istore 4, 2) := by decide +kernel
theorem dL_law_19 : decode cL_law 19 = .ok (.iload 4, 2) := by decide +kernel
theorem dL_law_21 : decode cL_law 21 = .ok (.iconst 2, 1) := by decide +kernel
theorem dL_law_22 : decode cL_law 22 = .ok (.iload_n 2, 1) := by decide +kernel
theorem dL_law_23 : decode cL_law 23 = .ok (.iconst 3, 1) := by decide +kernel
theorem dL_law_24 : decode cL_law 24 = .ok (.invokestatic 49, 3) := by decide +kernel
theorem dL_law_27 : decode cL_law 27 = .ok (.iadd, 1) := by decide +kernel
theorem dL_law_28 : decode cL_law 28 = .ok (.if_icmp .ge 55, 3) := by decide +kernel
theorem dL_law_31 : decode cL_law 31 = .ok (.iload_n 2, 1) := by decide +kernel
theorem dL_law_32 : decode cL_law 32 = .ok (.iconst 3, 1) := by decide +kernel
theorem dL_law_33 : decode cL_law 33 = .ok (.iload 4, 2) := by decide +kernel
theorem dL_law_35 : decode cL_law 35 = .ok (.imul, 1) := by decide +kernel
theorem dL_law_36 : decode cL_law 36 = .ok (.ishr, 1) := by decide +kernel
theorem dL_law_37 : decode cL_law 37 = .ok (.bipush 13, 2) := by decide +kernel
theorem dL_law_39 : decode cL_law 39 = .ok (.invokestatic 49, 3) := by decide +kernel
theorem dL_law_42 : decode cL_law 42 = .ok (.istore 5, 2) := by decide +kernel
theorem dL_law_44 : decode cL_law 44 = .ok (.iload_n 3, 1) := by decide +kernel
theorem dL_law_45 : decode cL_law 45 = .ok (.iload 5, 2) := by decide +kernel
theorem dL_law_47 : decode cL_law 47 = .ok (.iadd, 1) := by decide +kernel
theorem dL_law_48 : decode cL_law 48 = .ok (.istore_n 3, 1) := by decide +kernel
theorem dL_law_49 : decode cL_law 49 = .ok (.aload_n 1, 1) := by decide +kernel
theorem dL_law_50 : decode cL_law 50 = .ok (.bipush 10, 2) := by decide +kernel
theorem dL_law_52 : decode cL_law 52 = .ok (.iload_n 2, 1) := by decide +kernel
theorem dL_law_53 : decode cL_law 53 = .ok (.iconst 4, 1) := by decide +kernel
theorem dL_law_54 : decode cL_law 54 = .ok (.iconst 5, 1) := by decide +kernel
theorem dL_law_55 : decode cL_law 55 = .ok (.iload 4, 2) := by decide +kernel
theorem dL_law_57 : decode cL_law 57 = .ok (.imul, 1) := by decide +kernel
theorem dL_law_58 : decode cL_law 58 = .ok (.iadd, 1) := by decide +kernel
theorem dL_law_59 : decode cL_law 59 = .ok (.ishr, 1) := by decide +kernel
theorem dL_law_60 : decode cL_law 60 = .ok (.bipush 100, 2) := by decide +kernel
theorem dL_law_62 : decode cL_law 62 = .ok (.invokestatic 49, 3) := by decide +kernel
theorem dL_law_65 : decode cL_law 65 = .ok (.iadd, 1) := by decide +kernel
theorem dL_law_66 : decode cL_law 66 = .ok (.iload 5, 2) := by decide +kernel
theorem dL_law_68 : decode cL_law 68 = .ok (.invokevirtual 96, 3) := by decide +kernel
theorem dL_law_71 : decode cL_law 71 = .ok (.pop, 1) := by decide +kernel
theorem dL_law_72 : decode cL_law 72 = .ok (.aload_n 1, 1) := by decide +kernel
theorem dL_law_73 : decode cL_law 73 = .ok (.invokevirtual 73, 3) := by decide +kernel
theorem dL_law_76 : decode cL_law 76 = .ok (.pop, 1) := by decide +kernel
theorem dL_law_77 : decode cL_law 77 = .ok (.iinc 4 1, 3) := by decide +kernel
theorem dL_law_80 : decode cL_law 80 = .ok (.goto (-61), 3) := by decide +kernel
theorem dL_law_83 : decode cL_law 83 = .ok (.iconst 0, 1) := by decide +kernel
theorem dL_law_84 : decode cL_law 84 = .ok (.istore 4, 2) := by decide +kernel
theorem dL_law_86 : decode cL_law 86 = .ok (.iload 4, 2) := by decide +kernel
theorem dL_law_88 : decode cL_law 88 = .ok (.bipush 24, 2) := by decide +kernel
theorem dL_law_90 : decode cL_law 90 = .ok (.if_icmp .ge 141, 3) := by decide +kernel
theorem dL_law_93 : decode cL_law 93 = .ok (.aload_n 0, 1) := by decide +kernel
theorem dL_law_94 : decode cL_law 94 = .ok (.iconst 1, 1) := by decide +kernel
theorem dL_law_95 : decode cL_law 95 = .ok (.iload 4, 2) := by decide +kernel
theorem dL_law_97 : decode cL_law 97 = .ok (.iadd, 1) := by decide +kernel
theorem dL_law_98 : decode cL_law 98 = .ok (.invokestatic 92, 3) := by decide +kernel
theorem dL_law_101 : decode cL_law 101 = .ok (.istore 5, 2) := by decide +kernel
theorem dL_law_103 : decode cL_law 103 = .ok (.aload_n 1, 1) := by decide +kernel
theorem dL_law_104 : decode cL_law 104 = .ok (.invokestatic 43, 3) := by decide +kernel
theorem dL_law_107 : decode cL_law 107 = .ok (.lstore 6, 2) := by decide +kernel
theorem dL_law_109 : decode cL_law 109 = .ok (.aload_n 1, 1) := by decide +kernel
theorem dL_law_110 : decode cL_law 110 = .ok (.iload 5, 2) := by decide +kernel
theorem dL_law_112 : decode cL_law 112 = .ok (.invokestatic 99, 3) := by decide +kernel
theorem dL_law_115 : decode cL_law 115 = .ok (.istore 8, 2) := by decide +kernel
theorem dL_law_117 : decode cL_law 117 = .ok (.iload 8, 2) := by decide +kernel
theorem dL_law_119 : decode cL_law 119 = .ok (.ifCond .ge 15, 3) := by decide +kernel
theorem dL_law_122 : decode cL_law 122 = .ok (.aload_n 1, 1) := by decide +kernel
theorem dL_law_123 : decode cL_law 123 = .ok (.invokestatic 43, 3) := by decide +kernel
theorem dL_law_126 : decode cL_law 126 = .ok (.lload 6, 2) := by decide +kernel
theorem dL_law_128 : decode cL_law 128 = .ok (.lcmp, 1) := by decide +kernel
theorem dL_law_129 : decode cL_law 129 = .ok (.ifCond .eq 5, 3) := by decide +kernel
theorem dL_law_132 : decode cL_law 132 = .ok (.iconst 0, 1) := by decide +kernel
theorem dL_law_133 : decode cL_law 133 = .ok (.ireturn, 1) := by decide +kernel
theorem dL_law_134 : decode cL_law 134 = .ok (.iload 8, 2) := by decide +kernel
theorem dL_law_136 : decode cL_law 136 = .ok (.ifCond .lt 32, 3) := by decide +kernel
theorem dL_law_139 : decode cL_law 139 = .ok (.iload 5, 2) := by decide +kernel
theorem dL_law_141 : decode cL_law 141 = .ok (.bipush 28, 2) := by decide +kernel
theorem dL_law_143 : decode cL_law 143 = .ok (.ishr, 1) := by decide +kernel
theorem dL_law_144 : decode cL_law 144 = .ok (.iconst 3, 1) := by decide +kernel
theorem dL_law_145 : decode cL_law 145 = .ok (.iand, 1) := by decide +kernel
theorem dL_law_146 : decode cL_law 146 = .ok (.ifCond .ne 22, 3) := by decide +kernel
theorem dL_law_149 : decode cL_law 149 = .ok (.aload_n 1, 1) := by decide +kernel
theorem dL_law_150 : decode cL_law 150 = .ok (.invokevirtual 58, 3) := by decide +kernel
theorem dL_law_153 : decode cL_law 153 = .ok (.ifCond .lt 13, 3) := by decide +kernel
theorem dL_law_156 : decode cL_law 156 = .ok (.aload_n 1, 1) := by decide +kernel
theorem dL_law_157 : decode cL_law 157 = .ok (.invokestatic 43, 3) := by decide +kernel
theorem dL_law_160 : decode cL_law 160 = .ok (.lload 6, 2) := by decide +kernel
theorem dL_law_162 : decode cL_law 162 = .ok (.lcmp, 1) := by decide +kernel
theorem dL_law_163 : decode cL_law 163 = .ok (.ifCond .eq 5, 3) := by decide +kernel
theorem dL_law_166 : decode cL_law 166 = .ok (.iconst 0, 1) := by decide +kernel
theorem dL_law_167 : decode cL_law 167 = .ok (.ireturn, 1) := by decide +kernel
theorem dL_law_168 : decode cL_law 168 = .ok (.iload 4, 2) := by decide +kernel
theorem dL_law_170 : decode cL_law 170 = .ok (.iconst 2, 1) := by decide +kernel
theorem dL_law_171 : decode cL_law 171 = .ok (.irem, 1) := by decide +kernel
theorem dL_law_172 : decode cL_law 172 = .ok (.iconst 1, 1) := by decide +kernel
theorem dL_law_173 : decode cL_law 173 = .ok (.if_icmp .ne 11, 3) := by decide +kernel
theorem dL_law_176 : decode cL_law 176 = .ok (.aload_n 1, 1) := by decide +kernel
theorem dL_law_177 : decode cL_law 177 = .ok (.iload_n 3, 1) := by decide +kernel
theorem dL_law_178 : decode cL_law 178 = .ok (.invokestatic 103, 3) := by decide +kernel
theorem dL_law_181 : decode cL_law 181 = .ok (.ifCond .eq 42, 3) := by decide +kernel
theorem dL_law_184 : decode cL_law 184 = .ok (.iload 4, 2) := by decide +kernel
theorem dL_law_186 : decode cL_law 186 = .ok (.iconst 4, 1) := by decide +kernel
theorem dL_law_187 : decode cL_law 187 = .ok (.irem, 1) := by decide +kernel
theorem dL_law_188 : decode cL_law 188 = .ok (.iconst 2, 1) := by decide +kernel
theorem dL_law_189 : decode cL_law 189 = .ok (.if_icmp .ne 15, 3) := by decide +kernel
theorem dL_law_192 : decode cL_law 192 = .ok (.aload_n 1, 1) := by decide +kernel
theorem dL_law_193 : decode cL_law 193 = .ok (.iload 5, 2) := by decide +kernel
theorem dL_law_195 : decode cL_law 195 = .ok (.bipush 7, 2) := by decide +kernel
theorem dL_law_197 : decode cL_law 197 = .ok (.ishr, 1) := by decide +kernel
theorem dL_law_198 : decode cL_law 198 = .ok (.invokestatic 107, 3) := by decide +kernel
theorem dL_law_201 : decode cL_law 201 = .ok (.ifCond .eq 22, 3) := by decide +kernel
theorem dL_law_204 : decode cL_law 204 = .ok (.iload 4, 2) := by decide +kernel
theorem dL_law_206 : decode cL_law 206 = .ok (.iconst 4, 1) := by decide +kernel
theorem dL_law_207 : decode cL_law 207 = .ok (.irem, 1) := by decide +kernel
theorem dL_law_208 : decode cL_law 208 = .ok (.ifCond .ne 17, 3) := by decide +kernel
theorem dL_law_211 : decode cL_law 211 = .ok (.aload_n 1, 1) := by decide +kernel
theorem dL_law_212 : decode cL_law 212 = .ok (.iload 5, 2) := by decide +kernel
theorem dL_law_214 : decode cL_law 214 = .ok (.bipush 9, 2) := by decide +kernel
theorem dL_law_216 : decode cL_law 216 = .ok (.ishr, 1) := by decide +kernel
theorem dL_law_217 : decode cL_law 217 = .ok (.invokestatic 110, 3) := by decide +kernel
theorem dL_law_220 : decode cL_law 220 = .ok (.ifCond .ne 5, 3) := by decide +kernel
theorem dL_law_223 : decode cL_law 223 = .ok (.iconst 0, 1) := by decide +kernel
theorem dL_law_224 : decode cL_law 224 = .ok (.ireturn, 1) := by decide +kernel
theorem dL_law_225 : decode cL_law 225 = .ok (.iinc 4 1, 3) := by decide +kernel
theorem dL_law_228 : decode cL_law 228 = .ok (.goto (-142), 3) := by decide +kernel
theorem dL_law_231 : decode cL_law 231 = .ok (.aload_n 1, 1) := by decide +kernel
theorem dL_law_232 : decode cL_law 232 = .ok (.invokestatic 43, 3) := by decide +kernel
theorem dL_law_235 : decode cL_law 235 = .ok (.lstore 4, 2) := by decide +kernel
theorem dL_law_237 : decode cL_law 237 = .ok (.aload_n 1, 1) := by decide +kernel
theorem dL_law_238 : decode cL_law 238 = .ok (.invokevirtual 113, 3) := by decide +kernel
theorem dL_law_241 : decode cL_law 241 = .ok (.aload_n 1, 1) := by decide +kernel
theorem dL_law_242 : decode cL_law 242 = .ok (.iconst 0, 1) := by decide +kernel
theorem dL_law_243 : decode cL_law 243 = .ok (.invokevirtual 12, 3) := by decide +kernel
theorem dL_law_246 : decode cL_law 246 = .ok (.if_icmp .eq 5, 3) := by decide +kernel
theorem dL_law_249 : decode cL_law 249 = .ok (.iconst 0, 1) := by decide +kernel
theorem dL_law_250 : decode cL_law 250 = .ok (.ireturn, 1) := by decide +kernel
theorem dL_law_251 : decode cL_law 251 = .ok (.aload_n 1, 1) := by decide +kernel
theorem dL_law_252 : decode cL_law 252 = .ok (.bipush 7, 2) := by decide +kernel
theorem dL_law_254 : decode cL_law 254 = .ok (.invokevirtual 55, 3) := by decide +kernel
theorem dL_law_257 : decode cL_law 257 = .ok (.pop, 1) := by decide +kernel
theorem dL_law_258 : decode cL_law 258 = .ok (.aload_n 1, 1) := by decide +kernel
theorem dL_law_259 : decode cL_law 259 = .ok (.bipush 99, 2) := by decide +kernel
theorem dL_law_261 : decode cL_law 261 = .ok (.iconst 1, 1) := by decide +kernel
theorem dL_law_262 : decode cL_law 262 = .ok (.invokevirtual 96, 3) := by decide +kernel
theorem dL_law_265 : decode cL_law 265 = .ok (.pop, 1) := by decide +kernel
theorem dL_law_266 : decode cL_law 266 = .ok (.aload_n 1, 1) := by decide +kernel
theorem dL_law_267 : decode cL_law 267 = .ok (.sipush 199, 3) := by decide +kernel
theorem dL_law_270 : decode cL_law 270 = .ok (.bipush 50, 2) := by decide +kernel
theorem dL_law_272 : decode cL_law 272 = .ok (.invokevirtual 76, 3) := by decide +kernel
theorem dL_law_275 : decode cL_law 275 = .ok (.pop, 1) := by decide +kernel
theorem dL_law_276 : decode cL_law 276 = .ok (.aload_n 1, 1) := by decide +kernel
theorem dL_law_277 : decode cL_law 277 = .ok (.invokevirtual 116, 3) := by decide +kernel
theorem dL_law_280 : decode cL_law 280 = .ok (.aload_n 1, 1) := by decide +kernel
theorem dL_law_281 : decode cL_law 281 = .ok (.iconst 0, 1) := by decide +kernel
theorem dL_law_282 : decode cL_law 282 = .ok (.invokevirtual 12, 3) := by decide +kernel
theorem dL_law_285 : decode cL_law 285 = .ok (.if_icmp .ne 168, 3) := by decide +kernel
theorem dL_law_288 : decode cL_law 288 = .ok (.aload_n 1, 1) := by decide +kernel
theorem dL_law_289 : decode cL_law 289 = .ok (.invokestatic 43, 3) := by decide +kernel
theorem dL_law_292 : decode cL_law 292 = .ok (.lload 4, 2) := by decide +kernel
theorem dL_law_294 : decode cL_law 294 = .ok (.lcmp, 1) := by decide +kernel
theorem dL_law_295 : decode cL_law 295 = .ok (.ifCond .ne 158, 3) := by decide +kernel
theorem dL_law_298 : decode cL_law 298 = .ok (.aload_n 1, 1) := by decide +kernel
theorem dL_law_299 : decode cL_law 299 = .ok (.invokevirtual 58, 3) := by decide +kernel
theorem dL_law_302 : decode cL_law 302 = .ok (.ifCond .lt 151, 3) := by decide +kernel
theorem dL_law_305 : decode cL_law 305 = .ok (.aload_n 1, 1) := by decide +kernel
theorem dL_law_306 : decode cL_law 306 = .ok (.invokevirtual 116, 3) := by decide +kernel
theorem dL_law_309 : decode cL_law 309 = .ok (.ifCond .lt 144, 3) := by decide +kernel
theorem dL_law_312 : decode cL_law 312 = .ok (.aload_n 1, 1) := by decide +kernel
theorem dL_law_313 : decode cL_law 313 = .ok (.invokestatic 43, 3) := by decide +kernel
theorem dL_law_316 : decode cL_law 316 = .ok (.lload 4, 2) := by decide +kernel
theorem dL_law_318 : decode cL_law 318 = .ok (.lcmp, 1) := by decide +kernel
theorem dL_law_319 : decode cL_law 319 = .ok (.ifCond .ne 134, 3) := by decide +kernel
theorem dL_law_322 : decode cL_law 322 = .ok (.aload_n 1, 1) := by decide +kernel
theorem dL_law_323 : decode cL_law 323 = .ok (.iconst 5, 1) := by decide +kernel
theorem dL_law_324 : decode cL_law 324 = .ok (.iconst 0, 1) := by decide +kernel
theorem dL_law_325 : decode cL_law 325 = .ok (.invokevirtual 18, 3) := by decide +kernel
theorem dL_law_328 : decode cL_law 328 = .ok (.iconst (-1), 1) := by decide +kernel
theorem dL_law_329 : decode cL_law 329 = .ok (.if_icmp .ne 124, 3) := by decide +kernel
theorem dL_law_332 : decode cL_law 332 = .ok (.aload_n 1, 1) := by decide +kernel
theorem dL_law_333 : decode cL_law 333 = .ok (.iconst 0, 1) := by decide +kernel
theorem dL_law_334 : decode cL_law 334 = .ok (.bipush 7, 2) := by decide +kernel
theorem dL_law_336 : decode cL_law 336 = .ok (.invokevirtual 18, 3) := by decide +kernel
theorem dL_law_339 : decode cL_law 339 = .ok (.bipush (-2), 2) := by decide +kernel
theorem dL_law_341 : decode cL_law 341 = .ok (.if_icmp .ne 112, 3) := by decide +kernel
theorem dL_law_344 : decode cL_law 344 = .ok (.aload_n 1, 1) := by decide +kernel
theorem dL_law_345 : decode cL_law 345 = .ok (.bipush 8, 2) := by decide +kernel
theorem dL_law_347 : decode cL_law 347 = .ok (.iconst 0, 1) := by decide +kernel
theorem dL_law_348 : decode cL_law 348 = .ok (.invokevirtual 22, 3) := by decide +kernel
theorem dL_law_351 : decode cL_law 351 = .ok (.iconst (-1), 1) := by decide +kernel
theorem dL_law_352 : decode cL_law 352 = .ok (.if_icmp .ne 101, 3) := by decide +kernel
theorem dL_law_355 : decode cL_law 355 = .ok (.aload_n 1, 1) := by decide +kernel
theorem dL_law_356 : decode cL_law 356 = .ok (.bipush 30, 2) := by decide +kernel
theorem dL_law_358 : decode cL_law 358 = .ok (.iconst 0, 1) := by decide +kernel
theorem dL_law_359 : decode cL_law 359 = .ok (.invokevirtual 25, 3) := by decide +kernel
theorem dL_law_362 : decode cL_law 362 = .ok (.iconst (-1), 1) := by decide +kernel
theorem dL_law_363 : decode cL_law 363 = .ok (.if_icmp .ne 90, 3) := by decide +kernel
theorem dL_law_366 : decode cL_law 366 = .ok (.aload_n 1, 1) := by decide +kernel
theorem dL_law_367 : decode cL_law 367 = .ok (.bipush 10, 2) := by decide +kernel
theorem dL_law_369 : decode cL_law 369 = .ok (.iconst 0, 1) := by decide +kernel
theorem dL_law_370 : decode cL_law 370 = .ok (.invokevirtual 28, 3) := by decide +kernel
theorem dL_law_373 : decode cL_law 373 = .ok (.iconst (-1), 1) := by decide +kernel
theorem dL_law_374 : decode cL_law 374 = .ok (.if_icmp .ne 79, 3) := by decide +kernel
theorem dL_law_377 : decode cL_law 377 = .ok (.aload_n 1, 1) := by decide +kernel
theorem dL_law_378 : decode cL_law 378 = .ok (.bipush 30, 2) := by decide +kernel
theorem dL_law_380 : decode cL_law 380 = .ok (.invokevirtual 52, 3) := by decide +kernel
theorem dL_law_383 : decode cL_law 383 = .ok (.iconst (-1), 1) := by decide +kernel
theorem dL_law_384 : decode cL_law 384 = .ok (.if_icmp .ne 69, 3) := by decide +kernel
theorem dL_law_387 : decode cL_law 387 = .ok (.aload_n 1, 1) := by decide +kernel
theorem dL_law_388 : decode cL_law 388 = .ok (.iconst 0, 1) := by decide +kernel
theorem dL_law_389 : decode cL_law 389 = .ok (.sipush 200, 3) := by decide +kernel
theorem dL_law_392 : decode cL_law 392 = .ok (.invokevirtual 37, 3) := by decide +kernel
theorem dL_law_395 : decode cL_law 395 = .ok (.iconst (-1), 1) := by decide +kernel
theorem dL_law_396 : decode cL_law 396 = .ok (.if_icmp .ne 57, 3) := by decide +kernel
theorem dL_law_399 : decode cL_law 399 = .ok (.aload_n 1, 1) := by decide +kernel
theorem dL_law_400 : decode cL_law 400 = .ok (.sipush 200, 3) := by decide +kernel
theorem dL_law_403 : decode cL_law 403 = .ok (.iconst 1, 1) := by decide +kernel
theorem dL_law_404 : decode cL_law 404 = .ok (.iconst 2, 1) := by decide +kernel
theorem dL_law_405 : decode cL_law 405 = .ok (.invokevirtual 66, 3) := by decide +kernel
theorem dL_law_408 : decode cL_law 408 = .ok (.iconst (-1), 1) := by decide +kernel
theorem dL_law_409 : decode cL_law 409 = .ok (.if_icmp .ne 44, 3) := by decide +kernel
theorem dL_law_412 : decode cL_law 412 = .ok (.aload_n 1, 1) := by decide +kernel
theorem dL_law_413 : decode cL_law 413 = .ok (.sipush 199, 3) := by decide +kernel
theorem dL_law_416 : decode cL_law 416 = .ok (.iconst 0, 1) := by decide +kernel
theorem dL_law_417 : decode cL_law 417 = .ok (.iconst 2, 1) := by decide +kernel
theorem dL_law_418 : decode cL_law 418 = .ok (.invokevirtual 66, 3) := by decide +kernel
theorem dL_law_421 : decode cL_law 421 = .ok (.bipush (-2), 2) := by decide +kernel
theorem dL_law_423 : decode cL_law 423 = .ok (.if_icmp .ne 30, 3) := by decide +kernel
theorem dL_law_426 : decode cL_law 426 = .ok (.aload_n 1, 1) := by decide +kernel
theorem dL_law_427 : decode cL_law 427 = .ok (.bipush 17, 2) := by decide +kernel
theorem dL_law_429 : decode cL_law 429 = .ok (.invokevirtual 12, 3) := by decide +kernel
theorem dL_law_432 : decode cL_law 432 = .ok (.bipush (-2), 2) := by decide +kernel
theorem dL_law_434 : decode cL_law 434 = .ok (.if_icmp .ne 19, 3) := by decide +kernel
theorem dL_law_437 : decode cL_law 437 = .ok (.aload_n 1, 1) := by decide +kernel
theorem dL_law_438 : decode cL_law 438 = .ok (.bipush 9, 2) := by decide +kernel
theorem dL_law_440 : decode cL_law 440 = .ok (.iconst 0, 1) := by decide +kernel
theorem dL_law_441 : decode cL_law 441 = .ok (.invokevirtual 96, 3) := by decide +kernel
theorem dL_law_444 : decode cL_law 444 = .ok (.bipush (-2), 2) := by decide +kernel
theorem dL_law_446 : decode cL_law 446 = .ok (.if_icmp .ne 7, 3) := by decide +kernel
theorem dL_law_449 : decode cL_law 449 = .ok (.iconst 1, 1) := by decide +kernel
theorem dL_law_450 : decode cL_law 450 = .ok (.goto 4, 3) := by decide +kernel
theorem dL_law_453 : decode cL_law 453 = .ok (.iconst 0, 1) := by decide +kernel
theorem dL_law_454 : decode cL_law 454 = .ok (.ireturn, 1) := by decide +kernel
end
section
theorem kGoodApp {big a b : List Cond} (ha : GoodIn big a) (hb : GoodIn big b) : GoodIn big (a ++ b) := fun w h => (List.mem_append.mp h).elim (ha w) (hb w)
/-! A judgement over pure data: from any machine that stands at pc with the locals lv, the stack st and the cells w, the goal of the walk is reached. -/
def nF (f : Nat → Nat) : Nat → Int32 := fun j => nI (f j)
def bI : Bool → Int32
  | true => 1
  | false => 0
theorem bI_t {b : Bool} (h : b = true) : bI b = 1 := by rw [h]; rfl
theorem bI_f {b : Bool} (h : b = false) : bI b = 0 := by rw [h]; rfl
theorem bI_0 (b : Bool) : bI b = 0 ↔ b = false := by
  cases b
  · exact ⟨fun _ => rfl, fun _ => rfl⟩
  · exact ⟨fun h => absurd h (by decide), fun h => absurd h (by decide)⟩
theorem bI_n0 (b : Bool) : (¬ bI b = 0) ↔ b = true := by
  rw [bI_0]; cases b <;> simp
theorem upd_nF (f : Nat → Nat) (i v : Nat) : upd (nF f) i (nI v) = nF (va_up f i v) := by
  funext j
  by_cases h : j = i
  · subst h; simp [upd, nF, va_up]
  · simp [upd, nF, va_up, h]
def kTY (tA : Nat → ClassId) : List (ClassId × FieldType) := [(tA 0, .int), (tA 1, .char), (tA 2, .object "BallastClub$State")]
abbrev kN1 : Cond := .methodLinkNest "BallastClub$State" 62 yX4_isHalfDay "BallastClub"
abbrev kN2 : Cond := .methodLinkNest "BallastClub$State" 102 yX4_limitFor "BallastClub"
def kK (D : va_G) (tA : Nat → ClassId) (U : State) : Prop := va_K D vwCl (kTY tA) U ∧ va_Nw kN1 U ∧ va_Nw kN2 U ∧ va_AO "BallastClub$State" U
theorem kK.warm {D : va_G} {tA : Nat → ClassId} {s U : State} (hW : s.WarmedH U.vm) (h : kK D tA s) : kK D tA U :=
  ⟨va_K.moved hW.alike h.1, va_Nw.warmM hW h.2.1, va_Nw.warmM hW h.2.2.1, va_AO.moved hW.alike h.2.2.2⟩
theorem kK.same {D : va_G} {tA : Nat → ClassId} {u U : State} (e : u.vm = U.vm) (h : kK D tA u) : kK D tA U :=
  ⟨va_K.moved (by rw [e]; exact Vm.Alike.refl _) h.1, va_Nw.same rfl e h.2.1, va_Nw.same rfl e h.2.2.1, va_AO.moved (by rw [e]; exact Vm.Alike.refl _) h.2.2.2⟩
/-- a method's end: this answer, these cells -/
def kQ (D : va_G) (res : Option Value) (w' : va_W) (A : Nat → Prop) : Array Value → State → Outcome → State → Prop := fun _ st oc t => (oc = .returned res ∧ va_P D vwCl w' t.heap) ∧ va_F A st t
/-- a method's contract: on the cells w, with these arguments, it returns res and leaves the cells w' -/
def Kx (l : Launch) (D : va_G) (tA : Nat → ClassId) (y : MethodName) (cc : ByteArray) (nL : Nat) (ret : Option FieldType) (fr lo : Nat) (av : List Value) (w : va_W) (res : Option Value) (w' : va_W) : Prop :=
  ∀ sz : Nat, Met l y (.code y cc nL ret :: kALL) ({ frames := fr, cells := 0, slots := 0, locals := lo }) (va_Pc av (fun U => U.heap.size = sz ∧ va_P D vwCl w U.heap ∧ kK D tA U ∧ va_D (fun _ => True) w)) (kQ D res w' (va_A w sz)) 0 0 (va_A w sz)
/-- what stays the same while a body is walked -/
abbrev kCx : Type := Program × Env × Room × State × MethodId × Array Value × List Frame × Method × Code × (State → Prop) × (Nat → Prop)
abbrev gp (G : kCx) : Program := G.1
abbrev ge (G : kCx) : Env := G.2.1
abbrev gR (G : kCx) : Room := G.2.2.1
abbrev gs (G : kCx) : State := G.2.2.2.1
abbrev gm (G : kCx) : MethodId := G.2.2.2.2.1
abbrev ga (G : kCx) : Array Value := G.2.2.2.2.2.1
abbrev gb (G : kCx) : List Frame := G.2.2.2.2.2.2.1
abbrev gh (G : kCx) : Method := G.2.2.2.2.2.2.2.1
abbrev gc (G : kCx) : Code := G.2.2.2.2.2.2.2.2.1
abbrev gQ (G : kCx) : State → Prop := G.2.2.2.2.2.2.2.2.2.1
abbrev gA (G : kCx) : Nat → Prop := G.2.2.2.2.2.2.2.2.2.2
def J (l : Launch) (D : va_G) (G : kCx) (n k : Nat) (w : va_W) (lv : List (Nat × Value)) (pc : Nat) (st : List Value) : Prop :=
  ∀ (H : Heap) (locs : List Loc) (ls : Array Slot), va_P D vwCl w H → va_D (gA G) w → va_S (gA G) (gs G).heap H locs → lv_has ls (gc G).maxLocals lv → W (gp G) l (ge G) (gR G) (gs G) (gm G) (ga G) (gb G) (gh G) (gc G) H locs n k (gQ G) (F0 (gm G) pc ls st)
def kX (D : va_G) (tA : Nat → ClassId) (G : kCx) (cc : ByteArray) (nL : Nat) (own : String) (fr lo : Nat) : Prop :=
  (gp G).tables.exec = Jvm.exec ∧ (gc G).code = cc ∧ (gc G).maxLocals = nL ∧ (gs G).vm.findClass own = some (gm G).cls ∧ (∀ w ∈ kALL, w.before (ga G) (gs G) = true) ∧ kK D tA (gs G) ∧ (∀ q, (gs G).heap.size ≤ q → gA G q) ∧ (fr ≤ (gR G).frames ∧ lo ≤ (gR G).locals)
/-- the cells of a callee put back at their places -/
def kPlug : va_W → List Nat → va_W → va_W
  | w, i :: is, x :: xs => kPlug (w.set i x) is xs
  | w, _, _ => w
theorem kPlug_out : ∀ (is : List Nat) (xs w : va_W) (k : Nat), k ∉ is → (kPlug w is xs)[k]? = w[k]?
  | [], xs, w, k, _ => by cases xs <;> rfl
  | i :: is, [], w, k, _ => rfl
  | i :: is, x :: xs, w, k, h => by
    have h1 : k ≠ i := fun e => h (e ▸ List.mem_cons_self)
    have h2 : k ∉ is := fun e => h (List.mem_cons_of_mem _ e)
    show (kPlug (w.set i x) is xs)[k]? = _
    rw [kPlug_out is xs (w.set i x) k h2, List.getElem?_set_ne (Ne.symm h1)]
theorem kPlug_in : ∀ (is : List Nat) (xs w : va_W) (j k : Nat), va_nd is = true → is[j]? = some k → k < w.length → is.length = xs.length → (kPlug w is xs)[k]? = xs[j]?
  | [], xs, w, j, k, _, h, _, _ => by simp at h
  | i :: is, [], w, j, k, _, _, _, hl => by simp at hl
  | i :: is, x :: xs, w, j, k, hn, h, hk, hl => by
    simp only [va_nd, Bool.and_eq_true, decide_eq_true_eq] at hn
    show (kPlug (w.set i x) is xs)[k]? = _
    cases j with
    | zero =>
      rw [List.getElem?_cons_zero] at h
      cases h
      rw [kPlug_out is xs (w.set i x) i hn.1, List.getElem?_set_self hk, List.getElem?_cons_zero]
    | succ j =>
      rw [List.getElem?_cons_succ] at h ⊢
      exact kPlug_in is xs (w.set i x) j k hn.2 h (by rw [List.length_set]; exact hk) (by simpa using hl)
theorem kD_same {A : Nat → Prop} {w w' : va_W} (h : va_D A w) (e : w'.map Prod.fst = w.map Prod.fst) : va_D A w' := by
  have key : ∀ (k : Nat) (q : Nat × va_E), w'[k]? = some q → ∃ p, w[k]? = some p ∧ p.1 = q.1 := by
    intro k q hk
    have h1 : (w'.map Prod.fst)[k]? = some q.1 := by rw [List.getElem?_map, hk]; rfl
    rw [e, List.getElem?_map] at h1
    cases hp : w[k]? with
    | none => rw [hp] at h1; cases h1
    | some p => rw [hp] at h1; exact ⟨p, rfl, Option.some.inj h1⟩
  refine ⟨fun i j p q hi hj hpq => ?_, fun k q hk => ?_⟩
  · obtain ⟨p', a1, a2⟩ := key i p hi
    obtain ⟨q', b1, b2⟩ := key j q hj
    exact h.1 i j p' q' a1 b1 (by rw [a2, b2]; exact hpq)
  · obtain ⟨p, a1, a2⟩ := key k q hk
    rw [← a2]
    exact h.2 k p a1
theorem kPlug_fst {w wc wc' : va_W} {is : List Nat} (hC : is.map (fun i => w[i]?) = wc.map some) (hn : va_nd is = true) (hf : wc'.map Prod.fst = wc.map Prod.fst) : (kPlug w is wc').map Prod.fst = w.map Prod.fst := by
  have hl : wc'.length = wc.length := by simpa using congrArg List.length hf
  have hlen : is.length = wc.length := by have := congrArg List.length hC; simpa using this
  apply List.ext_getElem?
  intro k
  rw [List.getElem?_map, List.getElem?_map]
  by_cases hin : k ∈ is
  · obtain ⟨j, hj⟩ := List.getElem?_of_mem hin
    have hjl : j < wc.length := by rw [← hlen]; exact (List.getElem?_eq_some_iff.mp hj).1
    have h1 : (is.map (fun i => w[i]?))[j]? = (wc.map some)[j]? := by rw [hC]
    rw [List.getElem?_map, List.getElem?_map, hj, List.getElem?_eq_getElem hjl] at h1
    have h2 : w[k]? = some wc[j] := Option.some.inj h1
    have h3 : (wc'.map Prod.fst)[j]? = (wc.map Prod.fst)[j]? := by rw [hf]
    rw [List.getElem?_map, List.getElem?_map, List.getElem?_eq_getElem hjl] at h3
    rw [kPlug_in is wc' w j k hn hj (List.getElem?_eq_some_iff.mp h2).1 (by rw [hlen, hl]), h2]
    exact h3
  · rw [kPlug_out is wc' w k hin]
theorem kP_read {D : va_G} {A : Nat → Prop} {w wc : va_W} {is : List Nat} {H H1 : Heap} (hP : va_P D vwCl w H) (hD : va_D A w) (hC : is.map (fun i => w[i]?) = wc.map some)
    (hk : ∀ q : Nat, q < H.size → ¬ va_A wc H.size q → H1[q]? = H[q]?) (hP1 : va_P D vwCl wc H1) : va_P D vwCl w H1 := by
  have at' : ∀ (j : Nat) (q : Nat × va_E), wc[j]? = some q → ∃ i, is[j]? = some i ∧ w[i]? = some q := by
    intro k q hq
    have h1 : (is.map (fun i => w[i]?))[k]? = some (some q) := by rw [hC, List.getElem?_map, hq]; rfl
    rw [List.getElem?_map] at h1
    cases hi : is[k]? with
    | none => rw [hi] at h1; cases h1
    | some i => rw [hi] at h1; exact ⟨i, rfl, Option.some.inj h1⟩
  intro k q hkq
  by_cases hin : ∃ (j : Nat) (e : va_E), wc[j]? = some (q.1, e)
  · obtain ⟨j, e, h⟩ := hin
    obtain ⟨i, h1, h2⟩ := at' j (q.1, e) h
    have hki := hD.1 k i q (q.1, e) hkq h2 rfl
    subst hki
    rw [hkq] at h2
    rw [← Option.some.inj h2] at h
    exact hP1 j _ h
  · refine (hP k q hkq).kept (hk q.1 (hP k q hkq).lt (fun h => ?_))
    rcases h with ⟨j, e, h⟩ | h
    · exact hin ⟨j, e, h⟩
    · exact absurd (hP k q hkq).lt (by omega)
theorem kSub {D : va_G} {w wc : va_W} {H : Heap} (hP : va_P D vwCl w H) {is : List Nat} (hC : is.map (fun i => w[i]?) = wc.map some) : va_P D vwCl wc H := by
  intro k q hq
  have h1 : (is.map (fun i => w[i]?))[k]? = some (some q) := by rw [hC, List.getElem?_map, hq]; rfl
  rw [List.getElem?_map] at h1
  cases hi : is[k]? with
  | none => rw [hi] at h1; cases h1
  | some i => rw [hi] at h1; exact hP i q (Option.some.inj h1)
theorem kP_block {D : va_G} {A : Nat → Prop} {w wc wc' wr w' : va_W} {is js ks : List Nat} {H H1 : Heap} (hP : va_P D vwCl w H) (hD : va_D A w) (hC : is.map (fun i => w[i]?) = wc.map some) (hR : js.map (fun i => w[i]?) = wr.map some) (hn : va_nd (is ++ js) = true) (hf : wc'.map Prod.fst = wc.map Prod.fst) (hB : ks.map (fun i => (wc' ++ wr)[i]?) = w'.map some) (hnk : va_nd ks = true)
    (hk : ∀ q : Nat, q < H.size → ¬ va_A wc H.size q → H1[q]? = H[q]?) (hP1 : va_P D vwCl wc' H1) : va_P D vwCl w' H1 ∧ va_D A w' := by
  have hD2 : va_D A (wc ++ wr) := hD.sub (is ++ js) hn (by rw [List.map_append, List.map_append, hC, hR])
  have hPr : va_P D vwCl wr H1 := by
    intro k q hq
    have hq0 := kSub hP hR k q hq
    refine hq0.kept (hk q.1 hq0.lt (fun h => ?_))
    rcases h with ⟨j, e, h⟩ | h
    · have e1 : (wc ++ wr)[wc.length + k]? = some q := by rw [List.getElem?_append_right (by omega), Nat.add_sub_cancel_left]; exact hq
      have hj : j < wc.length := (List.getElem?_eq_some_iff.mp h).1
      have e2 : (wc ++ wr)[j]? = some (q.1, e) := by rw [List.getElem?_append_left hj]; exact h
      have := hD2.1 (wc.length + k) j q (q.1, e) e1 e2 rfl
      omega
    · exact absurd hq0.lt (by omega)
  have hD3 : va_D A (wc' ++ wr) := kD_same hD2 (by rw [List.map_append, List.map_append, hf])
  exact ⟨kSub (hP1.app hPr) hB, hD3.sub ks hnk hB⟩
theorem fst_app {A A' B B' : va_W} (h1 : A'.map Prod.fst = A.map Prod.fst) (h2 : B'.map Prod.fst = B.map Prod.fst) : (A' ++ B').map Prod.fst = (A ++ B).map Prod.fst := by
  rw [List.map_append, List.map_append, h1, h2]
theorem kP_plug {D : va_G} {A : Nat → Prop} {w wc wc' : va_W} {is : List Nat} {H H1 : Heap} (hP : va_P D vwCl w H) (hD : va_D A w) (hC : is.map (fun i => w[i]?) = wc.map some) (hn : va_nd is = true) (hl : wc'.length = wc.length)
    (hk : ∀ q : Nat, q < H.size → ¬ va_A wc H.size q → H1[q]? = H[q]?) (hP1 : va_P D vwCl wc' H1) : va_P D vwCl (kPlug w is wc') H1 := by
  have hlen : is.length = wc.length := by have := congrArg List.length hC; simpa using this
  have at' : ∀ (j : Nat) (q : Nat × va_E), wc[j]? = some q → ∃ i, is[j]? = some i ∧ w[i]? = some q := by
    intro k q hq
    have h1 : (is.map (fun i => w[i]?))[k]? = some (some q) := by rw [hC, List.getElem?_map, hq]; rfl
    rw [List.getElem?_map] at h1
    cases hi : is[k]? with
    | none => rw [hi] at h1; cases h1
    | some i => rw [hi] at h1; exact ⟨i, rfl, Option.some.inj h1⟩
  intro k q hkq
  by_cases hin : k ∈ is
  · obtain ⟨j, hj⟩ := List.getElem?_of_mem hin
    have hjl : j < wc.length := by rw [← hlen]; exact (List.getElem?_eq_some_iff.mp hj).1
    obtain ⟨i, h1, h2⟩ := at' j wc[j] (List.getElem?_eq_getElem hjl)
    rw [hj] at h1
    cases h1
    rw [kPlug_in is wc' w j k hn hj (List.getElem?_eq_some_iff.mp h2).1 (by rw [hlen, hl])] at hkq
    exact hP1 j q hkq
  · rw [kPlug_out is wc' w k hin] at hkq
    refine (hP k q hkq).kept (hk q.1 (hP k q hkq).lt (fun h => ?_))
    rcases h with ⟨j, e, h⟩ | h
    · obtain ⟨i, h1, h2⟩ := at' j (q.1, e) h
      have := hD.1 k i q (q.1, e) hkq h2 rfl
      subst this
      exact hin (List.mem_of_getElem? h1)
    · exact absurd (hP k q hkq).lt (by omega)

section
variable {l : Launch} {D : va_G} {tA : Nat → ClassId} {G : kCx} {cc : ByteArray} {nL : Nat} {own : String} {fr lo n k : Nat} {w : va_W} {lv : List (Nat × Value)} {pc : Nat} {st : List Value}
theorem j_iconst (X : kX D tA G cc nL own fr lo) {i : Int} {v : Int32} (hdg : decode cc pc = .ok (.iconst i, 1)) (hv : Int32.ofInt i = v) (kk : J l D G n k w lv (pc + 1) (.int v :: st)) : J l D G n k w lv pc st :=
  fun H locs ls hP hD hS hl => lv_iconst X.1 X.2.1 hdg hv (kk H locs ls hP hD hS hl)
theorem j_bipush (X : kX D tA G cc nL own fr lo) {i : Int} {v : Int32} (hdg : decode cc pc = .ok (.bipush i, 2)) (hv : (Int8.ofInt i).toInt32 = v) (kk : J l D G n k w lv (pc + 2) (.int v :: st)) : J l D G n k w lv pc st :=
  fun H locs ls hP hD hS hl => lv_bipush X.1 X.2.1 hdg hv (kk H locs ls hP hD hS hl)
theorem j_sipush (X : kX D tA G cc nL own fr lo) {i : Int} {v : Int32} (hdg : decode cc pc = .ok (.sipush i, 3)) (hv : (Int16.ofInt i).toInt32 = v) (kk : J l D G n k w lv (pc + 3) (.int v :: st)) : J l D G n k w lv pc st :=
  fun H locs ls hP hD hS hl => lv_sipush X.1 X.2.1 hdg hv (kk H locs ls hP hD hS hl)
theorem j_iload_n (X : kX D tA G cc nL own fr lo) {kk0 : Fin 4} {i : Nat} {x : Int32} (hdg : decode cc pc = .ok (.iload_n kk0, 1)) (hi : (kk0 : Nat) = i) {q : Nat} (hk : lv[q]? = some (i, .int x)) (kk : J l D G n k w lv (pc + 1) (.int x :: st)) : J l D G n k w lv pc st :=
  fun H locs ls hP hD hS hl => lv_iload_n X.1 X.2.1 hdg hi (lv_at hl q hk) (kk H locs ls hP hD hS hl)
theorem j_iload (X : kX D tA G cc nL own fr lo) {i : Nat} {x : Int32} (hdg : decode cc pc = .ok (.iload i, 2)) {q : Nat} (hk : lv[q]? = some (i, .int x)) (kk : J l D G n k w lv (pc + 2) (.int x :: st)) : J l D G n k w lv pc st :=
  fun H locs ls hP hD hS hl => lv_iload X.1 X.2.1 hdg (lv_at hl q hk) (kk H locs ls hP hD hS hl)
theorem j_aload_n (X : kX D tA G cc nL own fr lo) {kk0 : Fin 4} {i : Nat} {x : Nat} (hdg : decode cc pc = .ok (.aload_n kk0, 1)) (hi : (kk0 : Nat) = i) {q : Nat} (hk : lv[q]? = some (i, .ref x)) (kk : J l D G n k w lv (pc + 1) (.ref x :: st)) : J l D G n k w lv pc st :=
  fun H locs ls hP hD hS hl => lv_aload_n X.1 X.2.1 hdg hi (lv_at hl q hk) (kk H locs ls hP hD hS hl)
theorem j_aload (X : kX D tA G cc nL own fr lo) {i : Nat} {x : Nat} (hdg : decode cc pc = .ok (.aload i, 2)) {q : Nat} (hk : lv[q]? = some (i, .ref x)) (kk : J l D G n k w lv (pc + 2) (.ref x :: st)) : J l D G n k w lv pc st :=
  fun H locs ls hP hD hS hl => lv_aload X.1 X.2.1 hdg (lv_at hl q hk) (kk H locs ls hP hD hS hl)
theorem j_istore_n (X : kX D tA G cc nL own fr lo) {kk0 : Fin 4} {i : Nat} {x : Int32} {lv' : List (Nat × Value)} (hdg : decode cc pc = .ok (.istore_n kk0, 1)) (hi : (kk0 : Nat) = i) (hn : i < nL) (hl' : (i, Value.int x) :: lv.filter (fun q => !(q.1 == i) && !(q.1 + 1 == i && q.2.category == 2)) = lv') (kk : J l D G n k w lv' (pc + 1) st) : J l D G n k w lv pc (.int x :: st) :=
  fun H locs ls hP hD hS hl => lv_istore_n X.1 X.2.1 hdg hi hl (by rw [X.2.2.1]; exact hn) hl' (fun ls hl => kk H locs ls hP hD hS hl)
theorem j_istore (X : kX D tA G cc nL own fr lo) {i : Nat} {x : Int32} {lv' : List (Nat × Value)} (hdg : decode cc pc = .ok (.istore i, 2)) (hn : i < nL) (hl' : (i, Value.int x) :: lv.filter (fun q => !(q.1 == i) && !(q.1 + 1 == i && q.2.category == 2)) = lv') (kk : J l D G n k w lv' (pc + 2) st) : J l D G n k w lv pc (.int x :: st) :=
  fun H locs ls hP hD hS hl => lv_istore X.1 X.2.1 hdg hl (by rw [X.2.2.1]; exact hn) hl' (fun ls hl => kk H locs ls hP hD hS hl)
theorem j_astore_n (X : kX D tA G cc nL own fr lo) {kk0 : Fin 4} {i : Nat} {x : Nat} {lv' : List (Nat × Value)} (hdg : decode cc pc = .ok (.astore_n kk0, 1)) (hi : (kk0 : Nat) = i) (hn : i < nL) (hl' : (i, Value.ref x) :: lv.filter (fun q => !(q.1 == i) && !(q.1 + 1 == i && q.2.category == 2)) = lv') (kk : J l D G n k w lv' (pc + 1) st) : J l D G n k w lv pc (.ref x :: st) :=
  fun H locs ls hP hD hS hl => lv_astore_n X.1 X.2.1 hdg hi hl (by rw [X.2.2.1]; exact hn) hl' (fun ls hl => kk H locs ls hP hD hS hl)
theorem j_astore (X : kX D tA G cc nL own fr lo) {i : Nat} {x : Nat} {lv' : List (Nat × Value)} (hdg : decode cc pc = .ok (.astore i, 2)) (hn : i < nL) (hl' : (i, Value.ref x) :: lv.filter (fun q => !(q.1 == i) && !(q.1 + 1 == i && q.2.category == 2)) = lv') (kk : J l D G n k w lv' (pc + 2) st) : J l D G n k w lv pc (.ref x :: st) :=
  fun H locs ls hP hD hS hl => lv_astore X.1 X.2.1 hdg hl (by rw [X.2.2.1]; exact hn) hl' (fun ls hl => kk H locs ls hP hD hS hl)
theorem j_iinc (X : kX D tA G cc nL own fr lo) {i : Nat} {j : Int} {x v : Int32} {lv' : List (Nat × Value)} (hdg : decode cc pc = .ok (.iinc i j, 3)) {q : Nat} (hk : lv[q]? = some (i, .int x)) (hv : x + Int32.ofInt j = v) (hn : i < nL) (hl' : (i, Value.int v) :: lv.filter (fun q => !(q.1 == i) && !(q.1 + 1 == i && q.2.category == 2)) = lv') (kk : J l D G n k w lv' (pc + 3) st) : J l D G n k w lv pc st :=
  fun H locs ls hP hD hS hl => lv_iinc X.1 X.2.1 hdg hl hk hv (by rw [X.2.2.1]; exact hn) hl' (fun ls hl => kk H locs ls hP hD hS hl)
theorem j_lv (X : kX D tA G cc nL own fr lo) (ks : List Nat) {lv' : List (Nat × Value)} (hl' : lv_pick lv ks = lv') (kk : J l D G n k w lv' pc st) : J l D G n k w lv pc st :=
  fun H locs ls hP hD hS hl => kk H locs ls hP hD hS (lv_sub hl ks hl')
theorem j_iadd (X : kX D tA G cc nL own fr lo) {x y v : Int32} (hdg : decode cc pc = .ok (.iadd, 1)) (hv : x + y = v) (kk : J l D G n k w lv (pc + 1) (.int v :: st)) : J l D G n k w lv pc (.int y :: .int x :: st) :=
  fun H locs ls hP hD hS hl => lv_iadd X.1 X.2.1 hdg (by rw [hv]; exact kk H locs ls hP hD hS hl)
theorem j_isub (X : kX D tA G cc nL own fr lo) {x y v : Int32} (hdg : decode cc pc = .ok (.isub, 1)) (hv : x - y = v) (kk : J l D G n k w lv (pc + 1) (.int v :: st)) : J l D G n k w lv pc (.int y :: .int x :: st) :=
  fun H locs ls hP hD hS hl => lv_isub X.1 X.2.1 hdg (by rw [hv]; exact kk H locs ls hP hD hS hl)
theorem j_imul (X : kX D tA G cc nL own fr lo) {x y v : Int32} (hdg : decode cc pc = .ok (.imul, 1)) (hv : x * y = v) (kk : J l D G n k w lv (pc + 1) (.int v :: st)) : J l D G n k w lv pc (.int y :: .int x :: st) :=
  fun H locs ls hP hD hS hl => lv_imul X.1 X.2.1 hdg (by rw [hv]; exact kk H locs ls hP hD hS hl)
theorem j_idiv (X : kX D tA G cc nL own fr lo) {x y v : Int32} (hdg : decode cc pc = .ok (.idiv, 1)) (hne : ¬ y = 0) (hv : x / y = v) (kk : J l D G n k w lv (pc + 1) (.int v :: st)) : J l D G n k w lv pc (.int y :: .int x :: st) :=
  fun H locs ls hP hD hS hl => lv_idiv X.1 X.2.1 hdg hne (by rw [hv]; exact kk H locs ls hP hD hS hl)
theorem j_irem (X : kX D tA G cc nL own fr lo) {x y v : Int32} (hdg : decode cc pc = .ok (.irem, 1)) (hne : ¬ y = 0) (hv : x - x / y * y = v) (kk : J l D G n k w lv (pc + 1) (.int v :: st)) : J l D G n k w lv pc (.int y :: .int x :: st) :=
  fun H locs ls hP hD hS hl => lv_irem X.1 X.2.1 hdg hne (by rw [hv]; exact kk H locs ls hP hD hS hl)
theorem j_ineg (X : kX D tA G cc nL own fr lo) {x v : Int32} (hdg : decode cc pc = .ok (.ineg, 1)) (hv : -x = v) (kk : J l D G n k w lv (pc + 1) (.int v :: st)) : J l D G n k w lv pc (.int x :: st) :=
  by
  subst hv
  exact fun H locs ls hP hD hS hl => lv_ineg X.1 X.2.1 hdg (kk H locs ls hP hD hS hl)
theorem j_iand (X : kX D tA G cc nL own fr lo) {x y v : Int32} (hdg : decode cc pc = .ok (.iand, 1)) (hv : x &&& y = v) (kk : J l D G n k w lv (pc + 1) (.int v :: st)) : J l D G n k w lv pc (.int y :: .int x :: st) :=
  fun H locs ls hP hD hS hl => lv_iand X.1 X.2.1 hdg (by rw [hv]; exact kk H locs ls hP hD hS hl)
theorem j_i2c (X : kX D tA G cc nL own fr lo) {x v : Int32} (hdg : decode cc pc = .ok (.i2c, 1)) (hv : (x.toUInt32 % 65536).toInt32 = v) (kk : J l D G n k w lv (pc + 1) (.int v :: st)) : J l D G n k w lv pc (.int x :: st) :=
  fun H locs ls hP hD hS hl => lv_i2c X.1 X.2.1 hdg hv (kk H locs ls hP hD hS hl)
theorem j_dup (X : kX D tA G cc nL own fr lo) {va : Value} (hdg : decode cc pc = .ok (.dup, 1)) (hva : va.category = 1) (kk : J l D G n k w lv (pc + 1) (va :: va :: st)) : J l D G n k w lv pc (va :: st) :=
  fun H locs ls hP hD hS hl => lv_dup X.1 X.2.1 hdg hva (kk H locs ls hP hD hS hl)
theorem j_pop (X : kX D tA G cc nL own fr lo) {va : Value} (hdg : decode cc pc = .ok (.pop, 1)) (hva : va.category = 1) (kk : J l D G n k w lv (pc + 1) st) : J l D G n k w lv pc (va :: st) :=
  fun H locs ls hP hD hS hl => lv_pop X.1 X.2.1 hdg hva (kk H locs ls hP hD hS hl)
theorem j_dup2 (X : kX D tA G cc nL own fr lo) {va vb : Value} (hdg : decode cc pc = .ok (.dup2, 1)) (hva : va.category = 1) (hvb : vb.category = 1) (kk : J l D G n k w lv (pc + 1) (va :: vb :: va :: vb :: st)) : J l D G n k w lv pc (va :: vb :: st) :=
  fun H locs ls hP hD hS hl => lv_dup2_11 X.1 X.2.1 hdg hva hvb (kk H locs ls hP hD hS hl)
theorem j_if_eq (X : kX D tA G cc nL own fr lo) {x : Int32} {off : Int} {tgt : Nat} {P : Prop} (hdg : decode cc pc = .ok (.ifCond .eq off, 3)) (ht : (pc : Int) + off = (tgt : Int)) (hP : (x = 0) ↔ P) (k1 : P → J l D G n k w lv tgt st) (k2 : ¬ P → J l D G n k w lv (pc + 3) st) : J l D G n k w lv pc (.int x :: st) :=
  fun H locs ls hP1 hD hS hl => lv_if_eq X.1 X.2.1 hdg ht (fun h => k1 (hP.mp h) H locs ls hP1 hD hS hl) (fun h => k2 (fun q => h (hP.mpr q)) H locs ls hP1 hD hS hl)
theorem j_if_eq_t (X : kX D tA G cc nL own fr lo) {x : Int32} {off : Int} {tgt : Nat} (hdg : decode cc pc = .ok (.ifCond .eq off, 3)) (ht : (pc : Int) + off = (tgt : Int)) (hP : x = 0) (k1 : J l D G n k w lv tgt st) : J l D G n k w lv pc (.int x :: st) :=
  fun H locs ls hP1 hD hS hl => lv_if_eq X.1 X.2.1 hdg ht (fun _ => k1 H locs ls hP1 hD hS hl) (fun h => absurd hP h)
theorem j_if_eq_f (X : kX D tA G cc nL own fr lo) {x : Int32} {off : Int} {tgt : Nat} (hdg : decode cc pc = .ok (.ifCond .eq off, 3)) (ht : (pc : Int) + off = (tgt : Int)) (hP : ¬ (x = 0)) (k2 : J l D G n k w lv (pc + 3) st) : J l D G n k w lv pc (.int x :: st) :=
  fun H locs ls hP1 hD hS hl => lv_if_eq X.1 X.2.1 hdg ht (fun h => absurd h hP) (fun _ => k2 H locs ls hP1 hD hS hl)
theorem j_icmp_eq (X : kX D tA G cc nL own fr lo) {x y : Int32} {off : Int} {tgt : Nat} {P : Prop} (hdg : decode cc pc = .ok (.if_icmp .eq off, 3)) (ht : (pc : Int) + off = (tgt : Int)) (hP : (x = y) ↔ P) (k1 : P → J l D G n k w lv tgt st) (k2 : ¬ P → J l D G n k w lv (pc + 3) st) : J l D G n k w lv pc (.int y :: .int x :: st) :=
  fun H locs ls hP1 hD hS hl => lv_icmp_eq X.1 X.2.1 hdg ht (fun h => k1 (hP.mp h) H locs ls hP1 hD hS hl) (fun h => k2 (fun q => h (hP.mpr q)) H locs ls hP1 hD hS hl)
theorem j_icmp_eq_t (X : kX D tA G cc nL own fr lo) {x y : Int32} {off : Int} {tgt : Nat} (hdg : decode cc pc = .ok (.if_icmp .eq off, 3)) (ht : (pc : Int) + off = (tgt : Int)) (hP : x = y) (k1 : J l D G n k w lv tgt st) : J l D G n k w lv pc (.int y :: .int x :: st) :=
  fun H locs ls hP1 hD hS hl => lv_icmp_eq X.1 X.2.1 hdg ht (fun _ => k1 H locs ls hP1 hD hS hl) (fun h => absurd hP h)
theorem j_icmp_eq_f (X : kX D tA G cc nL own fr lo) {x y : Int32} {off : Int} {tgt : Nat} (hdg : decode cc pc = .ok (.if_icmp .eq off, 3)) (ht : (pc : Int) + off = (tgt : Int)) (hP : ¬ (x = y)) (k2 : J l D G n k w lv (pc + 3) st) : J l D G n k w lv pc (.int y :: .int x :: st) :=
  fun H locs ls hP1 hD hS hl => lv_icmp_eq X.1 X.2.1 hdg ht (fun h => absurd h hP) (fun _ => k2 H locs ls hP1 hD hS hl)
theorem j_if_ne (X : kX D tA G cc nL own fr lo) {x : Int32} {off : Int} {tgt : Nat} {P : Prop} (hdg : decode cc pc = .ok (.ifCond .ne off, 3)) (ht : (pc : Int) + off = (tgt : Int)) (hP : (¬ x = 0) ↔ P) (k1 : P → J l D G n k w lv tgt st) (k2 : ¬ P → J l D G n k w lv (pc + 3) st) : J l D G n k w lv pc (.int x :: st) :=
  fun H locs ls hP1 hD hS hl => lv_if_ne X.1 X.2.1 hdg ht (fun h => k1 (hP.mp h) H locs ls hP1 hD hS hl) (fun h => k2 (fun q => hP.mpr q h) H locs ls hP1 hD hS hl)
theorem j_if_ne_t (X : kX D tA G cc nL own fr lo) {x : Int32} {off : Int} {tgt : Nat} (hdg : decode cc pc = .ok (.ifCond .ne off, 3)) (ht : (pc : Int) + off = (tgt : Int)) (hP : ¬ x = 0) (k1 : J l D G n k w lv tgt st) : J l D G n k w lv pc (.int x :: st) :=
  fun H locs ls hP1 hD hS hl => lv_if_ne X.1 X.2.1 hdg ht (fun _ => k1 H locs ls hP1 hD hS hl) (fun h => absurd h hP)
theorem j_if_ne_f (X : kX D tA G cc nL own fr lo) {x : Int32} {off : Int} {tgt : Nat} (hdg : decode cc pc = .ok (.ifCond .ne off, 3)) (ht : (pc : Int) + off = (tgt : Int)) (hP : ¬ (¬ x = 0)) (k2 : J l D G n k w lv (pc + 3) st) : J l D G n k w lv pc (.int x :: st) :=
  fun H locs ls hP1 hD hS hl => lv_if_ne X.1 X.2.1 hdg ht (fun h => absurd h hP) (fun _ => k2 H locs ls hP1 hD hS hl)
theorem j_icmp_ne (X : kX D tA G cc nL own fr lo) {x y : Int32} {off : Int} {tgt : Nat} {P : Prop} (hdg : decode cc pc = .ok (.if_icmp .ne off, 3)) (ht : (pc : Int) + off = (tgt : Int)) (hP : (¬ x = y) ↔ P) (k1 : P → J l D G n k w lv tgt st) (k2 : ¬ P → J l D G n k w lv (pc + 3) st) : J l D G n k w lv pc (.int y :: .int x :: st) :=
  fun H locs ls hP1 hD hS hl => lv_icmp_ne X.1 X.2.1 hdg ht (fun h => k1 (hP.mp h) H locs ls hP1 hD hS hl) (fun h => k2 (fun q => hP.mpr q h) H locs ls hP1 hD hS hl)
theorem j_icmp_ne_t (X : kX D tA G cc nL own fr lo) {x y : Int32} {off : Int} {tgt : Nat} (hdg : decode cc pc = .ok (.if_icmp .ne off, 3)) (ht : (pc : Int) + off = (tgt : Int)) (hP : ¬ x = y) (k1 : J l D G n k w lv tgt st) : J l D G n k w lv pc (.int y :: .int x :: st) :=
  fun H locs ls hP1 hD hS hl => lv_icmp_ne X.1 X.2.1 hdg ht (fun _ => k1 H locs ls hP1 hD hS hl) (fun h => absurd h hP)
theorem j_icmp_ne_f (X : kX D tA G cc nL own fr lo) {x y : Int32} {off : Int} {tgt : Nat} (hdg : decode cc pc = .ok (.if_icmp .ne off, 3)) (ht : (pc : Int) + off = (tgt : Int)) (hP : ¬ (¬ x = y)) (k2 : J l D G n k w lv (pc + 3) st) : J l D G n k w lv pc (.int y :: .int x :: st) :=
  fun H locs ls hP1 hD hS hl => lv_icmp_ne X.1 X.2.1 hdg ht (fun h => absurd h hP) (fun _ => k2 H locs ls hP1 hD hS hl)
theorem j_if_lt (X : kX D tA G cc nL own fr lo) {x : Int32} {off : Int} {tgt : Nat} {P : Prop} (hdg : decode cc pc = .ok (.ifCond .lt off, 3)) (ht : (pc : Int) + off = (tgt : Int)) (hP : (x < 0) ↔ P) (k1 : P → J l D G n k w lv tgt st) (k2 : ¬ P → J l D G n k w lv (pc + 3) st) : J l D G n k w lv pc (.int x :: st) :=
  fun H locs ls hP1 hD hS hl => lv_if_lt X.1 X.2.1 hdg ht (fun h => k1 (hP.mp h) H locs ls hP1 hD hS hl) (fun h => k2 (fun q => h (hP.mpr q)) H locs ls hP1 hD hS hl)
theorem j_if_lt_t (X : kX D tA G cc nL own fr lo) {x : Int32} {off : Int} {tgt : Nat} (hdg : decode cc pc = .ok (.ifCond .lt off, 3)) (ht : (pc : Int) + off = (tgt : Int)) (hP : x < 0) (k1 : J l D G n k w lv tgt st) : J l D G n k w lv pc (.int x :: st) :=
  fun H locs ls hP1 hD hS hl => lv_if_lt X.1 X.2.1 hdg ht (fun _ => k1 H locs ls hP1 hD hS hl) (fun h => absurd hP h)
theorem j_if_lt_f (X : kX D tA G cc nL own fr lo) {x : Int32} {off : Int} {tgt : Nat} (hdg : decode cc pc = .ok (.ifCond .lt off, 3)) (ht : (pc : Int) + off = (tgt : Int)) (hP : ¬ (x < 0)) (k2 : J l D G n k w lv (pc + 3) st) : J l D G n k w lv pc (.int x :: st) :=
  fun H locs ls hP1 hD hS hl => lv_if_lt X.1 X.2.1 hdg ht (fun h => absurd h hP) (fun _ => k2 H locs ls hP1 hD hS hl)
theorem j_icmp_lt (X : kX D tA G cc nL own fr lo) {x y : Int32} {off : Int} {tgt : Nat} {P : Prop} (hdg : decode cc pc = .ok (.if_icmp .lt off, 3)) (ht : (pc : Int) + off = (tgt : Int)) (hP : (x < y) ↔ P) (k1 : P → J l D G n k w lv tgt st) (k2 : ¬ P → J l D G n k w lv (pc + 3) st) : J l D G n k w lv pc (.int y :: .int x :: st) :=
  fun H locs ls hP1 hD hS hl => lv_icmp_lt X.1 X.2.1 hdg ht (fun h => k1 (hP.mp h) H locs ls hP1 hD hS hl) (fun h => k2 (fun q => h (hP.mpr q)) H locs ls hP1 hD hS hl)
theorem j_icmp_lt_t (X : kX D tA G cc nL own fr lo) {x y : Int32} {off : Int} {tgt : Nat} (hdg : decode cc pc = .ok (.if_icmp .lt off, 3)) (ht : (pc : Int) + off = (tgt : Int)) (hP : x < y) (k1 : J l D G n k w lv tgt st) : J l D G n k w lv pc (.int y :: .int x :: st) :=
  fun H locs ls hP1 hD hS hl => lv_icmp_lt X.1 X.2.1 hdg ht (fun _ => k1 H locs ls hP1 hD hS hl) (fun h => absurd hP h)
theorem j_icmp_lt_f (X : kX D tA G cc nL own fr lo) {x y : Int32} {off : Int} {tgt : Nat} (hdg : decode cc pc = .ok (.if_icmp .lt off, 3)) (ht : (pc : Int) + off = (tgt : Int)) (hP : ¬ (x < y)) (k2 : J l D G n k w lv (pc + 3) st) : J l D G n k w lv pc (.int y :: .int x :: st) :=
  fun H locs ls hP1 hD hS hl => lv_icmp_lt X.1 X.2.1 hdg ht (fun h => absurd h hP) (fun _ => k2 H locs ls hP1 hD hS hl)
theorem j_if_ge (X : kX D tA G cc nL own fr lo) {x : Int32} {off : Int} {tgt : Nat} {P : Prop} (hdg : decode cc pc = .ok (.ifCond .ge off, 3)) (ht : (pc : Int) + off = (tgt : Int)) (hP : (0 ≤ x) ↔ P) (k1 : P → J l D G n k w lv tgt st) (k2 : ¬ P → J l D G n k w lv (pc + 3) st) : J l D G n k w lv pc (.int x :: st) :=
  fun H locs ls hP1 hD hS hl => lv_if_ge X.1 X.2.1 hdg ht (fun h => k1 (hP.mp h) H locs ls hP1 hD hS hl) (fun h => k2 (fun q => h (hP.mpr q)) H locs ls hP1 hD hS hl)
theorem j_if_ge_t (X : kX D tA G cc nL own fr lo) {x : Int32} {off : Int} {tgt : Nat} (hdg : decode cc pc = .ok (.ifCond .ge off, 3)) (ht : (pc : Int) + off = (tgt : Int)) (hP : 0 ≤ x) (k1 : J l D G n k w lv tgt st) : J l D G n k w lv pc (.int x :: st) :=
  fun H locs ls hP1 hD hS hl => lv_if_ge X.1 X.2.1 hdg ht (fun _ => k1 H locs ls hP1 hD hS hl) (fun h => absurd hP h)
theorem j_if_ge_f (X : kX D tA G cc nL own fr lo) {x : Int32} {off : Int} {tgt : Nat} (hdg : decode cc pc = .ok (.ifCond .ge off, 3)) (ht : (pc : Int) + off = (tgt : Int)) (hP : ¬ (0 ≤ x)) (k2 : J l D G n k w lv (pc + 3) st) : J l D G n k w lv pc (.int x :: st) :=
  fun H locs ls hP1 hD hS hl => lv_if_ge X.1 X.2.1 hdg ht (fun h => absurd h hP) (fun _ => k2 H locs ls hP1 hD hS hl)
theorem j_icmp_ge (X : kX D tA G cc nL own fr lo) {x y : Int32} {off : Int} {tgt : Nat} {P : Prop} (hdg : decode cc pc = .ok (.if_icmp .ge off, 3)) (ht : (pc : Int) + off = (tgt : Int)) (hP : (y ≤ x) ↔ P) (k1 : P → J l D G n k w lv tgt st) (k2 : ¬ P → J l D G n k w lv (pc + 3) st) : J l D G n k w lv pc (.int y :: .int x :: st) :=
  fun H locs ls hP1 hD hS hl => lv_icmp_ge X.1 X.2.1 hdg ht (fun h => k1 (hP.mp h) H locs ls hP1 hD hS hl) (fun h => k2 (fun q => h (hP.mpr q)) H locs ls hP1 hD hS hl)
theorem j_icmp_ge_t (X : kX D tA G cc nL own fr lo) {x y : Int32} {off : Int} {tgt : Nat} (hdg : decode cc pc = .ok (.if_icmp .ge off, 3)) (ht : (pc : Int) + off = (tgt : Int)) (hP : y ≤ x) (k1 : J l D G n k w lv tgt st) : J l D G n k w lv pc (.int y :: .int x :: st) :=
  fun H locs ls hP1 hD hS hl => lv_icmp_ge X.1 X.2.1 hdg ht (fun _ => k1 H locs ls hP1 hD hS hl) (fun h => absurd hP h)
theorem j_icmp_ge_f (X : kX D tA G cc nL own fr lo) {x y : Int32} {off : Int} {tgt : Nat} (hdg : decode cc pc = .ok (.if_icmp .ge off, 3)) (ht : (pc : Int) + off = (tgt : Int)) (hP : ¬ (y ≤ x)) (k2 : J l D G n k w lv (pc + 3) st) : J l D G n k w lv pc (.int y :: .int x :: st) :=
  fun H locs ls hP1 hD hS hl => lv_icmp_ge X.1 X.2.1 hdg ht (fun h => absurd h hP) (fun _ => k2 H locs ls hP1 hD hS hl)
theorem j_if_gt (X : kX D tA G cc nL own fr lo) {x : Int32} {off : Int} {tgt : Nat} {P : Prop} (hdg : decode cc pc = .ok (.ifCond .gt off, 3)) (ht : (pc : Int) + off = (tgt : Int)) (hP : (0 < x) ↔ P) (k1 : P → J l D G n k w lv tgt st) (k2 : ¬ P → J l D G n k w lv (pc + 3) st) : J l D G n k w lv pc (.int x :: st) :=
  fun H locs ls hP1 hD hS hl => lv_if_gt X.1 X.2.1 hdg ht (fun h => k1 (hP.mp h) H locs ls hP1 hD hS hl) (fun h => k2 (fun q => h (hP.mpr q)) H locs ls hP1 hD hS hl)
theorem j_if_gt_t (X : kX D tA G cc nL own fr lo) {x : Int32} {off : Int} {tgt : Nat} (hdg : decode cc pc = .ok (.ifCond .gt off, 3)) (ht : (pc : Int) + off = (tgt : Int)) (hP : 0 < x) (k1 : J l D G n k w lv tgt st) : J l D G n k w lv pc (.int x :: st) :=
  fun H locs ls hP1 hD hS hl => lv_if_gt X.1 X.2.1 hdg ht (fun _ => k1 H locs ls hP1 hD hS hl) (fun h => absurd hP h)
theorem j_if_gt_f (X : kX D tA G cc nL own fr lo) {x : Int32} {off : Int} {tgt : Nat} (hdg : decode cc pc = .ok (.ifCond .gt off, 3)) (ht : (pc : Int) + off = (tgt : Int)) (hP : ¬ (0 < x)) (k2 : J l D G n k w lv (pc + 3) st) : J l D G n k w lv pc (.int x :: st) :=
  fun H locs ls hP1 hD hS hl => lv_if_gt X.1 X.2.1 hdg ht (fun h => absurd h hP) (fun _ => k2 H locs ls hP1 hD hS hl)
theorem j_icmp_gt (X : kX D tA G cc nL own fr lo) {x y : Int32} {off : Int} {tgt : Nat} {P : Prop} (hdg : decode cc pc = .ok (.if_icmp .gt off, 3)) (ht : (pc : Int) + off = (tgt : Int)) (hP : (y < x) ↔ P) (k1 : P → J l D G n k w lv tgt st) (k2 : ¬ P → J l D G n k w lv (pc + 3) st) : J l D G n k w lv pc (.int y :: .int x :: st) :=
  fun H locs ls hP1 hD hS hl => lv_icmp_gt X.1 X.2.1 hdg ht (fun h => k1 (hP.mp h) H locs ls hP1 hD hS hl) (fun h => k2 (fun q => h (hP.mpr q)) H locs ls hP1 hD hS hl)
theorem j_icmp_gt_t (X : kX D tA G cc nL own fr lo) {x y : Int32} {off : Int} {tgt : Nat} (hdg : decode cc pc = .ok (.if_icmp .gt off, 3)) (ht : (pc : Int) + off = (tgt : Int)) (hP : y < x) (k1 : J l D G n k w lv tgt st) : J l D G n k w lv pc (.int y :: .int x :: st) :=
  fun H locs ls hP1 hD hS hl => lv_icmp_gt X.1 X.2.1 hdg ht (fun _ => k1 H locs ls hP1 hD hS hl) (fun h => absurd hP h)
theorem j_icmp_gt_f (X : kX D tA G cc nL own fr lo) {x y : Int32} {off : Int} {tgt : Nat} (hdg : decode cc pc = .ok (.if_icmp .gt off, 3)) (ht : (pc : Int) + off = (tgt : Int)) (hP : ¬ (y < x)) (k2 : J l D G n k w lv (pc + 3) st) : J l D G n k w lv pc (.int y :: .int x :: st) :=
  fun H locs ls hP1 hD hS hl => lv_icmp_gt X.1 X.2.1 hdg ht (fun h => absurd h hP) (fun _ => k2 H locs ls hP1 hD hS hl)
theorem j_if_le (X : kX D tA G cc nL own fr lo) {x : Int32} {off : Int} {tgt : Nat} {P : Prop} (hdg : decode cc pc = .ok (.ifCond .le off, 3)) (ht : (pc : Int) + off = (tgt : Int)) (hP : (x ≤ 0) ↔ P) (k1 : P → J l D G n k w lv tgt st) (k2 : ¬ P → J l D G n k w lv (pc + 3) st) : J l D G n k w lv pc (.int x :: st) :=
  fun H locs ls hP1 hD hS hl => lv_if_le X.1 X.2.1 hdg ht (fun h => k1 (hP.mp h) H locs ls hP1 hD hS hl) (fun h => k2 (fun q => h (hP.mpr q)) H locs ls hP1 hD hS hl)
theorem j_if_le_t (X : kX D tA G cc nL own fr lo) {x : Int32} {off : Int} {tgt : Nat} (hdg : decode cc pc = .ok (.ifCond .le off, 3)) (ht : (pc : Int) + off = (tgt : Int)) (hP : x ≤ 0) (k1 : J l D G n k w lv tgt st) : J l D G n k w lv pc (.int x :: st) :=
  fun H locs ls hP1 hD hS hl => lv_if_le X.1 X.2.1 hdg ht (fun _ => k1 H locs ls hP1 hD hS hl) (fun h => absurd hP h)
theorem j_if_le_f (X : kX D tA G cc nL own fr lo) {x : Int32} {off : Int} {tgt : Nat} (hdg : decode cc pc = .ok (.ifCond .le off, 3)) (ht : (pc : Int) + off = (tgt : Int)) (hP : ¬ (x ≤ 0)) (k2 : J l D G n k w lv (pc + 3) st) : J l D G n k w lv pc (.int x :: st) :=
  fun H locs ls hP1 hD hS hl => lv_if_le X.1 X.2.1 hdg ht (fun h => absurd h hP) (fun _ => k2 H locs ls hP1 hD hS hl)
theorem j_icmp_le (X : kX D tA G cc nL own fr lo) {x y : Int32} {off : Int} {tgt : Nat} {P : Prop} (hdg : decode cc pc = .ok (.if_icmp .le off, 3)) (ht : (pc : Int) + off = (tgt : Int)) (hP : (x ≤ y) ↔ P) (k1 : P → J l D G n k w lv tgt st) (k2 : ¬ P → J l D G n k w lv (pc + 3) st) : J l D G n k w lv pc (.int y :: .int x :: st) :=
  fun H locs ls hP1 hD hS hl => lv_icmp_le X.1 X.2.1 hdg ht (fun h => k1 (hP.mp h) H locs ls hP1 hD hS hl) (fun h => k2 (fun q => h (hP.mpr q)) H locs ls hP1 hD hS hl)
theorem j_icmp_le_t (X : kX D tA G cc nL own fr lo) {x y : Int32} {off : Int} {tgt : Nat} (hdg : decode cc pc = .ok (.if_icmp .le off, 3)) (ht : (pc : Int) + off = (tgt : Int)) (hP : x ≤ y) (k1 : J l D G n k w lv tgt st) : J l D G n k w lv pc (.int y :: .int x :: st) :=
  fun H locs ls hP1 hD hS hl => lv_icmp_le X.1 X.2.1 hdg ht (fun _ => k1 H locs ls hP1 hD hS hl) (fun h => absurd hP h)
theorem j_icmp_le_f (X : kX D tA G cc nL own fr lo) {x y : Int32} {off : Int} {tgt : Nat} (hdg : decode cc pc = .ok (.if_icmp .le off, 3)) (ht : (pc : Int) + off = (tgt : Int)) (hP : ¬ (x ≤ y)) (k2 : J l D G n k w lv (pc + 3) st) : J l D G n k w lv pc (.int y :: .int x :: st) :=
  fun H locs ls hP1 hD hS hl => lv_icmp_le X.1 X.2.1 hdg ht (fun h => absurd h hP) (fun _ => k2 H locs ls hP1 hD hS hl)
theorem j_goto (X : kX D tA G cc nL own fr lo) {off : Int} {tgt : Nat} (hdg : decode cc pc = .ok (.goto off, 3)) (ht : (pc : Int) + off = (tgt : Int)) (kk : J l D G n k w lv tgt st) : J l D G n k w lv pc st :=
  fun H locs ls hP hD hS hl => lv_goto X.1 X.2.1 hdg ht (kk H locs ls hP hD hS hl)
theorem j_ifnonnull (X : kX D tA G cc nL own fr lo) {x : Nat} {off : Int} {tgt : Nat} (hdg : decode cc pc = .ok (.ifnonnull off, 3)) (ht : (pc : Int) + off = (tgt : Int)) (kk : J l D G n k w lv tgt st) : J l D G n k w lv pc (.ref x :: st) :=
  fun H locs ls hP hD hS hl => lv_ifnonnull X.1 X.2.1 hdg ht (kk H locs ls hP hD hS hl)
theorem j_swOut (X : kX D tA G cc nL own fr lo) {dflt lo9 hi : Int} {offs : Array Int} {len : Nat} {x : Int32} {tgt : Nat} (hdg : decode cc pc = .ok (.tableswitch dflt lo9 hi offs, len)) (h : x.toInt < lo9 ∨ hi < x.toInt) (ht : (pc : Int) + dflt = (tgt : Int)) (kk : J l D G n k w lv tgt st) : J l D G n k w lv pc (.int x :: st) :=
  fun H locs ls hP hD hS hl => lv_tableOut X.1 X.2.1 hdg h ht (kk H locs ls hP hD hS hl)
theorem j_swIn (X : kX D tA G cc nL own fr lo) {dflt lo9 hi : Int} {offs : Array Int} {len : Nat} {x : Int32} {off : Int} {tgt : Nat} (hdg : decode cc pc = .ok (.tableswitch dflt lo9 hi offs, len)) (h1 : ¬ x.toInt < lo9) (h2 : ¬ hi < x.toInt) (ho : offs[(x.toInt - lo9).toNat]? = some off) (ht : (pc : Int) + off = (tgt : Int)) (kk : J l D G n k w lv tgt st) : J l D G n k w lv pc (.int x :: st) :=
  fun H locs ls hP hD hS hl => lv_tableIn X.1 X.2.1 hdg h1 h2 ho ht (kk H locs ls hP hD hS hl)
theorem kT (X : kX D tA G cc nL own fr lo) (t0 : Nat) : va_K D vwCl (kTY tA) (gs G) := X.2.2.2.2.2.1.1
theorem j_get (X : kX D tA G cc nL own fr lo) {C : String} {T : u_T} {N ci index a : Nat} (hin : ∀ w ∈ u_ws C T N, w ∈ kALL) (q0 : Nat) {fs : List Value} (he : w[q0]? = some (a, .inr (ci, fs))) (hc : vwCl[ci]? = some (C, T, N)) (k0 : Nat) (hk : k0 < N) (hlink : Cond.fieldLink own index (T k0).1 (T k0).2.1 (T k0).2.2.1 ∈ kALL) {v : Value} (hv : fs[k0]? = some v) (hdg : decode cc pc = .ok (.getfield index, 3)) (kk : J l D G n k w lv (pc + 3) (v :: st)) : J l D G n k w lv pc (.ref a :: st) :=
  fun H locs ls hP hD hS hl => va_get (D := D) (cl := vwCl) (ws := w) (tys := kTY tA) X.1 X.2.1 X.2.2.2.2.1 hin X.2.2.2.1 X.2.2.2.2.2.1.1 hP q0 he hc k0 hk (X.2.2.2.2.1 _ hlink) (fun _ h => h) hv hdg (kk H locs ls hP hD hS hl)
theorem j_put (X : kX D tA G cc nL own fr lo) {C : String} {T : u_T} {N ci index a : Nat} (hin : ∀ w ∈ u_ws C T N, w ∈ kALL) (ty0 : Nat → FieldType) (hty : ∀ k, k < N → parseFieldDescriptor (T k).2.2.1 = some (ty0 k)) (hnm : ∀ a, a < N → ∀ b, b < N → a ≠ b → (T a).2.1 ≠ (T b).2.1) (q0 : Nat) {fs : List Value} (he : w[q0]? = some (a, .inr (ci, fs))) (hc : vwCl[ci]? = some (C, T, N)) (k0 : Nat) (hk : k0 < N) (hlink : Cond.fieldLink own index (T k0).1 (T k0).2.1 (T k0).2.2.1 ∈ kALL) (hfin : (T k0).2.2.2 = false) {v : Value} (hn : narrow (ty0 k0) v = v) (hfit : fits (ty0 k0) v = true) (hl0 : k0 < fs.length) {w' : va_W} (hw : w.set q0 (a, .inr (ci, fs.set k0 v)) = w') (hdg : decode cc pc = .ok (.putfield index, 3)) (kk : J l D G n k w' lv (pc + 3) st) : J l D G n k w lv pc (v :: .ref a :: st) :=
  fun H locs ls hP hD hS hl => va_put (D := D) (cl := vwCl) (ws := w) (tys := kTY tA) X.1 X.2.1 X.2.2.2.2.1 hin ty0 hty hnm X.2.2.2.1 X.2.2.2.2.2.1.1 hP hD hS q0 he hc k0 hk (X.2.2.2.2.1 _ hlink) (fun _ h => h) hfin (hty k0 hk) hn hfit hl0 hdg (fun H1 locs1 hP1 hD1 hS1 => kk H1 locs1 ls (hw ▸ hP1) (hw ▸ hD1) hS1 hl)
theorem j_iald (X : kX D tA G cc nL own fr lo) (q0 : Nat) {a N i : Nat} {f : Nat → Nat} (he : w[q0]? = some (a, .inl (tA 0, N, .inl (nF f)))) (hi : i < N) (hN : N < 65536) (hdg : decode cc pc = .ok (.iaload, 1)) (kk : J l D G n k w lv (pc + 1) (.int (nI (f i)) :: st)) : J l D G n k w lv pc (.int (nI i) :: .ref a :: st) :=
  fun H locs ls hP hD hS hl => va_iald (D := D) (cl := vwCl) (ws := w) (tys := kTY tA) X.1 X.2.1 X.2.2.2.2.2.1.1 hP q0 0 he rfl (vp_in_nI hi (by omega)) hdg (by rw [nI_clamp (by omega)]; exact kk H locs ls hP hD hS hl)
theorem j_cald (X : kX D tA G cc nL own fr lo) (q0 : Nat) {a N i : Nat} {f : Nat → Nat} (he : w[q0]? = some (a, .inl (tA 1, N, .inl (nF f)))) (hi : i < N) (hN : N < 65536) (hdg : decode cc pc = .ok (.caload, 1)) (kk : J l D G n k w lv (pc + 1) (.int (nI (f i)) :: st)) : J l D G n k w lv pc (.int (nI i) :: .ref a :: st) :=
  fun H locs ls hP hD hS hl => va_cald (D := D) (cl := vwCl) (ws := w) (tys := kTY tA) X.1 X.2.1 X.2.2.2.2.2.1.1 hP q0 1 he rfl (vp_in_nI hi (by omega)) hdg (by rw [nI_clamp (by omega)]; exact kk H locs ls hP hD hS hl)
theorem j_iast (X : kX D tA G cc nL own fr lo) (q0 : Nat) {a N i v : Nat} {f : Nat → Nat} (he : w[q0]? = some (a, .inl (tA 0, N, .inl (nF f)))) (hi : i < N) (hN : N < 65536) {w' : va_W} (hw : w.set q0 (a, .inl (tA 0, N, .inl (nF (va_up f i v)))) = w') (hdg : decode cc pc = .ok (.iastore, 1)) (kk : J l D G n k w' lv (pc + 1) st) : J l D G n k w lv pc (.int (nI v) :: .int (nI i) :: .ref a :: st) :=
  fun H locs ls hP hD hS hl => va_iast (D := D) (cl := vwCl) (ws := w) (tys := kTY tA) X.1 X.2.1 X.2.2.2.2.2.1.1 hP hD hS q0 0 he rfl (vp_in_nI hi (by omega)) hdg (fun H1 locs1 hP1 hD1 hS1 => by
    rw [nI_clamp (by omega), upd_nF, hw] at hP1 hD1
    exact kk H1 locs1 ls hP1 hD1 hS1 hl)
theorem j_alen (X : kX D tA G cc nL own fr lo) (q0 : Nat) (t0 : Nat) {a N : Nat} {cA : ClassId} {ty : FieldType} {x : (Nat → Int32) ⊕ (Nat → Int64) ⊕ (Nat → UInt32) ⊕ (Nat → UInt64) ⊕ (Nat → Option Nat)} (he : w[q0]? = some (a, .inl (cA, N, x))) (ht : (kTY tA)[t0]? = some (cA, ty)) (hdg : decode cc pc = .ok (.arraylength, 1)) (kk : J l D G n k w lv (pc + 1) (.int (nI N) :: st)) : J l D G n k w lv pc (.ref a :: st) :=
  fun H locs ls hP hD hS hl => va_alen (D := D) (cl := vwCl) (ws := w) (tys := kTY tA) X.1 X.2.1 X.2.2.2.2.2.1.1 hP q0 t0 he ht (v := nI N) rfl hdg (kk H locs ls hP hD hS hl)
theorem j_mmax (X : kX D tA G cc nL own fr lo) {index : Nat} {x y v : Int32} (hlink : Cond.methodLink own index Lib.Math.max.name ∈ kALL) (hfr : 1 ≤ fr) (hlo : (st.map fun v => v.category).sum + 13 ≤ lo) (h0 : n ≤ (gR G).cells ∧ k ≤ (gR G).slots) (hv : (if x < y then y else x) = v) (hdg : decode cc pc = .ok (.invokestatic index, 3)) (kk : J l D G n k w lv (pc + 3) (.int v :: st)) : J l D G n k w lv pc (.int y :: .int x :: st) :=
  fun H locs ls hP hD hS hl => va_mmax X.1 X.2.1 hl.1.symm X.2.2.2.1 (X.2.2.2.2.1 _ hlink) (X.2.2.2.2.1 _ wt_max) (X.2.2.2.2.1 _ wi_J9) (X.2.2.2.2.1 _ wc_max) (Nat.le_trans hfr X.2.2.2.2.2.2.2.1) (Nat.le_trans hlo X.2.2.2.2.2.2.2.2) h0.1 h0.2 hdg (by rw [hv]; exact kk H locs ls hP hD hS hl)
theorem j_mmin (X : kX D tA G cc nL own fr lo) {index : Nat} {x y v : Int32} (hlink : Cond.methodLink own index Lib.Math.min.name ∈ kALL) (hfr : 1 ≤ fr) (hlo : (st.map fun v => v.category).sum + 13 ≤ lo) (h0 : n ≤ (gR G).cells ∧ k ≤ (gR G).slots) (hv : (if y < x then y else x) = v) (hdg : decode cc pc = .ok (.invokestatic index, 3)) (kk : J l D G n k w lv (pc + 3) (.int v :: st)) : J l D G n k w lv pc (.int y :: .int x :: st) :=
  fun H locs ls hP hD hS hl => va_mmin X.1 X.2.1 hl.1.symm X.2.2.2.1 (X.2.2.2.2.1 _ hlink) (X.2.2.2.2.1 _ wt_min) (X.2.2.2.2.1 _ wi_J9) (X.2.2.2.2.1 _ wc_min) (Nat.le_trans hfr X.2.2.2.2.2.2.2.1) (Nat.le_trans hlo X.2.2.2.2.2.2.2.2) h0.1 h0.2 hdg (by rw [hv]; exact kk H locs ls hP hD hS hl)
end
/-- what a walk must come to: the end of its method, with this answer and these cells -/
def kE (l : Launch) (D : va_G) (G : kCx) (cc : ByteArray) (ins : Instr) (res : Option Value) (w : va_W) : Prop := ∀ (lv : List (Nat × Value)) (pc : Nat), decode cc pc = .ok (ins, 1) → J l D G 0 0 w lv pc res.toList
theorem j_end {l : Launch} {D : va_G} {G : kCx} {cc : ByteArray} {ins : Instr} {res : Option Value} {w w0 : va_W} {lv : List (Nat × Value)} {pc : Nat} {st : List Value} (E : kE l D G cc ins res w) (hdg : decode cc pc = .ok (ins, 1)) (hr : res.toList = st) (hw : w = w0) : J l D G 0 0 w0 lv pc st := by
  subst hr
  subst hw
  exact E lv pc hdg
theorem kx_body {l : Launch} {D : va_G} {tA : Nat → ClassId} {y : MethodName} {cc : ByteArray} {nL : Nat} {ret : Option FieldType} {fr lo : Nat} {av : List Value} {w : va_W} {res : Option Value} {w' : va_W} (ins : Instr) (hy : plainName y.cls = true) (hn : (lg_sl av).length ≤ nL)
    (hE : ∀ (p : Program) (e : Env) (R : Room) (s : State) (m : MethodId) (args : Array Value) (below : List Frame) (meth : Method) (c : Code) (A : Nat → Prop), p.tables.exec = Jvm.exec → c.code = cc → meth.sig.returnType = ret → meth.locks = false → ∀ (H : Heap) (locs : List Loc) (ls : Array Slot) (pc : Nat), decode cc pc = .ok (ins, 1) → va_P D vwCl w' H → va_S A s.heap H locs → W p l e R s m args below meth c H locs 0 0 (MQ below (kQ D res w' A) args s 0 0 A) (F0 m pc ls res.toList))
    (body : ∀ G : kCx, kX D tA G cc nL y.cls fr lo → kE l D G cc ins res w' → J l D G 0 0 w (lv_args 0 av) 0 []) : Kx l D tA y cc nL ret fr lo av w res w' := by
  intro sz
  refine Met.ofW (cc := cc) (maxL := nL) (ret := ret) hy rfl ?_
  intro p e s m args below meth c s₁ B hml hv
  obtain ⟨rfl, hsz, hP, hK, hD0⟩ := hv
  subst hsz
  have hts : ∀ w ∈ kALL, w.before av.toArray s = true := fun w hw => atoms_spec B.pre w (List.mem_cons_of_mem _ hw)
  have hown : s.vm.findClass y.cls = some m.cls := findClass_of_methodNamed B.named
  have hD := hD0.self (sz := s.heap.size)
  have hl := lv_entry av (n := nL) hn
  rw [lg_entry_eq]
  refine body (p, e, _, s, m, av.toArray, below, meth, c, _, va_A w s.heap.size) ⟨B.exec, B.bytes, hml, hown, hts, hK, fun q h => Or.inr h, Nat.le_refl _, Nat.le_refl _⟩ ?_ s.heap [] _ hP hD va_S.rf (by show lv_has _ c.maxLocals _; rw [hml]; exact hl)
  intro lv pc hdg H locs ls hP1 hD1 hS1 hl1
  exact hE p e _ s m av.toArray below meth c (va_A w s.heap.size) B.exec B.bytes B.returns B.notSynchronized H locs ls pc hdg hP1 hS1
theorem kx_int {l : Launch} {D : va_G} {tA : Nat → ClassId} {y : MethodName} {cc : ByteArray} {nL : Nat} {fr lo : Nat} {av : List Value} {w : va_W} {r : Int32} {w' : va_W} (hy : plainName y.cls = true) (hn : (lg_sl av).length ≤ nL)
    (body : ∀ G : kCx, kX D tA G cc nL y.cls fr lo → kE l D G cc .ireturn (some (.int r)) w' → J l D G 0 0 w (lv_args 0 av) 0 []) : Kx l D tA y cc nL (some .int) fr lo av w (some (.int r)) w' :=
  kx_body .ireturn hy hn (fun p e R s m args below meth c A hx hb hr hlk H locs ls pc hdg hP hS => W.iret hx hb hr (fun t ht hW => ⟨⟨rfl, by rw [ht]; exact hP⟩, hS.F ht⟩) hS.2.2 hdg hlk) body
theorem bI_narrow (b : Bool) : narrow .boolean (.int (bI b)) = .int (bI b) := by cases b <;> rfl
theorem kx_bool {l : Launch} {D : va_G} {tA : Nat → ClassId} {y : MethodName} {cc : ByteArray} {nL : Nat} {fr lo : Nat} {av : List Value} {w : va_W} {r : Bool} {w' : va_W} (hy : plainName y.cls = true) (hn : (lg_sl av).length ≤ nL)
    (body : ∀ G : kCx, kX D tA G cc nL y.cls fr lo → kE l D G cc .ireturn (some (.int (bI r))) w' → J l D G 0 0 w (lv_args 0 av) 0 []) : Kx l D tA y cc nL (some .boolean) fr lo av w (some (.int (bI r))) w' :=
  kx_body .ireturn hy hn (fun p e R s m args below meth c A hx hb hr hlk H locs ls pc hdg hP hS => W.zret hx hb hr (bI_narrow r) (fun t ht hW => ⟨⟨rfl, by rw [ht]; exact hP⟩, hS.F ht⟩) hS.2.2 hdg hlk) body
theorem kx_void {l : Launch} {D : va_G} {tA : Nat → ClassId} {y : MethodName} {cc : ByteArray} {nL : Nat} {fr lo : Nat} {av : List Value} {w : va_W} {w' : va_W} (hy : plainName y.cls = true) (hn : (lg_sl av).length ≤ nL)
    (body : ∀ G : kCx, kX D tA G cc nL y.cls fr lo → kE l D G cc .return_ none w' → J l D G 0 0 w (lv_args 0 av) 0 []) : Kx l D tA y cc nL none fr lo av w none w' :=
  kx_body .return_ hy hn (fun p e R s m args below meth c A hx hb hr hlk H locs ls pc hdg hP hS => W.vret hx hb hr (fun t ht hW => ⟨⟨rfl, by rw [ht]; exact hP⟩, hS.F ht⟩) hS.2.2 hdg hlk) body
theorem kx_ref {l : Launch} {D : va_G} {tA : Nat → ClassId} {y : MethodName} {cc : ByteArray} {nL : Nat} {C : String} {fr lo : Nat} {av : List Value} {w : va_W} {a : Nat} {w' : va_W} (hy : plainName y.cls = true) (hn : (lg_sl av).length ≤ nL)
    (body : ∀ G : kCx, kX D tA G cc nL y.cls fr lo → kE l D G cc .areturn (some (.ref a)) w' → J l D G 0 0 w (lv_args 0 av) 0 []) : Kx l D tA y cc nL (some (.object C)) fr lo av w (some (.ref a)) w' :=
  kx_body .areturn hy hn (fun p e R s m args below meth c A hx hb hr hlk H locs ls pc hdg hP hS => W.aret hx hb hr (Or.inl ⟨_, rfl⟩) (Or.inr ⟨_, rfl⟩) (fun t ht hW => ⟨⟨rfl, by rw [ht]; exact hP⟩, hS.F ht⟩) hS.2.2 hdg hlk) body

section
variable {p : Program} {l : Launch} {e : Env} {R : Room} {s : State} {m : MethodId} {args : Array Value} {below : List Frame} {meth : Method} {c : Code} {H : Heap} {locs : List Loc} {cells slots : Nat} {Q : State → Prop}
theorem k_call {pc : Nat} {ls : Array Slot} {rest st0 : List Value} {a : Array Value} {A0 A1 : Nat → Prop} {H0 : Heap} {free : Addr → Prop} {D : va_G} {res : Option Value} {w1 : va_W} (hr : va_Run p l e R s m args below meth c H locs cells slots 0 0 (F0 m pc ls st0) rest (kQ D res w1 A1 a) free) (hS : va_S A0 H0 H locs) (hA : ∀ q, q < H.size → A1 q → A0 q) (hf : ∀ q, free q → A0 q)
    (kk : ∀ (H1 : Heap) (locs1 : List Loc), va_P D vwCl w1 H1 → (∀ q : Nat, q < H.size → ¬ A1 q → H1[q]? = H[q]?) → va_S A0 H0 H1 locs1 → W p l e R s m args below meth c H1 locs1 cells slots Q (F0 m (pc + 3) ls (res.toList ++ rest))) : W p l e R s m args below meth c H locs cells slots Q (F0 m pc ls st0) := by
  intro T hT X
  obtain ⟨v, st₀, t, T', L, h0, X', hL, e1, e2, ⟨⟨hv, hb⟩, hz, hk⟩, st⟩ := hr T hT X
  cases hv
  rw [h0] at hz hk
  obtain ⟨t2, a1, b1⟩ := kk T'.heap (locs ++ L) (by rw [e1]; exact hb) (fun q h1 h2 => by rw [e1]; exact hk q h1 h2)
    ⟨Nat.le_trans hS.1 (by rw [e1]; exact hz), fun q h1 h2 => by rw [e1, hk q (Nat.lt_of_lt_of_le h1 hS.1) (fun z => h2 (hA q (Nat.lt_of_lt_of_le h1 hS.1) z))]; exact hS.2.1 q h1 h2, fun q hq => by
      rcases List.mem_append.mp hq with h | h
      · exact hS.2.2 q h
      · exact hf _ (hL q h)⟩ T' rfl X'
  exact ⟨t2, st t2 a1, b1⟩
end
/-- what the tables say of a method that is called on an object; and of a static one -/
def kCard (y : MethodName) (bytes : ByteArray) (maxL : Nat) (ret : Option FieldType) (n : Nat) : Prop := Cond.code y bytes maxL ret ∈ kALL ∧ Cond.initialized y.cls ∈ kALL ∧ (y.cls ≠ "java/lang/invoke/MethodHandle" ∧ y.cls ≠ "java/lang/invoke/VarHandle" ∧ (parseMethodDescriptor y.desc).map (fun d => d.parameters.length) = some n)
def kCardV (y : MethodName) (bytes : ByteArray) (maxL : Nat) (ret : Option FieldType) (n : Nat) : Prop := kCard y bytes maxL ret n ∧ Cond.instanceMethod y ∈ kALL ∧ Cond.selects y.cls y y ∈ kALL
def kCardS (y : MethodName) (bytes : ByteArray) (maxL : Nat) (ret : Option FieldType) (n : Nat) : Prop := kCard y bytes maxL ret n ∧ Cond.static y ∈ kALL
section
variable {l : Launch} {D : va_G} {tA : Nat → ClassId} {G : kCx} {cc : ByteArray} {nL : Nat} {own : String} {fr lo n k : Nat} {w : va_W} {lv : List (Nat × Value)} {pc : Nat} {st : List Value}
theorem kFree {A0 : Nat → Prop} {w wc : va_W} {H0 H : Heap} {locs : List Loc} (hD : va_D A0 w) (hS : va_S A0 H0 H locs) (hA : ∀ q, H0.size ≤ q → A0 q) (is : List Nat) (hC : is.map (fun i => w[i]?) = wc.map some) : ∀ q, va_A wc H.size q → A0 q := va_free hD hS hA is hC
theorem kPre {s : State} {H : Heap} {w wc : va_W} {A : Nat → Prop} {av : List Value} (hK : kK D tA s) (hP : va_P D vwCl w H) (hD : va_D A w) (is : List Nat) (hC : is.map (fun i => w[i]?) = wc.map some) (hn : va_nd is = true) :
    FrameBlind (va_Pc av (fun U => U.heap.size = H.size ∧ va_P D vwCl wc U.heap ∧ kK D tA U ∧ va_D (fun _ => True) wc)) ∧ ∀ U : State, U.heap = H → s.WarmedH U.vm → va_Pc av (fun U => U.heap.size = H.size ∧ va_P D vwCl wc U.heap ∧ kK D tA U ∧ va_D (fun _ => True) wc) av.toArray U := by
  refine ⟨fun a U g mk q => ?_, fun U hU hW => ⟨rfl, by rw [hU], ?_, hK.warm hW, (hD.sub is hn hC).weaken (fun _ _ _ _ => trivial)⟩⟩
  · obtain ⟨q0, q1, qP, qK, qD⟩ := q
    exact ⟨q0, q1, qP, kK.same (u := U) (U := U.calling g mk a) rfl qK, qD⟩
  · rw [hU]
    refine hP.sub is ?_
    have : ∀ (is : List Nat) (wc : va_W), is.map (fun i => w[i]?) = wc.map some → is.filterMap (fun i => w[i]?) = wc := by
      intro is
      induction is with
      | nil => intro wc h; cases wc with
        | nil => rfl
        | cons x xs => simp at h
      | cons i is ih => intro wc h; cases wc with
        | nil => simp at h
        | cons x xs =>
          simp only [List.map_cons, List.cons.injEq] at h
          rw [List.filterMap_cons, h.1]
          show x :: _ = _
          rw [ih xs h.2]
    exact this is wc hC
theorem j_callV (X : kX D tA G cc nL own fr lo) {y : MethodName} {bytes : ByteArray} {maxL : Nat} {ret : Option FieldType} {frc loc index b : Nat} {As : List Value} {wc wc' w' : va_W} {res : Option Value} {stk : List Value}
    (hM : Kx l D tA y bytes maxL ret frc loc (.ref b :: As) wc res wc') (hcd : kCardV y bytes maxL ret As.length) (hlink : Cond.methodLink own index y ∈ kALL)
    (q0 : Nat) {ci : Nat} {fs : List Value} {r : vw_C} (he : w[q0]? = some (b, .inr (ci, fs))) (hcl : vwCl[ci]? = some r) (hrc : r.1 = y.cls) (is : List Nat) (hC : is.map (fun i => w[i]?) = wc.map some) (hn : va_nd is = true) (hfc : wc'.map Prod.fst = wc.map Prod.fst) (hw : kPlug w is wc' = w')
    (hroom : frc + 1 ≤ fr ∧ 8 + (maxL + 11) + loc ≤ lo) (h0 : n ≤ (gR G).cells ∧ k ≤ (gR G).slots) (hstk : stk = As.reverse ++ .ref b :: st) (hcat : (st.map fun v => v.category).sum ≤ 8) (hdg : decode cc pc = .ok (.invokevirtual index, 3))
    (kk : J l D G n k w' lv (pc + 3) (res.toList ++ st)) : J l D G n k w lv pc stk := by
  subst hstk
  intro H locs ls hP hD hS hl
  obtain ⟨hx, hb, hml, hown, hts, hK, hA, hR⟩ := X
  obtain ⟨⟨hcode, hini, hd⟩, hinst, hsel⟩ := hcd
  have hpre := kPre (av := .ref b :: As) hK hP hD is hC hn
  refine k_call (va_runV (As := As) (rest := st) (nL := (gc G).maxLocals) (C := y.cls) (own := own) (Ts := kALL) (bytes := bytes) (maxL := maxL) (ret := ret) ⟨hx, hb, rfl, hown, hts⟩ (hM H.size) (cwV As.length hts (kGoodApp (fun z hz => ?_) (kGood hcode)) rfl rfl rfl ⟨rfl, hd⟩ ⟨Nat.le_trans hroom.1 hR.1, Nat.le_trans hroom.2 hR.2⟩) ⟨hpre.1, ?_, hpre.2⟩ rfl rfl hl.1 rfl (lv_room hcat) hdg h0) hS (fun q _ h => kFree hD hS hA is hC q h) (kFree hD hS hA is hC) (fun H1 locs1 hP1 hk1 hS1 => ?_)
  · rcases List.mem_cons.mp hz with rfl | hz
    · exact ⟨hlink, good_of_word (kALL_good _ hlink)⟩
    rcases List.mem_cons.mp hz with rfl | hz
    · exact ⟨hinst, good_of_word (kALL_good _ hinst)⟩
    rcases List.mem_cons.mp hz with rfl | hz
    · exact ⟨hsel, good_of_word (kALL_good _ hsel)⟩
    rcases List.mem_cons.mp hz with rfl | hz
    · exact ⟨hini, good_of_word (kALL_good _ hini)⟩
    · cases hz
  · have := va_recv hK.1 hP hcl he
    rw [hrc] at this
    exact this
  · exact kk H1 locs1 ls (hw ▸ kP_plug hP hD hC hn (by simpa using congrArg List.length hfc) hk1 hP1) (kD_same hD (hw ▸ kPlug_fst hC hn hfc)) hS1 hl
theorem j_callVR (X : kX D tA G cc nL own fr lo) {y : MethodName} {bytes : ByteArray} {maxL : Nat} {ret : Option FieldType} {frc loc index b : Nat} {As : List Value} {wc : va_W} {res : Option Value} {stk : List Value}
    (hM : Kx l D tA y bytes maxL ret frc loc (.ref b :: As) wc res wc) (hcd : kCardV y bytes maxL ret As.length) (hlink : Cond.methodLink own index y ∈ kALL)
    (q0 : Nat) {ci : Nat} {fs : List Value} {r : vw_C} (he : w[q0]? = some (b, .inr (ci, fs))) (hcl : vwCl[ci]? = some r) (hrc : r.1 = y.cls) (is : List Nat) (hC : is.map (fun i => w[i]?) = wc.map some) (hn : va_nd is = true)
    (hroom : frc + 1 ≤ fr ∧ 8 + (maxL + 11) + loc ≤ lo) (h0 : n ≤ (gR G).cells ∧ k ≤ (gR G).slots) (hstk : stk = As.reverse ++ .ref b :: st) (hcat : (st.map fun v => v.category).sum ≤ 8) (hdg : decode cc pc = .ok (.invokevirtual index, 3))
    (kk : J l D G n k w lv (pc + 3) (res.toList ++ st)) : J l D G n k w lv pc stk := by
  subst hstk
  intro H locs ls hP hD hS hl
  obtain ⟨hx, hb, hml, hown, hts, hK, hA, hR⟩ := X
  obtain ⟨⟨hcode, hini, hd⟩, hinst, hsel⟩ := hcd
  have hpre := kPre (av := .ref b :: As) hK hP hD is hC hn
  refine k_call (va_runV (As := As) (rest := st) (nL := (gc G).maxLocals) (C := y.cls) (own := own) (Ts := kALL) (bytes := bytes) (maxL := maxL) (ret := ret) ⟨hx, hb, rfl, hown, hts⟩ (hM H.size) (cwV As.length hts (kGoodApp (fun z hz => ?_) (kGood hcode)) rfl rfl rfl ⟨rfl, hd⟩ ⟨Nat.le_trans hroom.1 hR.1, Nat.le_trans hroom.2 hR.2⟩) ⟨hpre.1, ?_, hpre.2⟩ rfl rfl hl.1 rfl (lv_room hcat) hdg h0) hS (fun q _ h => kFree hD hS hA is hC q h) (kFree hD hS hA is hC) (fun H1 locs1 hP1 hk1 hS1 => ?_)
  · rcases List.mem_cons.mp hz with rfl | hz
    · exact ⟨hlink, good_of_word (kALL_good _ hlink)⟩
    rcases List.mem_cons.mp hz with rfl | hz
    · exact ⟨hinst, good_of_word (kALL_good _ hinst)⟩
    rcases List.mem_cons.mp hz with rfl | hz
    · exact ⟨hsel, good_of_word (kALL_good _ hsel)⟩
    rcases List.mem_cons.mp hz with rfl | hz
    · exact ⟨hini, good_of_word (kALL_good _ hini)⟩
    · cases hz
  · have := va_recv hK.1 hP hcl he
    rw [hrc] at this
    exact this
  · exact kk H1 locs1 ls (kP_read hP hD hC hk1 hP1) hD hS1 hl
theorem j_callVB (X : kX D tA G cc nL own fr lo) {y : MethodName} {bytes : ByteArray} {maxL : Nat} {ret : Option FieldType} {frc loc index b : Nat} {As : List Value} {wc wc' wr w' : va_W} {res : Option Value} {stk : List Value}
    (hM : Kx l D tA y bytes maxL ret frc loc (.ref b :: As) wc res wc') (hcd : kCardV y bytes maxL ret As.length) (hlink : Cond.methodLink own index y ∈ kALL)
    (q0 : Nat) {ci : Nat} {fs : List Value} {r : vw_C} (he : w[q0]? = some (b, .inr (ci, fs))) (hcl : vwCl[ci]? = some r) (hrc : r.1 = y.cls) (is : List Nat) (hC : is.map (fun i => w[i]?) = wc.map some) (hn : va_nd is = true) (js : List Nat) (hRr : js.map (fun i => w[i]?) = wr.map some) (hn2 : va_nd (is ++ js) = true) (hfc : wc'.map Prod.fst = wc.map Prod.fst) (ks : List Nat) (hB : ks.map (fun i => (wc' ++ wr)[i]?) = w'.map some) (hnk : va_nd ks = true)
    (hroom : frc + 1 ≤ fr ∧ 8 + (maxL + 11) + loc ≤ lo) (h0 : n ≤ (gR G).cells ∧ k ≤ (gR G).slots) (hstk : stk = As.reverse ++ .ref b :: st) (hcat : (st.map fun v => v.category).sum ≤ 8) (hdg : decode cc pc = .ok (.invokevirtual index, 3))
    (kk : J l D G n k w' lv (pc + 3) (res.toList ++ st)) : J l D G n k w lv pc stk := by
  subst hstk
  intro H locs ls hP hD hS hl
  obtain ⟨hx, hb, hml, hown, hts, hK, hA, hR⟩ := X
  obtain ⟨⟨hcode, hini, hd⟩, hinst, hsel⟩ := hcd
  have hpre := kPre (av := .ref b :: As) hK hP hD is hC hn
  refine k_call (va_runV (As := As) (rest := st) (nL := (gc G).maxLocals) (C := y.cls) (own := own) (Ts := kALL) (bytes := bytes) (maxL := maxL) (ret := ret) ⟨hx, hb, rfl, hown, hts⟩ (hM H.size) (cwV As.length hts (kGoodApp (fun z hz => ?_) (kGood hcode)) rfl rfl rfl ⟨rfl, hd⟩ ⟨Nat.le_trans hroom.1 hR.1, Nat.le_trans hroom.2 hR.2⟩) ⟨hpre.1, ?_, hpre.2⟩ rfl rfl hl.1 rfl (lv_room hcat) hdg h0) hS (fun q _ h => kFree hD hS hA is hC q h) (kFree hD hS hA is hC) (fun H1 locs1 hP1 hk1 hS1 => ?_)
  · rcases List.mem_cons.mp hz with rfl | hz
    · exact ⟨hlink, good_of_word (kALL_good _ hlink)⟩
    rcases List.mem_cons.mp hz with rfl | hz
    · exact ⟨hinst, good_of_word (kALL_good _ hinst)⟩
    rcases List.mem_cons.mp hz with rfl | hz
    · exact ⟨hsel, good_of_word (kALL_good _ hsel)⟩
    rcases List.mem_cons.mp hz with rfl | hz
    · exact ⟨hini, good_of_word (kALL_good _ hini)⟩
    · cases hz
  · have := va_recv hK.1 hP hcl he
    rw [hrc] at this
    exact this
  · exact kk H1 locs1 ls (kP_block hP hD hC hRr hn2 hfc hB hnk hk1 hP1).1 (kP_block hP hD hC hRr hn2 hfc hB hnk hk1 hP1).2 hS1 hl
theorem j_callS (X : kX D tA G cc nL own fr lo) {y : MethodName} {bytes : ByteArray} {maxL : Nat} {ret : Option FieldType} {frc loc index : Nat} {As : List Value} {wc wc' w' : va_W} {res : Option Value} {stk : List Value}
    (hM : Kx l D tA y bytes maxL ret frc loc As wc res wc') (hcd : kCardS y bytes maxL ret As.length) (hlink : Cond.methodLink own index y ∈ kALL) (hcls : y.cls = own)
    (is : List Nat) (hC : is.map (fun i => w[i]?) = wc.map some) (hn : va_nd is = true) (hfc : wc'.map Prod.fst = wc.map Prod.fst) (hw : kPlug w is wc' = w')
    (hroom : frc + 1 ≤ fr ∧ 8 + (maxL + 11) + loc ≤ lo) (h0 : n ≤ (gR G).cells ∧ k ≤ (gR G).slots) (hstk : stk = As.reverse ++ st) (hcat : (st.map fun v => v.category).sum ≤ 8) (hdg : decode cc pc = .ok (.invokestatic index, 3))
    (kk : J l D G n k w' lv (pc + 3) (res.toList ++ st)) : J l D G n k w lv pc stk := by
  subst hstk
  subst hcls
  intro H locs ls hP hD hS hl
  obtain ⟨hx, hb, hml, hown, hts, hK, hA, hR⟩ := X
  obtain ⟨⟨hcode, hini, hd⟩, hst⟩ := hcd
  have hpre := kPre (av := As) hK hP hD is hC hn
  refine k_call (va_runS (As := As) (rest := st) (nL := (gc G).maxLocals) (own := y.cls) (Ts := kALL) (bytes := bytes) (maxL := maxL) (ret := ret) ⟨hx, hb, rfl, hown, hts⟩ (hM H.size) (cwS As.length hts (kGoodApp (fun z hz => ?_) (kGood hcode)) rfl rfl rfl ⟨rfl, hd⟩ ⟨Nat.le_trans hroom.1 hR.1, Nat.le_trans hroom.2 hR.2⟩) hpre rfl rfl hl.1 rfl (lv_room hcat) hdg h0) hS (fun q _ h => kFree hD hS hA is hC q h) (kFree hD hS hA is hC) (fun H1 locs1 hP1 hk1 hS1 => ?_)
  · rcases List.mem_cons.mp hz with rfl | hz
    · exact ⟨hlink, good_of_word (kALL_good _ hlink)⟩
    rcases List.mem_cons.mp hz with rfl | hz
    · exact ⟨hst, good_of_word (kALL_good _ hst)⟩
    rcases List.mem_cons.mp hz with rfl | hz
    · exact ⟨hini, good_of_word (kALL_good _ hini)⟩
    · cases hz
  · exact kk H1 locs1 ls (hw ▸ kP_plug hP hD hC hn (by simpa using congrArg List.length hfc) hk1 hP1) (kD_same hD (hw ▸ kPlug_fst hC hn hfc)) hS1 hl
theorem j_callSR (X : kX D tA G cc nL own fr lo) {y : MethodName} {bytes : ByteArray} {maxL : Nat} {ret : Option FieldType} {frc loc index : Nat} {As : List Value} {wc : va_W} {res : Option Value} {stk : List Value}
    (hM : Kx l D tA y bytes maxL ret frc loc As wc res wc) (hcd : kCardS y bytes maxL ret As.length) (hlink : Cond.methodLink own index y ∈ kALL) (hcls : y.cls = own)
    (is : List Nat) (hC : is.map (fun i => w[i]?) = wc.map some) (hn : va_nd is = true)
    (hroom : frc + 1 ≤ fr ∧ 8 + (maxL + 11) + loc ≤ lo) (h0 : n ≤ (gR G).cells ∧ k ≤ (gR G).slots) (hstk : stk = As.reverse ++ st) (hcat : (st.map fun v => v.category).sum ≤ 8) (hdg : decode cc pc = .ok (.invokestatic index, 3))
    (kk : J l D G n k w lv (pc + 3) (res.toList ++ st)) : J l D G n k w lv pc stk := by
  subst hstk
  subst hcls
  intro H locs ls hP hD hS hl
  obtain ⟨hx, hb, hml, hown, hts, hK, hA, hR⟩ := X
  obtain ⟨⟨hcode, hini, hd⟩, hst⟩ := hcd
  have hpre := kPre (av := As) hK hP hD is hC hn
  refine k_call (va_runS (As := As) (rest := st) (nL := (gc G).maxLocals) (own := y.cls) (Ts := kALL) (bytes := bytes) (maxL := maxL) (ret := ret) ⟨hx, hb, rfl, hown, hts⟩ (hM H.size) (cwS As.length hts (kGoodApp (fun z hz => ?_) (kGood hcode)) rfl rfl rfl ⟨rfl, hd⟩ ⟨Nat.le_trans hroom.1 hR.1, Nat.le_trans hroom.2 hR.2⟩) hpre rfl rfl hl.1 rfl (lv_room hcat) hdg h0) hS (fun q _ h => kFree hD hS hA is hC q h) (kFree hD hS hA is hC) (fun H1 locs1 hP1 hk1 hS1 => ?_)
  · rcases List.mem_cons.mp hz with rfl | hz
    · exact ⟨hlink, good_of_word (kALL_good _ hlink)⟩
    rcases List.mem_cons.mp hz with rfl | hz
    · exact ⟨hst, good_of_word (kALL_good _ hst)⟩
    rcases List.mem_cons.mp hz with rfl | hz
    · exact ⟨hini, good_of_word (kALL_good _ hini)⟩
    · cases hz
  · exact kk H1 locs1 ls (kP_read hP hD hC hk1 hP1) hD hS1 hl
theorem j_callSB (X : kX D tA G cc nL own fr lo) {y : MethodName} {bytes : ByteArray} {maxL : Nat} {ret : Option FieldType} {frc loc index : Nat} {As : List Value} {wc wc' wr w' : va_W} {res : Option Value} {stk : List Value}
    (hM : Kx l D tA y bytes maxL ret frc loc As wc res wc') (hcd : kCardS y bytes maxL ret As.length) (hlink : Cond.methodLink own index y ∈ kALL) (hcls : y.cls = own)
    (is : List Nat) (hC : is.map (fun i => w[i]?) = wc.map some) (hn : va_nd is = true) (js : List Nat) (hRr : js.map (fun i => w[i]?) = wr.map some) (hn2 : va_nd (is ++ js) = true) (hfc : wc'.map Prod.fst = wc.map Prod.fst) (ks : List Nat) (hB : ks.map (fun i => (wc' ++ wr)[i]?) = w'.map some) (hnk : va_nd ks = true)
    (hroom : frc + 1 ≤ fr ∧ 8 + (maxL + 11) + loc ≤ lo) (h0 : n ≤ (gR G).cells ∧ k ≤ (gR G).slots) (hstk : stk = As.reverse ++ st) (hcat : (st.map fun v => v.category).sum ≤ 8) (hdg : decode cc pc = .ok (.invokestatic index, 3))
    (kk : J l D G n k w' lv (pc + 3) (res.toList ++ st)) : J l D G n k w lv pc stk := by
  subst hstk
  subst hcls
  intro H locs ls hP hD hS hl
  obtain ⟨hx, hb, hml, hown, hts, hK, hA, hR⟩ := X
  obtain ⟨⟨hcode, hini, hd⟩, hst⟩ := hcd
  have hpre := kPre (av := As) hK hP hD is hC hn
  refine k_call (va_runS (As := As) (rest := st) (nL := (gc G).maxLocals) (own := y.cls) (Ts := kALL) (bytes := bytes) (maxL := maxL) (ret := ret) ⟨hx, hb, rfl, hown, hts⟩ (hM H.size) (cwS As.length hts (kGoodApp (fun z hz => ?_) (kGood hcode)) rfl rfl rfl ⟨rfl, hd⟩ ⟨Nat.le_trans hroom.1 hR.1, Nat.le_trans hroom.2 hR.2⟩) hpre rfl rfl hl.1 rfl (lv_room hcat) hdg h0) hS (fun q _ h => kFree hD hS hA is hC q h) (kFree hD hS hA is hC) (fun H1 locs1 hP1 hk1 hS1 => ?_)
  · rcases List.mem_cons.mp hz with rfl | hz
    · exact ⟨hlink, good_of_word (kALL_good _ hlink)⟩
    rcases List.mem_cons.mp hz with rfl | hz
    · exact ⟨hst, good_of_word (kALL_good _ hst)⟩
    rcases List.mem_cons.mp hz with rfl | hz
    · exact ⟨hini, good_of_word (kALL_good _ hini)⟩
    · cases hz
  · exact kk H1 locs1 ls (kP_block hP hD hC hRr hn2 hfc hB hnk hk1 hP1).1 (kP_block hP hD hC hRr hn2 hfc hB hnk hk1 hP1).2 hS1 hl
theorem j_callN (X : kX D tA G cc nL own fr lo) {y : MethodName} {bytes : ByteArray} {maxL : Nat} {ret : Option FieldType} {frc loc index : Nat} {host : String} {As : List Value} {wc wc' w' : va_W} {res : Option Value} {stk : List Value}
    (hM : Kx l D tA y bytes maxL ret frc loc As wc res wc') (hcd : kCardS y bytes maxL ret As.length) (hlink : va_Nw (.methodLinkNest own index y host) (gs G))
    (is : List Nat) (hC : is.map (fun i => w[i]?) = wc.map some) (hn : va_nd is = true) (hfc : wc'.map Prod.fst = wc.map Prod.fst) (hw : kPlug w is wc' = w')
    (hroom : frc + 1 ≤ fr ∧ 8 + (maxL + 11) + loc ≤ lo) (h0 : n ≤ (gR G).cells ∧ k ≤ (gR G).slots) (hstk : stk = As.reverse ++ st) (hcat : (st.map fun v => v.category).sum ≤ 8) (hdg : decode cc pc = .ok (.invokestatic index, 3))
    (kk : J l D G n k w' lv (pc + 3) (res.toList ++ st)) : J l D G n k w lv pc stk := by
  subst hstk
  intro H locs ls hP hD hS hl
  obtain ⟨hx, hb, hml, hown, hts, hK, hA, hR⟩ := X
  obtain ⟨⟨hcode, hini, hd⟩, hst⟩ := hcd
  have hpre := kPre (av := As) hK hP hD is hC hn
  refine k_call (va_runSN (As := As) (rest := st) (nL := (gc G).maxLocals) (own := own) (Ts := kALL) (bytes := bytes) (maxL := maxL) (ret := ret) ⟨hx, hb, rfl, hown, hts⟩ (hM H.size) ⟨va_cnB As.length hts (kGood hcode) rfl rfl rfl hlink (hts _ hini) hd ⟨Nat.le_trans hroom.1 hR.1, Nat.le_trans hroom.2 hR.2⟩, hts _ hst, trivial⟩ hpre rfl rfl hl.1 rfl (lv_room hcat) hdg h0) hS (fun q _ h => kFree hD hS hA is hC q h) (kFree hD hS hA is hC) (fun H1 locs1 hP1 hk1 hS1 => ?_)
  exact kk H1 locs1 ls (hw ▸ kP_plug hP hD hC hn (by simpa using congrArg List.length hfc) hk1 hP1) (kD_same hD (hw ▸ kPlug_fst hC hn hfc)) hS1 hl
theorem j_callNR (X : kX D tA G cc nL own fr lo) {y : MethodName} {bytes : ByteArray} {maxL : Nat} {ret : Option FieldType} {frc loc index : Nat} {host : String} {As : List Value} {wc : va_W} {res : Option Value} {stk : List Value}
    (hM : Kx l D tA y bytes maxL ret frc loc As wc res wc) (hcd : kCardS y bytes maxL ret As.length) (hlink : va_Nw (.methodLinkNest own index y host) (gs G))
    (is : List Nat) (hC : is.map (fun i => w[i]?) = wc.map some) (hn : va_nd is = true)
    (hroom : frc + 1 ≤ fr ∧ 8 + (maxL + 11) + loc ≤ lo) (h0 : n ≤ (gR G).cells ∧ k ≤ (gR G).slots) (hstk : stk = As.reverse ++ st) (hcat : (st.map fun v => v.category).sum ≤ 8) (hdg : decode cc pc = .ok (.invokestatic index, 3))
    (kk : J l D G n k w lv (pc + 3) (res.toList ++ st)) : J l D G n k w lv pc stk := by
  subst hstk
  intro H locs ls hP hD hS hl
  obtain ⟨hx, hb, hml, hown, hts, hK, hA, hR⟩ := X
  obtain ⟨⟨hcode, hini, hd⟩, hst⟩ := hcd
  have hpre := kPre (av := As) hK hP hD is hC hn
  refine k_call (va_runSN (As := As) (rest := st) (nL := (gc G).maxLocals) (own := own) (Ts := kALL) (bytes := bytes) (maxL := maxL) (ret := ret) ⟨hx, hb, rfl, hown, hts⟩ (hM H.size) ⟨va_cnB As.length hts (kGood hcode) rfl rfl rfl hlink (hts _ hini) hd ⟨Nat.le_trans hroom.1 hR.1, Nat.le_trans hroom.2 hR.2⟩, hts _ hst, trivial⟩ hpre rfl rfl hl.1 rfl (lv_room hcat) hdg h0) hS (fun q _ h => kFree hD hS hA is hC q h) (kFree hD hS hA is hC) (fun H1 locs1 hP1 hk1 hS1 => ?_)
  exact kk H1 locs1 ls (kP_read hP hD hC hk1 hP1) hD hS1 hl
theorem j_callNB (X : kX D tA G cc nL own fr lo) {y : MethodName} {bytes : ByteArray} {maxL : Nat} {ret : Option FieldType} {frc loc index : Nat} {host : String} {As : List Value} {wc wc' wr w' : va_W} {res : Option Value} {stk : List Value}
    (hM : Kx l D tA y bytes maxL ret frc loc As wc res wc') (hcd : kCardS y bytes maxL ret As.length) (hlink : va_Nw (.methodLinkNest own index y host) (gs G))
    (is : List Nat) (hC : is.map (fun i => w[i]?) = wc.map some) (hn : va_nd is = true) (js : List Nat) (hRr : js.map (fun i => w[i]?) = wr.map some) (hn2 : va_nd (is ++ js) = true) (hfc : wc'.map Prod.fst = wc.map Prod.fst) (ks : List Nat) (hB : ks.map (fun i => (wc' ++ wr)[i]?) = w'.map some) (hnk : va_nd ks = true)
    (hroom : frc + 1 ≤ fr ∧ 8 + (maxL + 11) + loc ≤ lo) (h0 : n ≤ (gR G).cells ∧ k ≤ (gR G).slots) (hstk : stk = As.reverse ++ st) (hcat : (st.map fun v => v.category).sum ≤ 8) (hdg : decode cc pc = .ok (.invokestatic index, 3))
    (kk : J l D G n k w' lv (pc + 3) (res.toList ++ st)) : J l D G n k w lv pc stk := by
  subst hstk
  intro H locs ls hP hD hS hl
  obtain ⟨hx, hb, hml, hown, hts, hK, hA, hR⟩ := X
  obtain ⟨⟨hcode, hini, hd⟩, hst⟩ := hcd
  have hpre := kPre (av := As) hK hP hD is hC hn
  refine k_call (va_runSN (As := As) (rest := st) (nL := (gc G).maxLocals) (own := own) (Ts := kALL) (bytes := bytes) (maxL := maxL) (ret := ret) ⟨hx, hb, rfl, hown, hts⟩ (hM H.size) ⟨va_cnB As.length hts (kGood hcode) rfl rfl rfl hlink (hts _ hini) hd ⟨Nat.le_trans hroom.1 hR.1, Nat.le_trans hroom.2 hR.2⟩, hts _ hst, trivial⟩ hpre rfl rfl hl.1 rfl (lv_room hcat) hdg h0) hS (fun q _ h => kFree hD hS hA is hC q h) (kFree hD hS hA is hC) (fun H1 locs1 hP1 hk1 hS1 => ?_)
  exact kk H1 locs1 ls (kP_block hP hD hC hRr hn2 hfc hB hnk hk1 hP1).1 (kP_block hP hD hC hRr hn2 hfc hB hnk hk1 hP1).2 hS1 hl
end
end
section
theorem nC_eq0 {a : Nat} (h : a < 2 ^ 31) : nI a = 0 ↔ a = 0 := by
  have e : nI a = nI 0 ↔ a = 0 := nI_eq h (by omega)
  rwa [nI_0] at e
theorem nC_le0 {a : Nat} (h : a < 2 ^ 31) : nI a ≤ 0 ↔ a = 0 := by
  have e : nI a ≤ nI 0 ↔ a ≤ 0 := nI_leI h (by omega)
  rw [nI_0] at e
  rw [e]; omega
theorem nC_gt0 {a : Nat} (h : a < 2 ^ 31) : 0 < nI a ↔ 0 < a := by
  have e : nI 0 < nI a ↔ 0 < a := nI_ltI (by omega) h
  rwa [nI_0] at e
theorem nC_lt0 {a : Nat} (h : a < 2 ^ 31) : nI a < 0 ↔ False := ⟨fun q => nI_pos h q, fun q => q.elim⟩
theorem nC_ge0 {a : Nat} (h : a < 2 ^ 31) : 0 ≤ nI a ↔ True := ⟨fun _ => trivial, fun _ => nI_pos' h⟩
theorem iC_lt0 (x : Int32) : x < 0 ↔ x.toInt < 0 := by rw [Int32.lt_iff_toInt_lt, Int32.toInt_zero]
theorem iC_ge0 (x : Int32) : 0 ≤ x ↔ 0 ≤ x.toInt := by rw [Int32.le_iff_toInt_le, Int32.toInt_zero]
theorem iC_le0 (x : Int32) : x ≤ 0 ↔ x.toInt ≤ 0 := by rw [Int32.le_iff_toInt_le, Int32.toInt_zero]
theorem iC_gt0 (x : Int32) : 0 < x ↔ 0 < x.toInt := by rw [Int32.lt_iff_toInt_lt, Int32.toInt_zero]
theorem iC_eqn {x : Int32} {b : Nat} (h : b < 2 ^ 31) : x = nI b ↔ x.toInt = ((b : Nat) : Int) := by rw [← Int32.toInt_inj, nI_toInt h]
theorem iC_ltn {x : Int32} {b : Nat} (h : b < 2 ^ 31) : x < nI b ↔ x.toInt < ((b : Nat) : Int) := by rw [Int32.lt_iff_toInt_lt, nI_toInt h]
theorem iC_len {x : Int32} {b : Nat} (h : b < 2 ^ 31) : x ≤ nI b ↔ x.toInt ≤ ((b : Nat) : Int) := by rw [Int32.le_iff_toInt_le, nI_toInt h]
theorem iC_gen {x : Int32} {b : Nat} (h : b < 2 ^ 31) : nI b ≤ x ↔ ((b : Nat) : Int) ≤ x.toInt := by rw [Int32.le_iff_toInt_le, nI_toInt h]
theorem iC_gtn {x : Int32} {b : Nat} (h : b < 2 ^ 31) : nI b < x ↔ ((b : Nat) : Int) < x.toInt := by rw [Int32.lt_iff_toInt_lt, nI_toInt h]
def rO : Option Nat → Int32
  | some b => nI b
  | none => (-5)
theorem rO_none {o : Option Nat} (h : ∀ b, o = some b → b < 2 ^ 31) : rO o = (-5) ↔ o = none := by
  cases o with
  | none => exact ⟨fun _ => rfl, fun _ => rfl⟩
  | some b =>
    refine ⟨fun q => ?_, fun q => (by cases q)⟩
    have h1 : nI b = (-5) := q
    have h2 := nI_toInt (h b rfl)
    rw [h1] at h2
    have h3 : ((-5 : Int32)).toInt = -5 := by decide
    omega
theorem nI_max {a b : Nat} (ha : a < 2 ^ 31) (hb : b < 2 ^ 31) : (if nI a < nI b then nI b else nI a) = nI (max a b) := by
  by_cases h : a < b
  · rw [if_pos ((nI_ltI ha hb).mpr h), Nat.max_eq_right (by omega)]
  · rw [if_neg (fun q => h ((nI_ltI ha hb).mp q)), Nat.max_eq_left (by omega)]
theorem nI_min {a b : Nat} (ha : a < 2 ^ 31) (hb : b < 2 ^ 31) : (if nI b < nI a then nI b else nI a) = nI (min a b) := by
  by_cases h : b < a
  · rw [if_pos ((nI_ltI hb ha).mpr h), Nat.min_eq_right (by omega)]
  · rw [if_neg (fun q => h ((nI_ltI hb ha).mp q)), Nat.min_eq_left (by omega)]
/-- an argument that lies in a range is a number -/
theorem i_in {x : Int32} {n : Nat} (h0 : 0 ≤ x.toInt) (h1 : x.toInt < n) : ∃ k : Nat, k < n ∧ x = nI k := by
  refine ⟨x.toInt.toNat, by omega, ?_⟩
  have hx : x.toInt < 2 ^ 31 := Int32.toInt_lt x
  rw [iC_eqn (by omega)]
  omega
section
variable {l : Launch} {D : va_G} {G : kCx} {cc : ByteArray} {w w0 : va_W} {lv : List (Nat × Value)} {pc : Nat}
theorem j_endI {r v : Int32} (E : kE l D G cc .ireturn (some (.int r)) w) (hdg : decode cc pc = .ok (.ireturn, 1)) (hr : r = v) (hw : w = w0) : J l D G 0 0 w0 lv pc [.int v] := by
  subst hr; subst hw; exact E lv pc hdg
theorem j_endV (E : kE l D G cc .return_ none w) (hdg : decode cc pc = .ok (.return_, 1)) (hw : w = w0) : J l D G 0 0 w0 lv pc [] := by
  subst hw; exact E lv pc hdg
theorem j_endA {a b : Nat} (E : kE l D G cc .areturn (some (.ref a)) w) (hdg : decode cc pc = .ok (.areturn, 1)) (hr : a = b) (hw : w = w0) : J l D G 0 0 w0 lv pc [.ref b] := by
  subst hr; subst hw; exact E lv pc hdg
end
theorem up_same {α : Type} (f : Nat → α) (k : Nat) (v : α) : va_up f k v k = v := by simp [va_up]
theorem up_ne {α : Type} (f : Nat → α) {k j : Nat} (v : α) (h : j ≠ k) : va_up f k v j = f j := by simp [va_up, h]
end
section
/-- a table's contents: how many rows, and the cells -/
abbrev Tb : Type := Nat × (Nat → Nat)
def tbW (tA : Nat → ClassId) (h q most cols : Nat) (t : Tb) : va_W := [(h, .inr (2, [.ref q, .int (nI most), .int (nI cols), .int (nI t.1)])), (q, .inl (tA 0, most * cols, .inl (nF t.2)))]
theorem tb_fst {tA : Nat → ClassId} {h q most cols : Nat} {t : Tb} : (tbW tA h q most cols t).map Prod.fst = [h, q] := rfl
def inR (x : Int32) (n : Nat) : Bool := decide (0 ≤ x.toInt ∧ x.toInt < (n : Int))
theorem inR_nI {k n : Nat} (h : k < n) (hn : n < 2 ^ 31) : inR (nI k) n = true := by
  have := nI_toInt (show k < 2 ^ 31 by omega)
  simp only [inR, decide_eq_true_eq]
  omega
theorem inR_t {x : Int32} {n : Nat} (h : inR x n = true) : ∃ k : Nat, k < n ∧ x = nI k := by
  simp only [inR, decide_eq_true_eq] at h
  exact i_in h.1 h.2
theorem cell_lt {r n most cols c : Nat} (hr : r < n) (hn : n ≤ most) (hc : c < cols) : r * cols + c < most * cols := by
  have h1 : r * cols + cols ≤ n * cols := by
    have := Nat.mul_le_mul_right cols (show r + 1 ≤ n from hr)
    rwa [Nat.succ_mul] at this
  have h2 : n * cols ≤ most * cols := Nat.mul_le_mul_right _ hn
  omega
def tGet (cols : Nat) (t : Tb) (r c : Nat) : Nat := t.2 (r * cols + c)
def tSet (cols : Nat) (t : Tb) (r c v : Nat) : Tb := (t.1, va_up t.2 (r * cols + c) v)
/-- a new row, whose cells are 0 -/
def tAdd (cols : Nat) (t : Tb) : Tb := (t.1 + 1, fun j => if t.1 * cols ≤ j ∧ j < t.1 * cols + cols then 0 else t.2 j)
/-- the rows behind come one number earlier -/
def tDel (cols : Nat) (t : Tb) (r : Nat) : Tb := (t.1 - 1, fun j => if r * cols ≤ j ∧ j < (t.1 - 1) * cols then t.2 (j + cols) else t.2 j)
def cntN (p : Nat → Bool) : Nat → Nat
  | 0 => 0
  | n + 1 => cntN p n + (if p n = true then 1 else 0)
def sumN (f : Nat → Nat) : Nat → Nat
  | 0 => 0
  | n + 1 => sumN f n + f n
/-- the same cells, said otherwise -/
theorem j_world {l : Launch} {D : va_G} {G : kCx} {n k : Nat} {w w2 : va_W} {lv : List (Nat × Value)} {pc : Nat} {st : List Value} (h : ∀ H, va_P D vwCl w H → va_P D vwCl w2 H) (hf : w2.map Prod.fst = w.map Prod.fst) (kk : J l D G n k w2 lv pc st) : J l D G n k w lv pc st :=
  fun H locs ls hP hD hS hl => kk H locs ls (h H hP) (kD_same hD hf) hS hl
theorem arr_same {D : va_G} {cA : ClassId} {n a : Nat} {f g : Nat → Int32} {H : Heap} (h : ∀ j, j < n → f j = g j) (hP : va_at D vwCl (a, .inl (cA, n, .inl f)) H) : va_at D vwCl (a, .inl (cA, n, .inl g)) H := by
  show H[a]? = some (vp_cell cA (n, .inl g))
  have h0 : H[a]? = some (vp_cell cA (n, .inl f)) := hP
  rw [h0]
  congr 1
  simp only [vp_cell_i]
  show arrV cA n _ = arrV cA n _
  unfold arrV
  congr 1
  apply Array.ext
  · simp
  · intro i h1 h2
    have hi : i < n := by simpa using h1
    simp [h i hi]
theorem P_arr {D : va_G} {w : va_W} {q a n : Nat} {cA : ClassId} {f g : Nat → Int32} {H : Heap} (hq : q < w.length) (h : ∀ j, j < n → f j = g j) (hP : va_P D vwCl (w.set q (a, .inl (cA, n, .inl f))) H) : va_P D vwCl (w.set q (a, .inl (cA, n, .inl g))) H := by
  intro k x hk
  by_cases e : k = q
  · subst e
    rw [List.getElem?_set_self hq] at hk
    cases hk
    exact arr_same h (hP k _ (List.getElem?_set_self hq))
  · rw [List.getElem?_set_ne (Ne.symm e)] at hk
    exact hP k x (by rw [List.getElem?_set_ne (Ne.symm e)]; exact hk)
theorem j_copy {l : Launch} {D : va_G} {tA : Nat → ClassId} {G : kCx} {cc : ByteArray} {nL : Nat} {own : String} {fr lo n k : Nat} {w : va_W} {lv : List (Nat × Value)} {pc : Nat} {st : List Value} (X : kX D tA G cc nL own fr lo) (q0 q1 : Nat) {a0 a N index : Nat} {f g : Nat → Nat} (he0 : w[q0]? = some (a0, .inl (tA 0, N, .inl (nF f)))) (he1 : w[q1]? = some (a, .inl (tA 0, N, .inl (nF g)))) (hN : N < 65536)
    (hlink : Cond.methodLink own index arraycopyName ∈ kALL) (hfr : 1 ≤ fr) (hlo : (st.map fun v => v.category).sum + (nativeFrameWords "java/lang/System" "arraycopy" 5 + 11) ≤ lo) {w' : va_W} (hw : w.set q1 (a, .inl (tA 0, N, .inl (nF f))) = w') (hdg : decode cc pc = .ok (.invokestatic index, 3))
    (kk : J l D G n k w' lv (pc + 3) st) : J l D G n k w lv pc (.int (nI N) :: .int (nI 0) :: .ref a :: .int (nI 0) :: .ref a0 :: st) := by
  intro H locs ls hP hD hS hl
  have hq : q1 < w.length := (List.getElem?_eq_some_iff.mp he1).1
  have c0 : (nI 0).toNatClampNeg = 0 := nI_clamp (by omega)
  have cN : (nI N).toNatClampNeg = N := nI_clamp (by omega)
  refine va_copyi (D := D) (cl := vwCl) (ws := w) (tys := kTY tA) X.1 X.2.1 hl.1.symm X.2.2.2.1 (X.2.2.2.2.1 _ hlink) (X.2.2.2.2.1 _ wx_acopy) (X.2.2.2.2.1 _ wt_acopy) (X.2.2.2.2.1 _ wi_J10) X.2.2.2.2.2.1.1 hP hD hS q0 q1 0 0 he0 he1 rfl rfl rfl (nI_pos (by omega)) (nI_pos (by omega)) (nI_pos (by omega)) (by rw [c0, cN]; omega) (by rw [c0, cN]; omega) (fun i _ => rfl) (Nat.le_trans hfr X.2.2.2.2.2.2.2.1) (Nat.le_trans hlo X.2.2.2.2.2.2.2.2) hdg (fun H1 locs1 hP1 hD1 hS1 => ?_)
  rw [c0, cN] at hP1 hD1
  refine kk H1 locs1 ls ?_ ?_ hS1 hl
  · rw [← hw]
    exact P_arr hq (fun j hj => by simp [va_cpy, hj]) hP1
  · rw [← hw]
    exact kD_same hD1 (by rw [List.map_set, List.map_set])
theorem cd_X2_size : kCardV yX2_size cX2_size 1 (some .int) 0 := ⟨⟨wc_X2_size, wi_X2, by decide +kernel, by decide +kernel, rfl⟩, wk_X2_size, ws_X2_size⟩
set_option maxHeartbeats 4000000 in
set_option maxRecDepth 100000 in
theorem c_X2_size (l : Launch) (D : va_G) (tA : Nat → ClassId) (h q most cols : Nat) (t : Tb)   : Kx l D tA yX2_size cX2_size 1 (some .int) 0 0 [.ref h] (tbW tA h q most cols t) (some (.int (nI t.1))) (tbW tA h q most cols t) := by
  refine kx_int rfl (Nat.le_of_ble_eq_true rfl) (fun G X E => ?_)
  show J l D G 0 0 (tbW tA h q most cols t) [(0, .ref h)] 0 []
  refine j_aload_n (pc := 0) X dX2_size_0 rfl (q := 0) rfl ?_
  refine j_get (pc := 1) X (C := RX2) (T := TX2) (N := 4) wz_X2 0 rfl rfl 3 (by decide) wf_X2_28 rfl dX2_size_1 ?_
  exact j_endI (pc := 4) E dX2_size_4 rfl rfl
theorem cd_X2_has : kCardV yX2_has cX2_has 2 (some .boolean) 1 := ⟨⟨wc_X2_has, wi_X2, by decide +kernel, by decide +kernel, rfl⟩, wk_X2_has, ws_X2_has⟩
set_option maxHeartbeats 4000000 in
set_option maxRecDepth 100000 in
theorem c_X2_has (l : Launch) (D : va_G) (tA : Nat → ClassId) (h q most cols : Nat) (t : Tb) (x : Int32) (hm : most < 65536) (hz : most * cols < 65536) (ht : t.1 ≤ most) : Kx l D tA yX2_has cX2_has 2 (some .boolean) 0 0 [.ref h, .int x] (tbW tA h q most cols t) (some (.int (bI (inR x t.1)))) (tbW tA h q most cols t) := by
  refine kx_bool rfl (Nat.le_of_ble_eq_true rfl) (fun G X E => ?_)
  show J l D G 0 0 (tbW tA h q most cols t) [(0, .ref h), (1, .int x)] 0 []
  refine j_iload_n (pc := 0) X dX2_has_0 rfl (q := 1) rfl ?_
  refine j_if_lt (pc := 1) X (tgt := 16) (P := x.toInt < 0) dX2_has_1 (by decide) (iC_lt0 _) (fun h1 => ?_) (fun h1 => ?_)
  · skip
    refine j_iconst (pc := 16) X (v := (nI 0)) dX2_has_16 (by decide) ?_
    exact j_endI (pc := 17) E dX2_has_17 (bI_f (by simp only [inR, decide_eq_false_iff_not]; omega)) rfl
  · skip
    refine j_iload_n (pc := 4) X dX2_has_4 rfl (q := 1) rfl ?_
    refine j_aload_n (pc := 5) X dX2_has_5 rfl (q := 0) rfl ?_
    refine j_get (pc := 6) X (C := RX2) (T := TX2) (N := 4) wz_X2 0 rfl rfl 3 (by decide) wf_X2_28 rfl dX2_has_6 ?_
    refine j_icmp_ge (pc := 9) X (tgt := 16) (P := ((t.1 : Nat) : Int) ≤ x.toInt) dX2_has_9 (by decide) (iC_gen (by omega)) (fun h9 => ?_) (fun h9 => ?_)
    · skip
      refine j_iconst (pc := 16) X (v := (nI 0)) dX2_has_16 (by decide) ?_
      exact j_endI (pc := 17) E dX2_has_17 (bI_f (by simp only [inR, decide_eq_false_iff_not]; omega)) rfl
    · skip
      refine j_iconst (pc := 12) X (v := (nI 1)) dX2_has_12 (by decide) ?_
      refine j_goto (pc := 13) X (tgt := 17) dX2_has_13 (by decide) ?_
      exact j_endI (pc := 17) E dX2_has_17 (bI_t (by simp only [inR, decide_eq_true_eq]; omega)) rfl
theorem cd_X2_isFull : kCardV yX2_isFull cX2_isFull 1 (some .boolean) 0 := ⟨⟨wc_X2_isFull, wi_X2, by decide +kernel, by decide +kernel, rfl⟩, wk_X2_isFull, ws_X2_isFull⟩
set_option maxHeartbeats 4000000 in
set_option maxRecDepth 100000 in
theorem c_X2_isFull (l : Launch) (D : va_G) (tA : Nat → ClassId) (h q most cols : Nat) (t : Tb)  (hm : most < 65536) (hz : most * cols < 65536) (ht : t.1 ≤ most) : Kx l D tA yX2_isFull cX2_isFull 1 (some .boolean) 0 0 [.ref h] (tbW tA h q most cols t) (some (.int (bI (decide (most ≤ t.1))))) (tbW tA h q most cols t) := by
  refine kx_bool rfl (Nat.le_of_ble_eq_true rfl) (fun G X E => ?_)
  show J l D G 0 0 (tbW tA h q most cols t) [(0, .ref h)] 0 []
  refine j_aload_n (pc := 0) X dX2_isFull_0 rfl (q := 0) rfl ?_
  refine j_get (pc := 1) X (C := RX2) (T := TX2) (N := 4) wz_X2 0 rfl rfl 3 (by decide) wf_X2_28 rfl dX2_isFull_1 ?_
  refine j_aload_n (pc := 4) X dX2_isFull_4 rfl (q := 0) rfl ?_
  refine j_get (pc := 5) X (C := RX2) (T := TX2) (N := 4) wz_X2 0 rfl rfl 1 (by decide) wf_X2_9 rfl dX2_isFull_5 ?_
  refine j_icmp_lt (pc := 8) X (tgt := 15) (P := t.1 < most) dX2_isFull_8 (by decide) (nI_ltI (by omega) (by omega)) (fun h8 => ?_) (fun h8 => ?_)
  · skip
    refine j_iconst (pc := 15) X (v := (nI 0)) dX2_isFull_15 (by decide) ?_
    exact j_endI (pc := 16) E dX2_isFull_16 (bI_f (by simp only [decide_eq_false_iff_not]; omega)) rfl
  · skip
    refine j_iconst (pc := 11) X (v := (nI 1)) dX2_isFull_11 (by decide) ?_
    refine j_goto (pc := 12) X (tgt := 16) dX2_isFull_12 (by decide) ?_
    exact j_endI (pc := 16) E dX2_isFull_16 (bI_t (by simp only [decide_eq_true_eq]; omega)) rfl
theorem cd_X2_get : kCardV yX2_get cX2_get 4 (some .int) 2 := ⟨⟨wc_X2_get, wi_X2, by decide +kernel, by decide +kernel, rfl⟩, wk_X2_get, ws_X2_get⟩
set_option maxHeartbeats 4000000 in
set_option maxRecDepth 100000 in
theorem c_X2_get (l : Launch) (D : va_G) (tA : Nat → ClassId) (h q most cols : Nat) (t : Tb) (r c : Nat) (hm : most < 65536) (hz : most * cols < 65536) (ht : t.1 ≤ most) (hr : r < t.1) (hc : c < cols) (hcl : cols < 65536) : Kx l D tA yX2_get cX2_get 4 (some .int) 0 0 [.ref h, .int (nI r), .int (nI c)] (tbW tA h q most cols t) (some (.int (nI (tGet cols t r c)))) (tbW tA h q most cols t) := by
  refine kx_int rfl (Nat.le_of_ble_eq_true rfl) (fun G X E => ?_)
  show J l D G 0 0 (tbW tA h q most cols t) [(0, .ref h), (1, .int (nI r)), (2, .int (nI c))] 0 []
  have hx : r * cols + c < most * cols := cell_lt hr ht hc
  refine j_iload_n (pc := 0) X dX2_get_0 rfl (q := 1) rfl ?_
  refine j_aload_n (pc := 1) X dX2_get_1 rfl (q := 0) rfl ?_
  refine j_get (pc := 2) X (C := RX2) (T := TX2) (N := 4) wz_X2 0 rfl rfl 2 (by decide) wf_X2_15 rfl dX2_get_2 ?_
  refine j_imul (pc := 5) X (v := (nI (r * cols))) dX2_get_5 (pk_mul _ _) ?_
  refine j_iload_n (pc := 6) X dX2_get_6 rfl (q := 2) rfl ?_
  refine j_iadd (pc := 7) X (v := (nI ((r * cols) + c))) dX2_get_7 (nI_add _ _) ?_
  refine j_istore_n (pc := 8) X (lv' := [(3, .int (nI ((r * cols) + c))), (0, .ref h), (1, .int (nI r)), (2, .int (nI c))]) dX2_get_8 rfl (by decide) rfl ?_
  refine j_iload_n (pc := 9) X dX2_get_9 rfl (q := 2) rfl ?_
  refine j_if_lt_f (pc := 10) X (tgt := 46) dX2_get_10 (by decide) (nI_pos (by omega)) ?_
  refine j_iload_n (pc := 13) X dX2_get_13 rfl (q := 2) rfl ?_
  refine j_aload_n (pc := 14) X dX2_get_14 rfl (q := 1) rfl ?_
  refine j_get (pc := 15) X (C := RX2) (T := TX2) (N := 4) wz_X2 0 rfl rfl 3 (by decide) wf_X2_28 rfl dX2_get_15 ?_
  refine j_icmp_ge_f (pc := 18) X (tgt := 46) dX2_get_18 (by decide) (nI_ge hr (by omega)) ?_
  refine j_iload_n (pc := 21) X dX2_get_21 rfl (q := 3) rfl ?_
  refine j_if_lt_f (pc := 22) X (tgt := 46) dX2_get_22 (by decide) (nI_pos (by omega)) ?_
  refine j_iload_n (pc := 25) X dX2_get_25 rfl (q := 3) rfl ?_
  refine j_aload_n (pc := 26) X dX2_get_26 rfl (q := 1) rfl ?_
  refine j_get (pc := 27) X (C := RX2) (T := TX2) (N := 4) wz_X2 0 rfl rfl 2 (by decide) wf_X2_15 rfl dX2_get_27 ?_
  refine j_icmp_ge_f (pc := 30) X (tgt := 46) dX2_get_30 (by decide) (nI_ge hc (by omega)) ?_
  refine j_iload_n (pc := 33) X dX2_get_33 rfl (q := 0) rfl ?_
  refine j_if_lt_f (pc := 34) X (tgt := 46) dX2_get_34 (by decide) (nI_pos (by omega)) ?_
  refine j_iload_n (pc := 37) X dX2_get_37 rfl (q := 0) rfl ?_
  refine j_aload_n (pc := 38) X dX2_get_38 rfl (q := 1) rfl ?_
  refine j_get (pc := 39) X (C := RX2) (T := TX2) (N := 4) wz_X2 0 rfl rfl 0 (by decide) wf_X2_24 rfl dX2_get_39 ?_
  refine j_alen (pc := 42) X 1 0 rfl rfl dX2_get_42 ?_
  refine j_icmp_lt_t (pc := 43) X (tgt := 48) dX2_get_43 (by decide) (nI_lt hx (by omega)) ?_
  refine j_aload_n (pc := 48) X dX2_get_48 rfl (q := 1) rfl ?_
  refine j_get (pc := 49) X (C := RX2) (T := TX2) (N := 4) wz_X2 0 rfl rfl 0 (by decide) wf_X2_24 rfl dX2_get_49 ?_
  refine j_iload_n (pc := 52) X dX2_get_52 rfl (q := 0) rfl ?_
  refine j_iald (pc := 53) X 1 (i := ((r * cols) + c)) rfl (by omega) (by omega) dX2_get_53 ?_
  exact j_endI (pc := 54) E dX2_get_54 rfl rfl
theorem cd_X2_set : kCardV yX2_set cX2_set 5 none 3 := ⟨⟨wc_X2_set, wi_X2, by decide +kernel, by decide +kernel, rfl⟩, wk_X2_set, ws_X2_set⟩
set_option maxHeartbeats 4000000 in
set_option maxRecDepth 100000 in
theorem c_X2_set (l : Launch) (D : va_G) (tA : Nat → ClassId) (h q most cols : Nat) (t : Tb) (r c v : Nat) (hm : most < 65536) (hz : most * cols < 65536) (ht : t.1 ≤ most) (hr : r < t.1) (hc : c < cols) (hcl : cols < 65536) : Kx l D tA yX2_set cX2_set 5 none 0 0 [.ref h, .int (nI r), .int (nI c), .int (nI v)] (tbW tA h q most cols t) none (tbW tA h q most cols (tSet cols t r c v)) := by
  refine kx_void rfl (Nat.le_of_ble_eq_true rfl) (fun G X E => ?_)
  show J l D G 0 0 (tbW tA h q most cols t) [(0, .ref h), (1, .int (nI r)), (2, .int (nI c)), (3, .int (nI v))] 0 []
  have hx : r * cols + c < most * cols := cell_lt hr ht hc
  refine j_iload_n (pc := 0) X dX2_set_0 rfl (q := 1) rfl ?_
  refine j_aload_n (pc := 1) X dX2_set_1 rfl (q := 0) rfl ?_
  refine j_get (pc := 2) X (C := RX2) (T := TX2) (N := 4) wz_X2 0 rfl rfl 2 (by decide) wf_X2_15 rfl dX2_set_2 ?_
  refine j_imul (pc := 5) X (v := (nI (r * cols))) dX2_set_5 (pk_mul _ _) ?_
  refine j_iload_n (pc := 6) X dX2_set_6 rfl (q := 2) rfl ?_
  refine j_iadd (pc := 7) X (v := (nI ((r * cols) + c))) dX2_set_7 (nI_add _ _) ?_
  refine j_istore (pc := 8) X (lv' := [(4, .int (nI ((r * cols) + c))), (0, .ref h), (1, .int (nI r)), (2, .int (nI c)), (3, .int (nI v))]) dX2_set_8 (by decide) rfl ?_
  refine j_iload_n (pc := 10) X dX2_set_10 rfl (q := 2) rfl ?_
  refine j_if_lt_f (pc := 11) X (tgt := 49) dX2_set_11 (by decide) (nI_pos (by omega)) ?_
  refine j_iload_n (pc := 14) X dX2_set_14 rfl (q := 2) rfl ?_
  refine j_aload_n (pc := 15) X dX2_set_15 rfl (q := 1) rfl ?_
  refine j_get (pc := 16) X (C := RX2) (T := TX2) (N := 4) wz_X2 0 rfl rfl 3 (by decide) wf_X2_28 rfl dX2_set_16 ?_
  refine j_icmp_ge_f (pc := 19) X (tgt := 49) dX2_set_19 (by decide) (nI_ge hr (by omega)) ?_
  refine j_iload_n (pc := 22) X dX2_set_22 rfl (q := 3) rfl ?_
  refine j_if_lt_f (pc := 23) X (tgt := 49) dX2_set_23 (by decide) (nI_pos (by omega)) ?_
  refine j_iload_n (pc := 26) X dX2_set_26 rfl (q := 3) rfl ?_
  refine j_aload_n (pc := 27) X dX2_set_27 rfl (q := 1) rfl ?_
  refine j_get (pc := 28) X (C := RX2) (T := TX2) (N := 4) wz_X2 0 rfl rfl 2 (by decide) wf_X2_15 rfl dX2_set_28 ?_
  refine j_icmp_ge_f (pc := 31) X (tgt := 49) dX2_set_31 (by decide) (nI_ge hc (by omega)) ?_
  refine j_iload (pc := 34) X dX2_set_34 (q := 0) rfl ?_
  refine j_if_lt_f (pc := 36) X (tgt := 49) dX2_set_36 (by decide) (nI_pos (by omega)) ?_
  refine j_iload (pc := 39) X dX2_set_39 (q := 0) rfl ?_
  refine j_aload_n (pc := 41) X dX2_set_41 rfl (q := 1) rfl ?_
  refine j_get (pc := 42) X (C := RX2) (T := TX2) (N := 4) wz_X2 0 rfl rfl 0 (by decide) wf_X2_24 rfl dX2_set_42 ?_
  refine j_alen (pc := 45) X 1 0 rfl rfl dX2_set_45 ?_
  refine j_icmp_lt_t (pc := 46) X (tgt := 50) dX2_set_46 (by decide) (nI_lt hx (by omega)) ?_
  refine j_aload_n (pc := 50) X dX2_set_50 rfl (q := 1) rfl ?_
  refine j_get (pc := 51) X (C := RX2) (T := TX2) (N := 4) wz_X2 0 rfl rfl 0 (by decide) wf_X2_24 rfl dX2_set_51 ?_
  refine j_iload (pc := 54) X dX2_set_54 (q := 0) rfl ?_
  refine j_iload_n (pc := 56) X dX2_set_56 rfl (q := 4) rfl ?_
  refine j_iast (pc := 57) X 1 (i := ((r * cols) + c)) (v := v) rfl (by omega) (by omega) (w' := (tbW tA h q most cols (t.1, va_up t.2 ((r * cols) + c) v))) rfl dX2_set_57 ?_
  exact j_endV (pc := 58) E dX2_set_58 rfl
theorem zr_step (cols : Nat) (t : Tb) {c : Nat} {f : Nat → Nat} (hf : f = fun j => if t.1 * cols ≤ j ∧ j < t.1 * cols + c then 0 else t.2 j) : va_up f (t.1 * cols + c) 0 = fun j => if t.1 * cols ≤ j ∧ j < t.1 * cols + (c + 1) then 0 else t.2 j := by
  funext j
  by_cases h : j = t.1 * cols + c
  · subst h
    rw [up_same, if_pos ⟨by omega, by omega⟩]
  · rw [up_ne _ _ h, hf]
    show (if t.1 * cols ≤ j ∧ j < t.1 * cols + c then 0 else t.2 j) = _
    by_cases h2 : t.1 * cols ≤ j ∧ j < t.1 * cols + c
    · rw [if_pos h2, if_pos ⟨h2.1, by omega⟩]
    · rw [if_neg h2, if_neg (fun q => h2 ⟨q.1, by omega⟩)]
def sR (cols r : Nat) (f : Nat → Nat) (m : Nat) : Nat → Nat := fun j => if r * cols ≤ j ∧ j < m then f (j + cols) else f j
theorem sr_step {cols r : Nat} {f g : Nat → Nat} {m : Nat} (hg : g = sR cols r f m) (hm : r * cols ≤ m) : va_up g m (g (m + cols)) = sR cols r f (m + 1) := by
  subst hg
  funext j
  by_cases h : j = m
  · subst h
    rw [up_same]
    simp only [sR]
    rw [if_pos (show r * cols ≤ j ∧ j < j + 1 from ⟨hm, by omega⟩)]
    by_cases h2 : r * cols ≤ j + cols ∧ j + cols < j
    · omega
    · rw [if_neg h2]
  · rw [up_ne _ _ h]
    simp only [sR]
    by_cases h2 : r * cols ≤ j ∧ j < m
    · rw [if_pos h2, if_pos ⟨h2.1, by omega⟩]
    · rw [if_neg h2, if_neg (fun q => h2 ⟨q.1, by omega⟩)]
theorem sr_0 {cols r : Nat} {f : Nat → Nat} : sR cols r f (r * cols) = f := by
  funext j
  simp only [sR]
  rw [if_neg (by omega)]
theorem cnt_t {p : Nat → Bool} {i k : Nat} (hk : k = cntN p i) (h : p i = true) : k + 1 = cntN p (i + 1) := by rw [cntN, if_pos h, hk]
theorem cnt_f {p : Nat → Bool} {i k : Nat} (hk : k = cntN p i) (h : ¬ p i = true) : k = cntN p (i + 1) := by rw [cntN, if_neg h, hk]; rfl
theorem cd_X2_increase : kCardV yX2_increase cX2_increase 4 none 3 := ⟨⟨wc_X2_increase, wi_X2, by decide +kernel, by decide +kernel, rfl⟩, wk_X2_increase, ws_X2_increase⟩
set_option maxHeartbeats 4000000 in
set_option maxRecDepth 100000 in
theorem c_X2_increase (l : Launch) (D : va_G) (tA : Nat → ClassId) (h q most cols : Nat) (t : Tb) (r c : Nat) (d : Int32) (v : Nat) (hm : most < 65536) (hz : most * cols < 65536) (ht : t.1 ≤ most) (hr : r < t.1) (hc : c < cols) (hcl : cols < 65536) (hd : nI (tGet cols t r c) + d = nI v) : Kx l D tA yX2_increase cX2_increase 4 none 1 24 [.ref h, .int (nI r), .int (nI c), .int d] (tbW tA h q most cols t) none (tbW tA h q most cols (tSet cols t r c v)) := by
  refine kx_void rfl (Nat.le_of_ble_eq_true rfl) (fun G X E => ?_)
  show J l D G 0 0 (tbW tA h q most cols t) [(0, .ref h), (1, .int (nI r)), (2, .int (nI c)), (3, .int d)] 0 []
  refine j_aload_n (pc := 0) X dX2_increase_0 rfl (q := 0) rfl ?_
  refine j_iload_n (pc := 1) X dX2_increase_1 rfl (q := 1) rfl ?_
  refine j_iload_n (pc := 2) X dX2_increase_2 rfl (q := 2) rfl ?_
  refine j_aload_n (pc := 3) X dX2_increase_3 rfl (q := 0) rfl ?_
  refine j_iload_n (pc := 4) X dX2_increase_4 rfl (q := 1) rfl ?_
  refine j_iload_n (pc := 5) X dX2_increase_5 rfl (q := 2) rfl ?_
  refine j_callVR (pc := 6) X (st := [.int (nI c), .int (nI r), .ref h])  (c_X2_get l D tA h q most cols t r c (by first | assumption | omega | decide) (by first | assumption | omega | decide) (by first | assumption | omega | decide) (by first | assumption | omega | decide) (by first | assumption | omega | decide) (by first | assumption | omega | decide)) cd_X2_get wm_X2_31 0 rfl rfl rfl [0, 1] rfl rfl ⟨Nat.le_of_ble_eq_true rfl, Nat.le_of_ble_eq_true rfl⟩ ⟨Nat.zero_le _, Nat.zero_le _⟩ rfl (Nat.le_of_ble_eq_true rfl) dX2_increase_6 ?_
  refine j_iload_n (pc := 9) X dX2_increase_9 rfl (q := 3) rfl ?_
  refine j_iadd (pc := 10) X (v := (nI v)) dX2_increase_10 hd ?_
  refine j_callV (pc := 11) X (st := []) (w' := (tbW tA h q most cols (tSet cols t r c v))) (c_X2_set l D tA h q most cols t r c v (by first | assumption | omega | decide) (by first | assumption | omega | decide) (by first | assumption | omega | decide) (by first | assumption | omega | decide) (by first | assumption | omega | decide) (by first | assumption | omega | decide)) cd_X2_set wm_X2_34 0 rfl rfl rfl [0, 1] rfl rfl (tb_fst.trans tb_fst.symm) rfl ⟨Nat.le_of_ble_eq_true rfl, Nat.le_of_ble_eq_true rfl⟩ ⟨Nat.zero_le _, Nat.zero_le _⟩ rfl (Nat.le_of_ble_eq_true rfl) dX2_increase_11 ?_
  exact j_endV (pc := 14) E dX2_increase_14 rfl
theorem cd_X2_addRow : kCardV yX2_addRow cX2_addRow 3 (some .int) 0 := ⟨⟨wc_X2_addRow, wi_X2, by decide +kernel, by decide +kernel, rfl⟩, wk_X2_addRow, ws_X2_addRow⟩
set_option maxHeartbeats 4000000 in
set_option maxRecDepth 100000 in
theorem c_X2_addRow (l : Launch) (D : va_G) (tA : Nat → ClassId) (h q most cols : Nat) (t : Tb)  (hm : most < 65536) (hz : most * cols < 65536) (ht : t.1 ≤ most) (hcl : cols < 65536) (hlt : t.1 < most) : Kx l D tA yX2_addRow cX2_addRow 3 (some .int) 1 24 [.ref h] (tbW tA h q most cols t) (some (.int (nI t.1))) (tbW tA h q most cols (tAdd cols t)) := by
  refine kx_int rfl (Nat.le_of_ble_eq_true rfl) (fun G X E => ?_)
  show J l D G 0 0 (tbW tA h q most cols t) [(0, .ref h)] 0 []
  refine j_aload_n (pc := 0) X dX2_addRow_0 rfl (q := 0) rfl ?_
  refine j_callVR (pc := 1) X (st := [])  (c_X2_isFull l D tA h q most cols t  (by first | assumption | omega | decide) (by first | assumption | omega | decide) (by first | assumption | omega | decide)) cd_X2_isFull wm_X2_38 0 rfl rfl rfl [0, 1] rfl rfl ⟨Nat.le_of_ble_eq_true rfl, Nat.le_of_ble_eq_true rfl⟩ ⟨Nat.zero_le _, Nat.zero_le _⟩ rfl (Nat.le_of_ble_eq_true rfl) dX2_addRow_1 ?_
  refine j_if_eq_t (pc := 4) X (tgt := 10) dX2_addRow_4 (by decide) ((bI_0 _).mpr (by simp only [decide_eq_false_iff_not]; omega)) ?_
  refine j_aload_n (pc := 10) X dX2_addRow_10 rfl (q := 0) rfl ?_
  refine j_get (pc := 11) X (C := RX2) (T := TX2) (N := 4) wz_X2 0 rfl rfl 3 (by decide) wf_X2_28 rfl dX2_addRow_11 ?_
  refine j_istore_n (pc := 14) X (lv' := [(1, .int (nI t.1)), (0, .ref h)]) dX2_addRow_14 rfl (by decide) rfl ?_
  refine j_aload_n (pc := 15) X dX2_addRow_15 rfl (q := 1) rfl ?_
  refine j_dup (pc := 16) X dX2_addRow_16 rfl ?_
  refine j_get (pc := 17) X (C := RX2) (T := TX2) (N := 4) wz_X2 0 rfl rfl 3 (by decide) wf_X2_28 rfl dX2_addRow_17 ?_
  refine j_iconst (pc := 20) X (v := (nI 1)) dX2_addRow_20 (by decide) ?_
  refine j_iadd (pc := 21) X (v := (nI (t.1 + 1))) dX2_addRow_21 (nI_add _ _) ?_
  refine j_put (pc := 22) X (C := RX2) (T := TX2) (N := 4) wz_X2 tyX2 tyX2_ok nmX2 0 rfl rfl 3 (by decide) wf_X2_28 rfl rfl rfl (Nat.le_of_ble_eq_true rfl) (w' := (tbW tA h q most cols (t.1 + 1, t.2))) rfl dX2_addRow_22 ?_
  refine j_iconst (pc := 25) X (v := (nI 0)) dX2_addRow_25 (by decide) ?_
  refine j_istore_n (pc := 26) X (lv' := [(2, .int (nI 0)), (1, .int (nI t.1)), (0, .ref h)]) dX2_addRow_26 rfl (by decide) rfl ?_
  have L_27 : ∀ (fu : Nat) (c : Nat) (f : Nat → Nat), c ≤ cols → f = (fun j => if t.1 * cols ≤ j ∧ j < t.1 * cols + c then 0 else t.2 j) → cols - c < fu → J l D G 0 0 (tbW tA h q most cols (t.1 + 1, f)) [(0, .ref h), (1, .int (nI t.1)), (2, .int (nI c))] 27 [] := by
    intro fu
    induction fu with
    | zero => intro c f hi hf hfu; exact absurd hfu (Nat.not_lt_zero _)
    | succ fu ih_27 =>
      intro c f hi hf hfu
      refine j_iload_n (pc := 27) X dX2_addRow_27 rfl (q := 2) rfl ?_
      refine j_aload_n (pc := 28) X dX2_addRow_28 rfl (q := 0) rfl ?_
      refine j_get (pc := 29) X (C := RX2) (T := TX2) (N := 4) wz_X2 0 rfl rfl 2 (by decide) wf_X2_15 rfl dX2_addRow_29 ?_
      refine j_icmp_ge (pc := 32) X (tgt := 48) (P := cols ≤ c) dX2_addRow_32 (by decide) (nI_leI (by omega) (by omega)) (fun h32 => ?_) (fun h32 => ?_)
      · skip
        refine j_iload_n (pc := 48) X dX2_addRow_48 rfl (q := 1) rfl ?_
        exact j_endI (pc := 49) E dX2_addRow_49 rfl (by show tbW tA h q most cols (tAdd cols t) = _; rw [tAdd, hf, show c = cols by omega])
      · skip
        refine j_aload_n (pc := 35) X dX2_addRow_35 rfl (q := 0) rfl ?_
        refine j_iload_n (pc := 36) X dX2_addRow_36 rfl (q := 1) rfl ?_
        refine j_iload_n (pc := 37) X dX2_addRow_37 rfl (q := 2) rfl ?_
        refine j_iconst (pc := 38) X (v := (nI 0)) dX2_addRow_38 (by decide) ?_
        refine j_callV (pc := 39) X (st := []) (w' := (tbW tA h q most cols (tSet cols (t.1 + 1, f) t.1 c 0))) (c_X2_set l D tA h q most cols (t.1 + 1, f) t.1 c 0 hm hz (show t.1 + 1 ≤ most by omega) (show t.1 < t.1 + 1 by omega) (show c < cols by omega) hcl) cd_X2_set wm_X2_34 0 rfl rfl rfl [0, 1] rfl rfl (tb_fst.trans tb_fst.symm) rfl ⟨Nat.le_of_ble_eq_true rfl, Nat.le_of_ble_eq_true rfl⟩ ⟨Nat.zero_le _, Nat.zero_le _⟩ rfl (Nat.le_of_ble_eq_true rfl) dX2_addRow_39 ?_
        refine j_iinc (pc := 42) X (v := (nI (c + 1))) (lv' := [(2, .int (nI (c + 1))), (0, .ref h), (1, .int (nI t.1))]) dX2_addRow_42 (q := 2) rfl (nI_add _ _) (by decide) rfl ?_
        refine j_goto (pc := 45) X (tgt := 27) dX2_addRow_45 (by decide) ?_
        refine j_lv X (lv' := [(0, .ref h), (1, .int (nI t.1)), (2, .int (nI (c + 1)))]) [1, 2, 0] rfl ?_
        exact ih_27 (c + 1) (va_up f (t.1 * cols + c) 0) (by omega) (zr_step cols t hf) (by omega)
  refine j_lv X (lv' := [(0, .ref h), (1, .int (nI t.1)), (2, .int (nI 0))]) [2, 1, 0] rfl ?_
  exact L_27 _ 0 t.2 (Nat.zero_le _) (by funext j; rw [if_neg (by omega)]) (Nat.lt_succ_self _)
theorem cd_X2_removeRow : kCardV yX2_removeRow cX2_removeRow 4 none 1 := ⟨⟨wc_X2_removeRow, wi_X2, by decide +kernel, by decide +kernel, rfl⟩, wk_X2_removeRow, ws_X2_removeRow⟩
set_option maxHeartbeats 4000000 in
set_option maxRecDepth 100000 in
theorem c_X2_removeRow (l : Launch) (D : va_G) (tA : Nat → ClassId) (h q most cols : Nat) (t : Tb) (r : Nat) (hm : most < 65536) (hz : most * cols < 65536) (ht : t.1 ≤ most) (hcl : cols < 65536) (hr : r < t.1) : Kx l D tA yX2_removeRow cX2_removeRow 4 none 1 24 [.ref h, .int (nI r)] (tbW tA h q most cols t) none (tbW tA h q most cols (tDel cols t r)) := by
  refine kx_void rfl (Nat.le_of_ble_eq_true rfl) (fun G X E => ?_)
  show J l D G 0 0 (tbW tA h q most cols t) [(0, .ref h), (1, .int (nI r))] 0 []
  refine j_aload_n (pc := 0) X dX2_removeRow_0 rfl (q := 0) rfl ?_
  refine j_iload_n (pc := 1) X dX2_removeRow_1 rfl (q := 1) rfl ?_
  refine j_callVR (pc := 2) X (st := [])  (c_X2_has l D tA h q most cols t (nI r) hm hz ht) cd_X2_has wm_X2_42 0 rfl rfl rfl [0, 1] rfl rfl ⟨Nat.le_of_ble_eq_true rfl, Nat.le_of_ble_eq_true rfl⟩ ⟨Nat.zero_le _, Nat.zero_le _⟩ rfl (Nat.le_of_ble_eq_true rfl) dX2_removeRow_2 ?_
  refine j_if_ne_t (pc := 5) X (tgt := 9) dX2_removeRow_5 (by decide) ((bI_n0 _).mpr (inR_nI hr (by omega))) ?_
  refine j_iload_n (pc := 9) X dX2_removeRow_9 rfl (q := 1) rfl ?_
  refine j_iconst (pc := 10) X (v := (nI 1)) dX2_removeRow_10 (by decide) ?_
  refine j_iadd (pc := 11) X (v := (nI (r + 1))) dX2_removeRow_11 (nI_add _ _) ?_
  refine j_istore_n (pc := 12) X (lv' := [(2, .int (nI (r + 1))), (0, .ref h), (1, .int (nI r))]) dX2_removeRow_12 rfl (by decide) rfl ?_
  have L_13 : ∀ (fu : Nat) (L : Nat) (f : Nat → Nat), r + 1 ≤ L → L ≤ t.1 → f = sR cols r t.2 ((L - 1) * cols) → t.1 - L < fu → J l D G 0 0 (tbW tA h q most cols (t.1, f)) [(0, .ref h), (1, .int (nI r)), (2, .int (nI L))] 13 [] := by
    intro fu
    induction fu with
    | zero => intro L f hL hL2 hf hfu; exact absurd hfu (Nat.not_lt_zero _)
    | succ fu ih_13 =>
      intro L f hL hL2 hf hfu
      refine j_iload_n (pc := 13) X dX2_removeRow_13 rfl (q := 2) rfl ?_
      refine j_aload_n (pc := 14) X dX2_removeRow_14 rfl (q := 0) rfl ?_
      refine j_get (pc := 15) X (C := RX2) (T := TX2) (N := 4) wz_X2 0 rfl rfl 3 (by decide) wf_X2_28 rfl dX2_removeRow_15 ?_
      refine j_icmp_ge (pc := 18) X (tgt := 57) (P := ((t.1, f).1) ≤ L) dX2_removeRow_18 (by decide) (nI_leI (by omega) (by omega)) (fun h18 => ?_) (fun h18 => ?_)
      · skip
        refine j_aload_n (pc := 57) X dX2_removeRow_57 rfl (q := 0) rfl ?_
        refine j_dup (pc := 58) X dX2_removeRow_58 rfl ?_
        refine j_get (pc := 59) X (C := RX2) (T := TX2) (N := 4) wz_X2 0 rfl rfl 3 (by decide) wf_X2_28 rfl dX2_removeRow_59 ?_
        refine j_iconst (pc := 62) X (v := (nI 1)) dX2_removeRow_62 (by decide) ?_
        refine j_isub (pc := 63) X (v := (nI (((t.1, f).1) - 1))) dX2_removeRow_63 (pk_sub (by omega)) ?_
        refine j_put (pc := 64) X (C := RX2) (T := TX2) (N := 4) wz_X2 tyX2 tyX2_ok nmX2 0 rfl rfl 3 (by decide) wf_X2_28 rfl rfl rfl (Nat.le_of_ble_eq_true rfl) (w' := (tbW tA h q most cols (((t.1, f).1) - 1, (t.1, f).2))) rfl dX2_removeRow_64 ?_
        exact j_endV (pc := 67) E dX2_removeRow_67 (by show tbW tA h q most cols (tDel cols t r) = _; rw [tDel, hf, show L = t.1 by omega]; rfl)
      · skip
        refine j_iconst (pc := 21) X (v := (nI 0)) dX2_removeRow_21 (by decide) ?_
        refine j_istore_n (pc := 22) X (lv' := [(3, .int (nI 0)), (0, .ref h), (1, .int (nI r)), (2, .int (nI L))]) dX2_removeRow_22 rfl (by decide) rfl ?_
        have L_23 : ∀ (fu : Nat) (c : Nat) (g : Nat → Nat), c ≤ cols → g = sR cols r t.2 ((L - 1) * cols + c) → cols - c < fu → J l D G 0 0 (tbW tA h q most cols (t.1, g)) [(0, .ref h), (1, .int (nI r)), (2, .int (nI L)), (3, .int (nI c))] 23 [] := by
          intro fu
          induction fu with
          | zero => intro c g hc hg hfu; exact absurd hfu (Nat.not_lt_zero _)
          | succ fu ih_23 =>
            intro c g hc hg hfu
            refine j_iload_n (pc := 23) X dX2_removeRow_23 rfl (q := 3) rfl ?_
            refine j_aload_n (pc := 24) X dX2_removeRow_24 rfl (q := 0) rfl ?_
            refine j_get (pc := 25) X (C := RX2) (T := TX2) (N := 4) wz_X2 0 rfl rfl 2 (by decide) wf_X2_15 rfl dX2_removeRow_25 ?_
            refine j_icmp_ge (pc := 28) X (tgt := 51) (P := cols ≤ c) dX2_removeRow_28 (by decide) (nI_leI (by omega) (by omega)) (fun h28 => ?_) (fun h28 => ?_)
            · skip
              refine j_iinc (pc := 51) X (v := (nI (L + 1))) (lv' := [(2, .int (nI (L + 1))), (0, .ref h), (1, .int (nI r)), (3, .int (nI c))]) dX2_removeRow_51 (q := 2) rfl (nI_add _ _) (by decide) rfl ?_
              refine j_goto (pc := 54) X (tgt := 13) dX2_removeRow_54 (by decide) ?_
              refine j_lv X (lv' := [(0, .ref h), (1, .int (nI r)), (2, .int (nI (L + 1)))]) [1, 2, 0] rfl ?_
              exact ih_13 (L + 1) g (by omega) (by omega) (by rw [hg, Nat.add_sub_cancel, show c = cols by omega]; congr 1; have := Nat.succ_mul (L - 1) cols; rw [show (L - 1).succ = L by omega] at this; omega) (by omega)
            · skip
              refine j_aload_n (pc := 31) X dX2_removeRow_31 rfl (q := 0) rfl ?_
              refine j_iload_n (pc := 32) X dX2_removeRow_32 rfl (q := 2) rfl ?_
              refine j_iconst (pc := 33) X (v := (nI 1)) dX2_removeRow_33 (by decide) ?_
              refine j_isub (pc := 34) X (v := (nI (L - 1))) dX2_removeRow_34 (pk_sub (by omega)) ?_
              refine j_iload_n (pc := 35) X dX2_removeRow_35 rfl (q := 3) rfl ?_
              refine j_aload_n (pc := 36) X dX2_removeRow_36 rfl (q := 0) rfl ?_
              refine j_iload_n (pc := 37) X dX2_removeRow_37 rfl (q := 2) rfl ?_
              refine j_iload_n (pc := 38) X dX2_removeRow_38 rfl (q := 3) rfl ?_
              refine j_callVR (pc := 39) X (st := [.int (nI c), .int (nI (L - 1)), .ref h])  (c_X2_get l D tA h q most cols (t.1, g) L c hm hz ht (show L < t.1 by omega) (show c < cols by omega) hcl) cd_X2_get wm_X2_31 0 rfl rfl rfl [0, 1] rfl rfl ⟨Nat.le_of_ble_eq_true rfl, Nat.le_of_ble_eq_true rfl⟩ ⟨Nat.zero_le _, Nat.zero_le _⟩ rfl (Nat.le_of_ble_eq_true rfl) dX2_removeRow_39 ?_
              refine j_callV (pc := 42) X (st := []) (w' := (tbW tA h q most cols (tSet cols (t.1, g) (L - 1) c (tGet cols (t.1, g) L c)))) (c_X2_set l D tA h q most cols (t.1, g) (L - 1) c (tGet cols (t.1, g) L c) hm hz ht (show L - 1 < t.1 by omega) (show c < cols by omega) hcl) cd_X2_set wm_X2_34 0 rfl rfl rfl [0, 1] rfl rfl (tb_fst.trans tb_fst.symm) rfl ⟨Nat.le_of_ble_eq_true rfl, Nat.le_of_ble_eq_true rfl⟩ ⟨Nat.zero_le _, Nat.zero_le _⟩ rfl (Nat.le_of_ble_eq_true rfl) dX2_removeRow_42 ?_
              refine j_iinc (pc := 45) X (v := (nI (c + 1))) (lv' := [(3, .int (nI (c + 1))), (0, .ref h), (1, .int (nI r)), (2, .int (nI L))]) dX2_removeRow_45 (q := 3) rfl (nI_add _ _) (by decide) rfl ?_
              refine j_goto (pc := 48) X (tgt := 23) dX2_removeRow_48 (by decide) ?_
              refine j_lv X (lv' := [(0, .ref h), (1, .int (nI r)), (2, .int (nI L)), (3, .int (nI (c + 1)))]) [1, 2, 3, 0] rfl ?_
              exact ih_23 (c + 1) (va_up g ((L - 1) * cols + c) (g (L * cols + c))) (by omega) (by rw [show L * cols + c = ((L - 1) * cols + c) + cols by (have := Nat.succ_mul (L - 1) cols; rw [show (L - 1).succ = L by omega] at this; omega)]; exact sr_step hg (Nat.le_trans (Nat.mul_le_mul_right cols (show r ≤ L - 1 by omega)) (Nat.le_add_right _ _))) (by omega)
        refine j_lv X (lv' := [(0, .ref h), (1, .int (nI r)), (2, .int (nI L)), (3, .int (nI 0))]) [1, 2, 3, 0] rfl ?_
        exact L_23 _ 0 f (Nat.zero_le _) hf (Nat.lt_succ_self _)
  refine j_lv X (lv' := [(0, .ref h), (1, .int (nI r)), (2, .int (nI (r + 1)))]) [1, 2, 0] rfl ?_
  exact L_13 _ (r + 1) t.2 (Nat.le_refl _) (by omega) (by rw [Nat.add_sub_cancel]; exact sr_0.symm) (Nat.lt_succ_self _)
theorem cd_X2_countOf : kCardV yX2_countOf cX2_countOf 5 (some .int) 2 := ⟨⟨wc_X2_countOf, wi_X2, by decide +kernel, by decide +kernel, rfl⟩, wk_X2_countOf, ws_X2_countOf⟩
set_option maxHeartbeats 4000000 in
set_option maxRecDepth 100000 in
theorem c_X2_countOf (l : Launch) (D : va_G) (tA : Nat → ClassId) (h q most cols : Nat) (t : Tb) (c v : Nat) (hm : most < 65536) (hz : most * cols < 65536) (ht : t.1 ≤ most) (hcl : cols < 65536) (hc : c < cols) (hb : ∀ r, r < t.1 → tGet cols t r c < 2 ^ 31) (hv : v < 2 ^ 31) : Kx l D tA yX2_countOf cX2_countOf 5 (some .int) 1 23 [.ref h, .int (nI c), .int (nI v)] (tbW tA h q most cols t) (some (.int (nI (cntN (fun r => decide (tGet cols t r c = v)) t.1)))) (tbW tA h q most cols t) := by
  refine kx_int rfl (Nat.le_of_ble_eq_true rfl) (fun G X E => ?_)
  show J l D G 0 0 (tbW tA h q most cols t) [(0, .ref h), (1, .int (nI c)), (2, .int (nI v))] 0 []
  refine j_iconst (pc := 0) X (v := (nI 0)) dX2_countOf_0 (by decide) ?_
  refine j_istore_n (pc := 1) X (lv' := [(3, .int (nI 0)), (0, .ref h), (1, .int (nI c)), (2, .int (nI v))]) dX2_countOf_1 rfl (by decide) rfl ?_
  refine j_iconst (pc := 2) X (v := (nI 0)) dX2_countOf_2 (by decide) ?_
  refine j_istore (pc := 3) X (lv' := [(4, .int (nI 0)), (3, .int (nI 0)), (0, .ref h), (1, .int (nI c)), (2, .int (nI v))]) dX2_countOf_3 (by decide) rfl ?_
  have L_5 : ∀ (fu : Nat) (i k : Nat), i ≤ t.1 → k = cntN (fun r => decide (tGet cols t r c = v)) i → t.1 - i < fu → J l D G 0 0 (tbW tA h q most cols t) [(0, .ref h), (1, .int (nI c)), (2, .int (nI v)), (3, .int (nI k)), (4, .int (nI i))] 5 [] := by
    intro fu
    induction fu with
    | zero => intro i k hi hk hfu; exact absurd hfu (Nat.not_lt_zero _)
    | succ fu ih_5 =>
      intro i k hi hk hfu
      refine j_iload (pc := 5) X dX2_countOf_5 (q := 4) rfl ?_
      refine j_aload_n (pc := 7) X dX2_countOf_7 rfl (q := 0) rfl ?_
      refine j_get (pc := 8) X (C := RX2) (T := TX2) (N := 4) wz_X2 0 rfl rfl 3 (by decide) wf_X2_28 rfl dX2_countOf_8 ?_
      refine j_icmp_ge (pc := 11) X (tgt := 34) (P := t.1 ≤ i) dX2_countOf_11 (by decide) (nI_leI (by omega) (by omega)) (fun h11 => ?_) (fun h11 => ?_)
      · skip
        refine j_iload_n (pc := 34) X dX2_countOf_34 rfl (q := 3) rfl ?_
        exact j_endI (pc := 35) E dX2_countOf_35 (by rw [hk, show i = t.1 by omega]) rfl
      · skip
        refine j_aload_n (pc := 14) X dX2_countOf_14 rfl (q := 0) rfl ?_
        refine j_iload (pc := 15) X dX2_countOf_15 (q := 4) rfl ?_
        refine j_iload_n (pc := 17) X dX2_countOf_17 rfl (q := 1) rfl ?_
        refine j_callVR (pc := 18) X (st := [])  (c_X2_get l D tA h q most cols t i c hm hz ht (show i < t.1 by omega) hc hcl) cd_X2_get wm_X2_31 0 rfl rfl rfl [0, 1] rfl rfl ⟨Nat.le_of_ble_eq_true rfl, Nat.le_of_ble_eq_true rfl⟩ ⟨Nat.zero_le _, Nat.zero_le _⟩ rfl (Nat.le_of_ble_eq_true rfl) dX2_countOf_18 ?_
        have hbi := hb i (by omega)
        refine j_iload_n (pc := 21) X dX2_countOf_21 rfl (q := 2) rfl ?_
        refine j_icmp_ne (pc := 22) X (tgt := 28) (P := ¬ (tGet cols t i c) = v) dX2_countOf_22 (by decide) (not_congr (nI_eq (by omega) (by omega))) (fun h22 => ?_) (fun h22 => ?_)
        · skip
          refine j_iinc (pc := 28) X (v := (nI (i + 1))) (lv' := [(4, .int (nI (i + 1))), (0, .ref h), (1, .int (nI c)), (2, .int (nI v)), (3, .int (nI k))]) dX2_countOf_28 (q := 4) rfl (nI_add _ _) (by decide) rfl ?_
          refine j_goto (pc := 31) X (tgt := 5) dX2_countOf_31 (by decide) ?_
          refine j_lv X (lv' := [(0, .ref h), (1, .int (nI c)), (2, .int (nI v)), (3, .int (nI k)), (4, .int (nI (i + 1)))]) [1, 2, 3, 4, 0] rfl ?_
          exact ih_5 (i + 1) k (by omega) (cnt_f hk (by simpa using h22)) (by omega)
        · skip
          refine j_iinc (pc := 25) X (v := (nI (k + 1))) (lv' := [(3, .int (nI (k + 1))), (0, .ref h), (1, .int (nI c)), (2, .int (nI v)), (4, .int (nI i))]) dX2_countOf_25 (q := 3) rfl (nI_add _ _) (by decide) rfl ?_
          refine j_iinc (pc := 28) X (v := (nI (i + 1))) (lv' := [(4, .int (nI (i + 1))), (3, .int (nI (k + 1))), (0, .ref h), (1, .int (nI c)), (2, .int (nI v))]) dX2_countOf_28 (q := 4) rfl (nI_add _ _) (by decide) rfl ?_
          refine j_goto (pc := 31) X (tgt := 5) dX2_countOf_31 (by decide) ?_
          refine j_lv X (lv' := [(0, .ref h), (1, .int (nI c)), (2, .int (nI v)), (3, .int (nI (k + 1))), (4, .int (nI (i + 1)))]) [2, 3, 4, 1, 0] rfl ?_
          exact ih_5 (i + 1) (k + 1) (by omega) (cnt_t hk (by simpa using h22)) (by omega)
  refine j_lv X (lv' := [(0, .ref h), (1, .int (nI c)), (2, .int (nI v)), (3, .int (nI 0)), (4, .int (nI 0))]) [2, 3, 4, 1, 0] rfl ?_
  exact L_5 _ 0 0 (Nat.zero_le _) rfl (Nat.lt_succ_self _)
theorem cd_X2_countBoth : kCardV yX2_countBoth cX2_countBoth 7 (some .int) 4 := ⟨⟨wc_X2_countBoth, wi_X2, by decide +kernel, by decide +kernel, rfl⟩, wk_X2_countBoth, ws_X2_countBoth⟩
set_option maxHeartbeats 4000000 in
set_option maxRecDepth 100000 in
theorem c_X2_countBoth (l : Launch) (D : va_G) (tA : Nat → ClassId) (h q most cols : Nat) (t : Tb) (c v c2 v2 : Nat) (hm : most < 65536) (hz : most * cols < 65536) (ht : t.1 ≤ most) (hcl : cols < 65536) (hc : c < cols) (hb : ∀ r, r < t.1 → tGet cols t r c < 2 ^ 31) (hv : v < 2 ^ 31) (hc2 : c2 < cols) (hb2 : ∀ r, r < t.1 → tGet cols t r c2 < 2 ^ 31) (hv2 : v2 < 2 ^ 31) : Kx l D tA yX2_countBoth cX2_countBoth 7 (some .int) 1 23 [.ref h, .int (nI c), .int (nI v), .int (nI c2), .int (nI v2)] (tbW tA h q most cols t) (some (.int (nI (cntN (fun r => decide (tGet cols t r c = v ∧ tGet cols t r c2 = v2)) t.1)))) (tbW tA h q most cols t) := by
  refine kx_int rfl (Nat.le_of_ble_eq_true rfl) (fun G X E => ?_)
  show J l D G 0 0 (tbW tA h q most cols t) [(0, .ref h), (1, .int (nI c)), (2, .int (nI v)), (3, .int (nI c2)), (4, .int (nI v2))] 0 []
  refine j_iconst (pc := 0) X (v := (nI 0)) dX2_countBoth_0 (by decide) ?_
  refine j_istore (pc := 1) X (lv' := [(5, .int (nI 0)), (0, .ref h), (1, .int (nI c)), (2, .int (nI v)), (3, .int (nI c2)), (4, .int (nI v2))]) dX2_countBoth_1 (by decide) rfl ?_
  refine j_iconst (pc := 3) X (v := (nI 0)) dX2_countBoth_3 (by decide) ?_
  refine j_istore (pc := 4) X (lv' := [(6, .int (nI 0)), (5, .int (nI 0)), (0, .ref h), (1, .int (nI c)), (2, .int (nI v)), (3, .int (nI c2)), (4, .int (nI v2))]) dX2_countBoth_4 (by decide) rfl ?_
  have L_6 : ∀ (fu : Nat) (i k : Nat), i ≤ t.1 → k = cntN (fun r => decide (tGet cols t r c = v ∧ tGet cols t r c2 = v2)) i → t.1 - i < fu → J l D G 0 0 (tbW tA h q most cols t) [(0, .ref h), (1, .int (nI c)), (2, .int (nI v)), (3, .int (nI c2)), (4, .int (nI v2)), (5, .int (nI k)), (6, .int (nI i))] 6 [] := by
    intro fu
    induction fu with
    | zero => intro i k hi hk hfu; exact absurd hfu (Nat.not_lt_zero _)
    | succ fu ih_6 =>
      intro i k hi hk hfu
      refine j_iload (pc := 6) X dX2_countBoth_6 (q := 6) rfl ?_
      refine j_aload_n (pc := 8) X dX2_countBoth_8 rfl (q := 0) rfl ?_
      refine j_get (pc := 9) X (C := RX2) (T := TX2) (N := 4) wz_X2 0 rfl rfl 3 (by decide) wf_X2_28 rfl dX2_countBoth_9 ?_
      refine j_icmp_ge (pc := 12) X (tgt := 47) (P := t.1 ≤ i) dX2_countBoth_12 (by decide) (nI_leI (by omega) (by omega)) (fun h12 => ?_) (fun h12 => ?_)
      · skip
        refine j_iload (pc := 47) X dX2_countBoth_47 (q := 5) rfl ?_
        exact j_endI (pc := 49) E dX2_countBoth_49 (by rw [hk, show i = t.1 by omega]) rfl
      · skip
        refine j_aload_n (pc := 15) X dX2_countBoth_15 rfl (q := 0) rfl ?_
        refine j_iload (pc := 16) X dX2_countBoth_16 (q := 6) rfl ?_
        refine j_iload_n (pc := 18) X dX2_countBoth_18 rfl (q := 1) rfl ?_
        refine j_callVR (pc := 19) X (st := [])  (c_X2_get l D tA h q most cols t i c hm hz ht (show i < t.1 by omega) hc hcl) cd_X2_get wm_X2_31 0 rfl rfl rfl [0, 1] rfl rfl ⟨Nat.le_of_ble_eq_true rfl, Nat.le_of_ble_eq_true rfl⟩ ⟨Nat.zero_le _, Nat.zero_le _⟩ rfl (Nat.le_of_ble_eq_true rfl) dX2_countBoth_19 ?_
        have hbi := hb i (by omega)
        refine j_iload_n (pc := 22) X dX2_countBoth_22 rfl (q := 2) rfl ?_
        refine j_icmp_ne (pc := 23) X (tgt := 41) (P := ¬ (tGet cols t i c) = v) dX2_countBoth_23 (by decide) (not_congr (nI_eq (by omega) (by omega))) (fun h23 => ?_) (fun h23 => ?_)
        · skip
          refine j_iinc (pc := 41) X (v := (nI (i + 1))) (lv' := [(6, .int (nI (i + 1))), (0, .ref h), (1, .int (nI c)), (2, .int (nI v)), (3, .int (nI c2)), (4, .int (nI v2)), (5, .int (nI k))]) dX2_countBoth_41 (q := 6) rfl (nI_add _ _) (by decide) rfl ?_
          refine j_goto (pc := 44) X (tgt := 6) dX2_countBoth_44 (by decide) ?_
          refine j_lv X (lv' := [(0, .ref h), (1, .int (nI c)), (2, .int (nI v)), (3, .int (nI c2)), (4, .int (nI v2)), (5, .int (nI k)), (6, .int (nI (i + 1)))]) [1, 2, 3, 4, 5, 6, 0] rfl ?_
          exact ih_6 (i + 1) k (by omega) (cnt_f hk (by simp only [decide_eq_true_eq]; exact fun q => h23 q.1)) (by omega)
        · skip
          refine j_aload_n (pc := 26) X dX2_countBoth_26 rfl (q := 0) rfl ?_
          refine j_iload (pc := 27) X dX2_countBoth_27 (q := 6) rfl ?_
          refine j_iload_n (pc := 29) X dX2_countBoth_29 rfl (q := 3) rfl ?_
          refine j_callVR (pc := 30) X (st := [])  (c_X2_get l D tA h q most cols t i c2 hm hz ht (show i < t.1 by omega) hc2 hcl) cd_X2_get wm_X2_31 0 rfl rfl rfl [0, 1] rfl rfl ⟨Nat.le_of_ble_eq_true rfl, Nat.le_of_ble_eq_true rfl⟩ ⟨Nat.zero_le _, Nat.zero_le _⟩ rfl (Nat.le_of_ble_eq_true rfl) dX2_countBoth_30 ?_
          have hbi2 := hb2 i (by omega)
          refine j_iload (pc := 33) X dX2_countBoth_33 (q := 4) rfl ?_
          refine j_icmp_ne (pc := 35) X (tgt := 41) (P := ¬ (tGet cols t i c2) = v2) dX2_countBoth_35 (by decide) (not_congr (nI_eq (by omega) (by omega))) (fun h35 => ?_) (fun h35 => ?_)
          · skip
            refine j_iinc (pc := 41) X (v := (nI (i + 1))) (lv' := [(6, .int (nI (i + 1))), (0, .ref h), (1, .int (nI c)), (2, .int (nI v)), (3, .int (nI c2)), (4, .int (nI v2)), (5, .int (nI k))]) dX2_countBoth_41 (q := 6) rfl (nI_add _ _) (by decide) rfl ?_
            refine j_goto (pc := 44) X (tgt := 6) dX2_countBoth_44 (by decide) ?_
            refine j_lv X (lv' := [(0, .ref h), (1, .int (nI c)), (2, .int (nI v)), (3, .int (nI c2)), (4, .int (nI v2)), (5, .int (nI k)), (6, .int (nI (i + 1)))]) [1, 2, 3, 4, 5, 6, 0] rfl ?_
            exact ih_6 (i + 1) k (by omega) (cnt_f hk (by simp only [decide_eq_true_eq]; exact fun q => h35 q.2)) (by omega)
          · skip
            refine j_iinc (pc := 38) X (v := (nI (k + 1))) (lv' := [(5, .int (nI (k + 1))), (0, .ref h), (1, .int (nI c)), (2, .int (nI v)), (3, .int (nI c2)), (4, .int (nI v2)), (6, .int (nI i))]) dX2_countBoth_38 (q := 5) rfl (nI_add _ _) (by decide) rfl ?_
            refine j_iinc (pc := 41) X (v := (nI (i + 1))) (lv' := [(6, .int (nI (i + 1))), (5, .int (nI (k + 1))), (0, .ref h), (1, .int (nI c)), (2, .int (nI v)), (3, .int (nI c2)), (4, .int (nI v2))]) dX2_countBoth_41 (q := 6) rfl (nI_add _ _) (by decide) rfl ?_
            refine j_goto (pc := 44) X (tgt := 6) dX2_countBoth_44 (by decide) ?_
            refine j_lv X (lv' := [(0, .ref h), (1, .int (nI c)), (2, .int (nI v)), (3, .int (nI c2)), (4, .int (nI v2)), (5, .int (nI (k + 1))), (6, .int (nI (i + 1)))]) [2, 3, 4, 5, 6, 1, 0] rfl ?_
            exact ih_6 (i + 1) (k + 1) (by omega) (cnt_t hk (by simp only [decide_eq_true_eq]; exact ⟨Decidable.not_not.mp h23, Decidable.not_not.mp h35⟩)) (by omega)
  refine j_lv X (lv' := [(0, .ref h), (1, .int (nI c)), (2, .int (nI v)), (3, .int (nI c2)), (4, .int (nI v2)), (5, .int (nI 0)), (6, .int (nI 0))]) [2, 3, 4, 5, 6, 1, 0] rfl ?_
  exact L_6 _ 0 0 (Nat.zero_le _) rfl (Nat.lt_succ_self _)
theorem cd_X2_sumOf : kCardV yX2_sumOf cX2_sumOf 4 (some .int) 1 := ⟨⟨wc_X2_sumOf, wi_X2, by decide +kernel, by decide +kernel, rfl⟩, wk_X2_sumOf, ws_X2_sumOf⟩
set_option maxHeartbeats 4000000 in
set_option maxRecDepth 100000 in
theorem c_X2_sumOf (l : Launch) (D : va_G) (tA : Nat → ClassId) (h q most cols : Nat) (t : Tb) (c : Nat) (hm : most < 65536) (hz : most * cols < 65536) (ht : t.1 ≤ most) (hcl : cols < 65536) (hc : c < cols) : Kx l D tA yX2_sumOf cX2_sumOf 4 (some .int) 1 23 [.ref h, .int (nI c)] (tbW tA h q most cols t) (some (.int (nI (sumN (fun r => tGet cols t r c) t.1)))) (tbW tA h q most cols t) := by
  refine kx_int rfl (Nat.le_of_ble_eq_true rfl) (fun G X E => ?_)
  show J l D G 0 0 (tbW tA h q most cols t) [(0, .ref h), (1, .int (nI c))] 0 []
  refine j_iconst (pc := 0) X (v := (nI 0)) dX2_sumOf_0 (by decide) ?_
  refine j_istore_n (pc := 1) X (lv' := [(2, .int (nI 0)), (0, .ref h), (1, .int (nI c))]) dX2_sumOf_1 rfl (by decide) rfl ?_
  refine j_iconst (pc := 2) X (v := (nI 0)) dX2_sumOf_2 (by decide) ?_
  refine j_istore_n (pc := 3) X (lv' := [(3, .int (nI 0)), (2, .int (nI 0)), (0, .ref h), (1, .int (nI c))]) dX2_sumOf_3 rfl (by decide) rfl ?_
  have L_4 : ∀ (fu : Nat) (i k : Nat), i ≤ t.1 → k = sumN (fun r => tGet cols t r c) i → t.1 - i < fu → J l D G 0 0 (tbW tA h q most cols t) [(0, .ref h), (1, .int (nI c)), (2, .int (nI k)), (3, .int (nI i))] 4 [] := by
    intro fu
    induction fu with
    | zero => intro i k hi hk hfu; exact absurd hfu (Nat.not_lt_zero _)
    | succ fu ih_4 =>
      intro i k hi hk hfu
      refine j_iload_n (pc := 4) X dX2_sumOf_4 rfl (q := 3) rfl ?_
      refine j_aload_n (pc := 5) X dX2_sumOf_5 rfl (q := 0) rfl ?_
      refine j_get (pc := 6) X (C := RX2) (T := TX2) (N := 4) wz_X2 0 rfl rfl 3 (by decide) wf_X2_28 rfl dX2_sumOf_6 ?_
      refine j_icmp_ge (pc := 9) X (tgt := 27) (P := t.1 ≤ i) dX2_sumOf_9 (by decide) (nI_leI (by omega) (by omega)) (fun h9 => ?_) (fun h9 => ?_)
      · skip
        refine j_iload_n (pc := 27) X dX2_sumOf_27 rfl (q := 2) rfl ?_
        exact j_endI (pc := 28) E dX2_sumOf_28 (by rw [hk, show i = t.1 by omega]) rfl
      · skip
        refine j_iload_n (pc := 12) X dX2_sumOf_12 rfl (q := 2) rfl ?_
        refine j_aload_n (pc := 13) X dX2_sumOf_13 rfl (q := 0) rfl ?_
        refine j_iload_n (pc := 14) X dX2_sumOf_14 rfl (q := 3) rfl ?_
        refine j_iload_n (pc := 15) X dX2_sumOf_15 rfl (q := 1) rfl ?_
        refine j_callVR (pc := 16) X (st := [.int (nI k)])  (c_X2_get l D tA h q most cols t i c hm hz ht (show i < t.1 by omega) hc hcl) cd_X2_get wm_X2_31 0 rfl rfl rfl [0, 1] rfl rfl ⟨Nat.le_of_ble_eq_true rfl, Nat.le_of_ble_eq_true rfl⟩ ⟨Nat.zero_le _, Nat.zero_le _⟩ rfl (Nat.le_of_ble_eq_true rfl) dX2_sumOf_16 ?_
        refine j_iadd (pc := 19) X (v := (nI (k + (tGet cols t i c)))) dX2_sumOf_19 (nI_add _ _) ?_
        refine j_istore_n (pc := 20) X (lv' := [(2, .int (nI (k + (tGet cols t i c)))), (0, .ref h), (1, .int (nI c)), (3, .int (nI i))]) dX2_sumOf_20 rfl (by decide) rfl ?_
        refine j_iinc (pc := 21) X (v := (nI (i + 1))) (lv' := [(3, .int (nI (i + 1))), (2, .int (nI (k + (tGet cols t i c)))), (0, .ref h), (1, .int (nI c))]) dX2_sumOf_21 (q := 3) rfl (nI_add _ _) (by decide) rfl ?_
        refine j_goto (pc := 24) X (tgt := 4) dX2_sumOf_24 (by decide) ?_
        refine j_lv X (lv' := [(0, .ref h), (1, .int (nI c)), (2, .int (nI (k + (tGet cols t i c)))), (3, .int (nI (i + 1)))]) [2, 3, 1, 0] rfl ?_
        exact ih_4 (i + 1) (k + tGet cols t i c) (by omega) (by rw [hk]; rfl) (by omega)
  refine j_lv X (lv' := [(0, .ref h), (1, .int (nI c)), (2, .int (nI 0)), (3, .int (nI 0))]) [2, 3, 1, 0] rfl ?_
  exact L_4 _ 0 0 (Nat.zero_le _) rfl (Nat.lt_succ_self _)
theorem cd_X2_copyFrom : kCardV yX2_copyFrom cX2_copyFrom 2 none 1 := ⟨⟨wc_X2_copyFrom, wi_X2, by decide +kernel, by decide +kernel, rfl⟩, wk_X2_copyFrom, ws_X2_copyFrom⟩
set_option maxHeartbeats 4000000 in
set_option maxRecDepth 100000 in
theorem c_X2_copyFrom (l : Launch) (D : va_G) (tA : Nat → ClassId) (h q most cols : Nat) (t : Tb) (h2 q2 : Nat) (t2 : Tb) (hm : most < 65536) (hz : most * cols < 65536) (ht : t.1 ≤ most) (ht2 : t2.1 ≤ most) : Kx l D tA yX2_copyFrom cX2_copyFrom 2 none 1 18 [.ref h, .ref h2] (tbW tA h q most cols t ++ tbW tA h2 q2 most cols t2) none (tbW tA h q most cols t2 ++ tbW tA h2 q2 most cols t2) := by
  refine kx_void rfl (Nat.le_of_ble_eq_true rfl) (fun G X E => ?_)
  show J l D G 0 0 (tbW tA h q most cols t ++ tbW tA h2 q2 most cols t2) [(0, .ref h), (1, .ref h2)] 0 []
  refine j_aload_n (pc := 0) X dX2_copyFrom_0 rfl (q := 0) rfl ?_
  refine j_aload_n (pc := 1) X dX2_copyFrom_1 rfl (q := 1) rfl ?_
  refine j_get (pc := 2) X (C := RX2) (T := TX2) (N := 4) wz_X2 2 rfl rfl 3 (by decide) wf_X2_28 rfl dX2_copyFrom_2 ?_
  refine j_aload_n (pc := 5) X dX2_copyFrom_5 rfl (q := 0) rfl ?_
  refine j_get (pc := 6) X (C := RX2) (T := TX2) (N := 4) wz_X2 0 rfl rfl 1 (by decide) wf_X2_9 rfl dX2_copyFrom_6 ?_
  refine j_mmin (pc := 9) X wm_X2_46 (Nat.le_of_ble_eq_true rfl) (Nat.le_of_ble_eq_true rfl) ⟨Nat.zero_le _, Nat.zero_le _⟩ (v := (nI t2.1)) (by rw [nI_min (by omega) (by omega), Nat.min_eq_left ht2]) dX2_copyFrom_9 ?_
  refine j_put (pc := 12) X (C := RX2) (T := TX2) (N := 4) wz_X2 tyX2 tyX2_ok nmX2 0 rfl rfl 3 (by decide) wf_X2_28 rfl rfl rfl (Nat.le_of_ble_eq_true rfl) (w' := (tbW tA h q most cols (t2.1, t.2) ++ tbW tA h2 q2 most cols t2)) rfl dX2_copyFrom_12 ?_
  refine j_aload_n (pc := 15) X dX2_copyFrom_15 rfl (q := 1) rfl ?_
  refine j_get (pc := 16) X (C := RX2) (T := TX2) (N := 4) wz_X2 2 rfl rfl 0 (by decide) wf_X2_24 rfl dX2_copyFrom_16 ?_
  refine j_iconst (pc := 19) X (v := (nI 0)) dX2_copyFrom_19 (by decide) ?_
  refine j_aload_n (pc := 20) X dX2_copyFrom_20 rfl (q := 0) rfl ?_
  refine j_get (pc := 21) X (C := RX2) (T := TX2) (N := 4) wz_X2 0 rfl rfl 0 (by decide) wf_X2_24 rfl dX2_copyFrom_21 ?_
  refine j_iconst (pc := 24) X (v := (nI 0)) dX2_copyFrom_24 (by decide) ?_
  refine j_aload_n (pc := 25) X dX2_copyFrom_25 rfl (q := 1) rfl ?_
  refine j_get (pc := 26) X (C := RX2) (T := TX2) (N := 4) wz_X2 2 rfl rfl 0 (by decide) wf_X2_24 rfl dX2_copyFrom_26 ?_
  refine j_alen (pc := 29) X 3 0 rfl rfl dX2_copyFrom_29 ?_
  refine j_aload_n (pc := 30) X dX2_copyFrom_30 rfl (q := 0) rfl ?_
  refine j_get (pc := 31) X (C := RX2) (T := TX2) (N := 4) wz_X2 0 rfl rfl 0 (by decide) wf_X2_24 rfl dX2_copyFrom_31 ?_
  refine j_alen (pc := 34) X 1 0 rfl rfl dX2_copyFrom_34 ?_
  refine j_mmin (pc := 35) X wm_X2_46 (Nat.le_of_ble_eq_true rfl) (Nat.le_of_ble_eq_true rfl) ⟨Nat.zero_le _, Nat.zero_le _⟩ (v := (nI (most * cols))) (by rw [nI_min (by omega) (by omega), Nat.min_self]) dX2_copyFrom_35 ?_
  refine j_copy (pc := 38) X 3 1 rfl rfl (by omega) wm_X2_49 (Nat.le_of_ble_eq_true rfl) (Nat.le_of_ble_eq_true rfl) (w' := (tbW tA h q most cols (t2.1, t2.2) ++ tbW tA h2 q2 most cols t2)) rfl dX2_copyFrom_38 ?_
  exact j_endV (pc := 41) E dX2_copyFrom_41 rfl
end
section
abbrev Sg : Type := Tb × Tb × Tb × Tb × (Nat → Nat) × Nat × Nat × Nat × Nat
abbrev sM (s : Sg) : Tb := s.1
abbrev sP (s : Sg) : Tb := s.2.1
abbrev sB (s : Sg) : Tb := s.2.2.1
abbrev sV (s : Sg) : Tb := s.2.2.2.1
abbrev sW (s : Sg) : Nat → Nat := s.2.2.2.2.1
abbrev sN (s : Sg) : Nat := s.2.2.2.2.2.1
abbrev sD (s : Sg) : Nat := s.2.2.2.2.2.2.1
abbrev sF (s : Sg) : Nat := s.2.2.2.2.2.2.2.1
abbrev sX (s : Sg) : Nat := s.2.2.2.2.2.2.2.2
def uM (s : Sg) (t : Tb) : Sg := (t, sP s, sB s, sV s, sW s, sN s, sD s, sF s, sX s)
def uP (s : Sg) (t : Tb) : Sg := (sM s, t, sB s, sV s, sW s, sN s, sD s, sF s, sX s)
def uB (s : Sg) (t : Tb) : Sg := (sM s, sP s, t, sV s, sW s, sN s, sD s, sF s, sX s)
def uV (s : Sg) (t : Tb) : Sg := (sM s, sP s, sB s, t, sW s, sN s, sD s, sF s, sX s)
def uW (s : Sg) (f : Nat → Nat) : Sg := (sM s, sP s, sB s, sV s, f, sN s, sD s, sF s, sX s)
def uN (s : Sg) (n : Nat) : Sg := (sM s, sP s, sB s, sV s, sW s, n, sD s, sF s, sX s)
def uD (s : Sg) (n : Nat) : Sg := (sM s, sP s, sB s, sV s, sW s, sN s, n, sF s, sX s)
def uF (s : Sg) (n : Nat) : Sg := (sM s, sP s, sB s, sV s, sW s, sN s, sD s, n, sX s)
def uX (s : Sg) (n : Nat) : Sg := (sM s, sP s, sB s, sV s, sW s, sN s, sD s, sF s, n)
/-- the cells of a state, at the addresses a -/
def stW (tA : Nat → ClassId) (a : Nat → Nat) (s : Sg) : va_W :=
  [(a 0, .inr (1, [.ref (a 1), .ref (a 2), .ref (a 3), .ref (a 4), .ref (a 5), .int (nI (sN s)), .int (nI (sD s)), .int (nI (sF s)), .int (nI (sX s))])), (a 5, .inl (tA 0, 200, .inl (nF (sW s)))), (a 1, .inr (2, [.ref (a 6), .int (nI 5), .int (nI 3), .int (nI (sM s).1)])), (a 6, .inl (tA 0, 5 * 3, .inl (nF (sM s).2))), (a 2, .inr (2, [.ref (a 7), .int (nI 8), .int (nI 2), .int (nI (sP s).1)])), (a 7, .inl (tA 0, 8 * 2, .inl (nF (sP s).2))), (a 3, .inr (2, [.ref (a 8), .int (nI 30), .int (nI 8), .int (nI (sB s).1)])), (a 8, .inl (tA 0, 30 * 8, .inl (nF (sB s).2))), (a 4, .inr (2, [.ref (a 9), .int (nI 10), .int (nI 5), .int (nI (sV s).1)])), (a 9, .inl (tA 0, 10 * 5, .inl (nF (sV s).2)))]
def stA (a : Nat → Nat) : List Nat := [a 0, a 5, a 1, a 6, a 2, a 7, a 3, a 8, a 4, a 9]
theorem st_fst {tA : Nat → ClassId} {a : Nat → Nat} {s : Sg} : (stW tA a s).map Prod.fst = stA a := rfl
/-- NONE, as it stands in a cell -/
def NN : Nat := 4294967291
def noO (v : Nat) : Option Nat := if v = NN then none else some v
theorem rO_noO (v : Nat) : rO (noO v) = nI v := by
  by_cases h : v = NN
  · subst h; decide +kernel
  · simp [noO, h, rO]
def fndN (p : Nat → Bool) : Nat → Option Nat
  | 0 => none
  | n + 1 => match fndN p n with
    | some i => some i
    | none => if p n = true then some n else none
theorem fnd_at {p : Nat → Bool} {i : Nat} (h : fndN p i = none) (hp : p i = true) : fndN p (i + 1) = some i := by simp [fndN, h, hp]
theorem fnd_no {p : Nat → Bool} {i : Nat} (h : fndN p i = none) (hp : ¬ p i = true) : fndN p (i + 1) = none := by simp [fndN, h, hp]
theorem fnd_up {p : Nat → Bool} {i j : Nat} (h : fndN p j = some i) : ∀ n, j ≤ n → fndN p n = some i := by
  intro n hn
  induction n with
  | zero => rw [show j = 0 by omega] at h; exact h
  | succ n ih =>
    rcases Nat.lt_or_ge j (n + 1) with q | q
    · simp [fndN, ih (by omega)]
    · rw [show n + 1 = j by omega]; exact h
theorem fnd_lt {p : Nat → Bool} {i : Nat} : ∀ n, fndN p n = some i → i < n ∧ p i = true
  | 0, h => by simp [fndN] at h
  | n + 1, h => by
    cases e : fndN p n with
    | some j =>
      simp only [fndN, e] at h
      cases h
      have := fnd_lt n e
      exact ⟨by omega, this.2⟩
    | none =>
      simp only [fndN, e] at h
      by_cases hp : p n = true
      · rw [if_pos hp] at h; cases h; exact ⟨Nat.lt_succ_self _, hp⟩
      · rw [if_neg hp] at h; cases h
def limN (ld r : Nat) : Nat := max 10 (60 - ld / 20 - r / 2)
def brn (M : Tb) (m r : Nat) : Nat := min ((tGet 3 M m 0 * 100 + tGet 3 M m 1 * 150) / max r 2) (tGet 3 M m 0 * 10)
def bkF (B : Tb) (m h : Nat) : Option Nat := fndN (fun b => decide (tGet 8 B b 5 = 0 ∧ tGet 8 B b 1 = m ∧ tGet 8 B b 2 = h)) B.1
def canT (s : Sg) (m h ld r : Nat) : Bool := decide (ld ≤ brn (sM s) m r ∧ bkF (sB s) m h = none)
def brsB (s : Sg) (m b : Nat) : Bool := decide (tGet 8 (sB s) b 3 ≤ brn (sM s) m (tGet 8 (sB s) b 4))
def limO (B : Tb) (b : Nat) : Nat := limN (tGet 8 B b 3) (tGet 8 B b 4)
def must (s : Sg) (b : Nat) : Bool := decide (brsB s (tGet 8 (sB s) b 1) b = false ∨ limO (sB s) b < sW s (tGet 8 (sB s) b 2))
def caus (s : Sg) (b : Nat) : Option Nat :=
  if brsB s (tGet 8 (sB s) b 1) b = true then (if limO (sB s) b < tGet 8 (sB s) b 6 then some (tGet 8 (sB s) b 0) else none) else noO (tGet 3 (sM s) (tGet 8 (sB s) b 1) 2)
def nxA (V : Tb) (h : Nat) : Nat → Option Nat × Nat
  | 0 => (none, h + 1)
  | i + 1 => if tGet 5 V i 4 < (nxA V h i).2 then (some i, tGet 5 V i 4) else nxA V h i
def nxt (V : Tb) (h : Nat) : Option Nat := (nxA V h V.1).1
def payS (s : Sg) (p c : Nat) : Sg := uP s (tSet 2 (sP s) p 0 (tGet 2 (sP s) p 0 + c))
/-- the blocks go, and the member is noted -/
def mvM (M : Tb) (fr to mu who : Nat) : Tb :=
  tSet 3 (tSet 3 (tSet 3 M fr 1 (tGet 3 M fr 1 - mu)) to 1 (tGet 3 (tSet 3 M fr 1 (tGet 3 M fr 1 - mu)) to 1 + mu)) fr 2 who
def clM (s : Sg) (v : Nat) : Sg :=
  if tGet 3 (sM s) (tGet 5 (sV s) v 1) 1 < tGet 5 (sV s) v 3 ∨ 12 < tGet 3 (sM s) (tGet 5 (sV s) v 2) 1 + tGet 5 (sV s) v 3
  then uF (payS (uV s (tDel 5 (sV s) v)) (tGet 5 (sV s) v 0) 5) (sF s + 1)
  else uD (payS (uM (uV s (tDel 5 (sV s) v)) (mvM (sM s) (tGet 5 (sV s) v 1) (tGet 5 (sV s) v 2) (tGet 5 (sV s) v 3) (tGet 5 (sV s) v 0))) (tGet 5 (sV s) v 0) (5 + 2 * tGet 5 (sV s) v 3)) (sD s + 1)
def clo : Nat → Sg → Nat → Sg
  | 0, s, _ => s
  | n + 1, s, h => match nxt (sV s) h with
    | none => s
    | some v => clo n (clM s v) h
def placeS (s : Sg) (b m h : Nat) : Sg := uB s (tSet 8 (tSet 8 (tSet 8 (sB s) b 1 m) b 2 h) b 6 (sW s h))
def lftS (s : Sg) (b : Nat) : Sg := payS (uB s (tSet 8 (sB s) b 5 1)) (tGet 8 (tSet 8 (sB s) b 5 1) b 0) 30
def fre (B : Tb) (m : Nat) : Nat → Nat → Option Nat
  | 0, _ => none
  | n + 1, h => if bkF B m h = none then some h else fre B m n (h + 1)
def cryS (s : Sg) (b : Nat) : Sg := match fre (sB s) (tGet 8 (sB s) b 1) (min (sN s + 9) 199 - sN s) (sN s + 1) with
  | some h => placeS s b (tGet 8 (sB s) b 1) h
  | none => uB s (tSet 8 (sB s) b 5 2)
def cauS (s : Sg) (b : Nat) : Sg := match caus s b with
  | none => uX s (sX s + 1)
  | some p => payS (uP s (tSet 2 (sP s) p 1 (tGet 2 (sP s) p 1 + 1))) p 8
def incB (s : Sg) (b : Nat) : Sg := uB s (tSet 8 (sB s) b 7 (tGet 8 (sB s) b 7 + 1))
def stbS (s : Sg) (b : Nat) : Sg := cryS (incB (cauS s b) b) b
def stpB (q : Sg × Nat) (b : Nat) : Sg × Nat :=
  if tGet 8 (sB q.1) b 5 = 0 ∧ tGet 8 (sB q.1) b 2 = sN q.1 then (if must q.1 b = true then (stbS q.1 b, q.2) else (lftS q.1 b, q.2 + 1)) else q
def psB : Nat → Sg → Sg × Nat
  | 0, s => (s, 0)
  | n + 1, s => stpB (psB n s) n
def psC (s : Sg) : Sg × Nat := psB (sB (clo 10 s (sN s))).1 (clo 10 s (sN s))
def psH (s : Sg) : Sg × Nat := (uN (psC s).1 (sN (psC s).1 + 1), (psC s).2)
def pMach (s : Sg) (st bl : Nat) : Sg := uM s (tSet 3 (tSet 3 (tSet 3 (tAdd 3 (sM s)) (sM s).1 0 st) (sM s).1 1 bl) (sM s).1 2 NN)
def pBook (s : Sg) (p ld r : Nat) : Sg := uB s (tSet 8 (tSet 8 (tSet 8 (tSet 8 (tAdd 8 (sB s)) (sB s).1 0 p) (sB s).1 3 ld) (sB s).1 4 r) (sB s).1 5 0)
def pMove (s : Sg) (p fr to mu h : Nat) : Sg := uV s (tSet 5 (tSet 5 (tSet 5 (tSet 5 (tSet 5 (tAdd 5 (sV s)) (sV s).1 0 p) (sV s).1 1 fr) (sV s).1 2 to) (sV s).1 3 mu) (sV s).1 4 h)
def toCome (s : Sg) (x : Int32) : Bool := decide ((sN s : Int) ≤ x.toInt ∧ x.toInt < 200)
def allB (p : Nat → Bool) : Nat → Bool
  | 0 => true
  | n + 1 => allB p n && p n
def allTo (s : Sg) (t : Tb) : Bool := allB (fun r => toCome s (nI (tGet 2 t r 0))) t.1
def telW (f : Nat → Nat) (t : Tb) : Nat → (Nat → Nat)
  | 0 => f
  | n + 1 => va_up (telW f t n) (tGet 2 t n 0) (tGet 2 t n 1)
def WfT (cols most : Nat) (ok : Nat → Nat → Prop) (t : Tb) : Prop := t.1 ≤ most ∧ ∀ r, r < t.1 → ∀ c, c < cols → ok c (tGet cols t r c)
def okM (nP : Nat) : Nat → Nat → Prop
  | 0, v => 10 ≤ v ∧ v ≤ 200
  | 1, v => v ≤ 12
  | _, v => v = NN ∨ v < nP
def okB (nP nM : Nat) : Nat → Nat → Prop
  | 0, v => v < nP
  | 1, v => v < nM
  | 2, v => v < 200
  | 3, v => 1 ≤ v ∧ v ≤ 2000
  | 4, v => 2 ≤ v ∧ v ≤ 60
  | 5, v => v ≤ 3
  | 6, v => v ≤ 99
  | _, _ => True
def okV (nP nM : Nat) : Nat → Nat → Prop
  | 0, v => v < nP
  | 1, v => v < nM
  | 2, v => v < nM
  | 3, v => 1 ≤ v ∧ v ≤ 12
  | _, v => v < 200
def Wf (s : Sg) : Prop := WfT 3 5 (okM (sP s).1) (sM s) ∧ (sP s).1 ≤ 8 ∧ WfT 8 30 (okB (sP s).1 (sM s).1) (sB s) ∧ WfT 5 10 (okV (sP s).1 (sM s).1) (sV s) ∧ (∀ h, h < 200 → sW s h ≤ 99) ∧ sN s ≤ 199
theorem cell_inj {cols r c r' c' : Nat} (hc : c < cols) (hc' : c' < cols) (h : r * cols + c = r' * cols + c') : r = r' ∧ c = c' := by
  have h1 : (r * cols + c) / cols = r := by
    rw [Nat.mul_comm, Nat.mul_add_div (by omega), Nat.div_eq_of_lt hc, Nat.add_zero]
  have h2 : (r' * cols + c') / cols = r' := by
    rw [Nat.mul_comm, Nat.mul_add_div (by omega), Nat.div_eq_of_lt hc', Nat.add_zero]
  have h3 : r = r' := by rw [← h1, ← h2, h]
  subst h3
  exact ⟨rfl, by omega⟩
theorem get_set {cols r c r' c' v : Nat} {t : Tb} (hc : c < cols) (hc' : c' < cols) : tGet cols (tSet cols t r c v) r' c' = if r' = r ∧ c' = c then v else tGet cols t r' c' := by
  show va_up t.2 (r * cols + c) v (r' * cols + c') = _
  by_cases h : r' = r ∧ c' = c
  · rw [if_pos h, h.1, h.2, up_same]
  · rw [if_neg h, up_ne]
    · rfl
    · exact fun q => h (cell_inj hc' hc q)
theorem get_set_c {cols r c r' c' v : Nat} {t : Tb} (hc : c < cols) (hc' : c' < cols) (h : c' ≠ c) : tGet cols (tSet cols t r c v) r' c' = tGet cols t r' c' := by
  rw [get_set hc hc', if_neg (fun q => h q.2)]
theorem get_set_r {cols r c r' c' v : Nat} {t : Tb} (hc : c < cols) (hc' : c' < cols) (h : r' ≠ r) : tGet cols (tSet cols t r c v) r' c' = tGet cols t r' c' := by
  rw [get_set hc hc', if_neg (fun q => h q.1)]
theorem get_set_s {cols r c v : Nat} {t : Tb} (hc : c < cols) : tGet cols (tSet cols t r c v) r c = v := by
  rw [get_set hc hc, if_pos ⟨rfl, rfl⟩]
theorem get_add_o {cols r c : Nat} {t : Tb} (hr : r < t.1) (hc : c < cols) : tGet cols (tAdd cols t) r c = tGet cols t r c := by
  show (if t.1 * cols ≤ r * cols + c ∧ r * cols + c < t.1 * cols + cols then 0 else t.2 (r * cols + c)) = _
  have : r * cols + c < t.1 * cols := cell_lt hr (Nat.le_refl _) hc
  rw [if_neg (by omega)]
  rfl
theorem get_add_n {cols c : Nat} {t : Tb} (hc : c < cols) : tGet cols (tAdd cols t) t.1 c = 0 := by
  show (if t.1 * cols ≤ t.1 * cols + c ∧ t.1 * cols + c < t.1 * cols + cols then 0 else _) = 0
  rw [if_pos (by omega)]
theorem get_del {cols r r' c : Nat} {t : Tb} (hr : r' < t.1 - 1) (hc : c < cols) : tGet cols (tDel cols t r) r' c = if r ≤ r' then tGet cols t (r' + 1) c else tGet cols t r' c := by
  show (if r * cols ≤ r' * cols + c ∧ r' * cols + c < (t.1 - 1) * cols then t.2 (r' * cols + c + cols) else t.2 (r' * cols + c)) = _
  have h1 : r' * cols + c < (t.1 - 1) * cols := cell_lt hr (Nat.le_refl _) hc
  by_cases h : r ≤ r'
  · rw [if_pos h, if_pos ⟨Nat.le_trans (Nat.mul_le_mul_right cols h) (Nat.le_add_right _ _), h1⟩]
    show _ = t.2 ((r' + 1) * cols + c)
    rw [Nat.succ_mul]
    exact congrArg t.2 (by omega)
  · rw [if_neg h, if_neg]
    · rfl
    · intro q
      have : r' * cols + c < r * cols := cell_lt (show r' < r by omega) (Nat.le_refl _) hc
      omega
theorem WfT.set {cols most : Nat} {ok : Nat → Nat → Prop} {t : Tb} {r c v : Nat} (h : WfT cols most ok t) (hc : c < cols) (hv : ok c v) : WfT cols most ok (tSet cols t r c v) := by
  refine ⟨h.1, fun r' hr' c' hc' => ?_⟩
  rw [get_set hc hc']
  by_cases q : r' = r ∧ c' = c
  · rw [if_pos q, q.2]; exact hv
  · rw [if_neg q]; exact h.2 r' hr' c' hc'
theorem WfT.del {cols most : Nat} {ok : Nat → Nat → Prop} {t : Tb} {r : Nat} (h : WfT cols most ok t) : WfT cols most ok (tDel cols t r) := by
  refine ⟨Nat.le_trans (Nat.sub_le _ _) h.1, fun r' hr' c' hc' => ?_⟩
  have hr2 : r' < t.1 - 1 := hr'
  rw [get_del hr2 hc']
  by_cases q : r ≤ r'
  · rw [if_pos q]; exact h.2 (r' + 1) (by omega) c' hc'
  · rw [if_neg q]; exact h.2 r' (by omega) c' hc'
theorem WfT.imp {cols most : Nat} {ok ok' : Nat → Nat → Prop} {t : Tb} (h : WfT cols most ok t) (hi : ∀ c v, c < cols → ok c v → ok' c v) : WfT cols most ok' t := ⟨h.1, fun r hr c hc => hi c _ hc (h.2 r hr c hc)⟩
/-- what is known of a machine, a booking, a move -/
theorem Wf.m {s : Sg} (h : Wf s) {m : Nat} (hm : m < (sM s).1) : (10 ≤ tGet 3 (sM s) m 0 ∧ tGet 3 (sM s) m 0 ≤ 200) ∧ tGet 3 (sM s) m 1 ≤ 12 ∧ (tGet 3 (sM s) m 2 = NN ∨ tGet 3 (sM s) m 2 < (sP s).1) :=
  ⟨h.1.2 m hm 0 (by decide), h.1.2 m hm 1 (by decide), h.1.2 m hm 2 (by decide)⟩
theorem Wf.b {s : Sg} (h : Wf s) {b : Nat} (hb : b < (sB s).1) : tGet 8 (sB s) b 0 < (sP s).1 ∧ tGet 8 (sB s) b 1 < (sM s).1 ∧ tGet 8 (sB s) b 2 < 200 ∧ (1 ≤ tGet 8 (sB s) b 3 ∧ tGet 8 (sB s) b 3 ≤ 2000) ∧ (2 ≤ tGet 8 (sB s) b 4 ∧ tGet 8 (sB s) b 4 ≤ 60) ∧ tGet 8 (sB s) b 5 ≤ 3 ∧ tGet 8 (sB s) b 6 ≤ 99 :=
  ⟨h.2.2.1.2 b hb 0 (by decide), h.2.2.1.2 b hb 1 (by decide), h.2.2.1.2 b hb 2 (by decide), h.2.2.1.2 b hb 3 (by decide), h.2.2.1.2 b hb 4 (by decide), h.2.2.1.2 b hb 5 (by decide), h.2.2.1.2 b hb 6 (by decide)⟩
theorem Wf.v {s : Sg} (h : Wf s) {v : Nat} (hv : v < (sV s).1) : tGet 5 (sV s) v 0 < (sP s).1 ∧ tGet 5 (sV s) v 1 < (sM s).1 ∧ tGet 5 (sV s) v 2 < (sM s).1 ∧ (1 ≤ tGet 5 (sV s) v 3 ∧ tGet 5 (sV s) v 3 ≤ 12) ∧ tGet 5 (sV s) v 4 < 200 :=
  ⟨h.2.2.2.1.2 v hv 0 (by decide), h.2.2.2.1.2 v hv 1 (by decide), h.2.2.2.1.2 v hv 2 (by decide), h.2.2.2.1.2 v hv 3 (by decide), h.2.2.2.1.2 v hv 4 (by decide)⟩
theorem Wf.n {s : Sg} (h : Wf s) : (sM s).1 ≤ 5 ∧ (sP s).1 ≤ 8 ∧ (sB s).1 ≤ 30 ∧ (sV s).1 ≤ 10 ∧ sN s ≤ 199 := ⟨h.1.1, h.2.1, h.2.2.1.1, h.2.2.2.1.1, h.2.2.2.2.2⟩
theorem Wf.w {s : Sg} (h : Wf s) {i : Nat} (hi : i < 200) : sW s i ≤ 99 := h.2.2.2.2.1 i hi
theorem Wf.setB {s : Sg} (h : Wf s) {b c v : Nat} (hc : c < 8) (hv : okB (sP s).1 (sM s).1 c v) : Wf (uB s (tSet 8 (sB s) b c v)) := ⟨h.1, h.2.1, h.2.2.1.set hc hv, h.2.2.2.1, h.2.2.2.2.1, h.2.2.2.2.2⟩
theorem Wf.setP {s : Sg} (h : Wf s) {p c v : Nat} : Wf (uP s (tSet 2 (sP s) p c v)) := ⟨h.1, h.2.1, h.2.2.1, h.2.2.2.1, h.2.2.2.2.1, h.2.2.2.2.2⟩
theorem Wf.pay {s : Sg} (h : Wf s) {p c : Nat} : Wf (payS s p c) := h.setP
theorem Wf.place {s : Sg} (h : Wf s) {b m i : Nat} (hm : m < (sM s).1) (hi : i < 200) : Wf (placeS s b m i) := by
  have h1 := h.setB (b := b) (c := 1) (v := m) (by decide) hm
  have h2 := h1.setB (b := b) (c := 2) (v := i) (by decide) hi
  exact h2.setB (b := b) (c := 6) (v := sW s i) (by decide) (h.w hi)
theorem Wf.lft {s : Sg} (h : Wf s) {b : Nat} : Wf (lftS s b) := Wf.pay (h.setB (c := 5) (v := 1) (by decide) (show 1 ≤ 3 by decide))
theorem bkF_lt {B : Tb} {m h b : Nat} (e : bkF B m h = some b) : b < B.1 := (fnd_lt _ e).1
theorem fre_in {B : Tb} {m : Nat} : ∀ (n h i : Nat), fre B m n h = some i → h ≤ i ∧ i < h + n
  | 0, h, i, e => by simp [fre] at e
  | n + 1, h, i, e => by
    by_cases q : bkF B m h = none
    · simp only [fre, q, if_true] at e; cases e; omega
    · simp only [fre, if_neg q] at e
      have := fre_in n (h + 1) i e
      omega
theorem Wf.cry {s : Sg} (h : Wf s) {b : Nat} (hb : b < (sB s).1) : Wf (cryS s b) := by
  unfold cryS
  have hn := h.n
  cases e : fre (sB s) (tGet 8 (sB s) b 1) (min (sN s + 9) 199 - sN s) (sN s + 1) with
  | none => exact h.setB (c := 5) (v := 2) (by decide) (show 2 ≤ 3 by decide)
  | some i =>
    have := fre_in _ _ _ e
    exact h.place (h.b hb).2.1 (by omega)
theorem Wf.inc {s : Sg} (h : Wf s) {b : Nat} : Wf (incB s b) := h.setB (c := 7) (by decide) trivial
theorem Wf.cau {s : Sg} (h : Wf s) {b : Nat} : Wf (cauS s b) := by
  unfold cauS
  cases caus s b with
  | none => exact ⟨h.1, h.2.1, h.2.2.1, h.2.2.2.1, h.2.2.2.2.1, h.2.2.2.2.2⟩
  | some p => exact Wf.pay h.setP
theorem cau_B (s : Sg) (b : Nat) : sB (cauS s b) = sB s ∧ sN (cauS s b) = sN s ∧ sM (cauS s b) = sM s ∧ sW (cauS s b) = sW s ∧ sV (cauS s b) = sV s := by
  unfold cauS
  cases caus s b <;> exact ⟨rfl, rfl, rfl, rfl, rfl⟩
theorem cry_B (s : Sg) (b : Nat) : (sB (cryS s b)).1 = (sB s).1 ∧ sN (cryS s b) = sN s ∧ sM (cryS s b) = sM s ∧ sW (cryS s b) = sW s ∧ sV (cryS s b) = sV s := by
  unfold cryS
  cases fre (sB s) (tGet 8 (sB s) b 1) (min (sN s + 9) 199 - sN s) (sN s + 1) <;> exact ⟨rfl, rfl, rfl, rfl, rfl⟩
theorem Wf.stb {s : Sg} (h : Wf s) {b : Nat} (hb : b < (sB s).1) : Wf (stbS s b) := Wf.cry (Wf.inc h.cau) (by show b < (sB (cauS s b)).1; rw [(cau_B s b).1]; exact hb)
theorem stb_B (s : Sg) (b : Nat) : (sB (stbS s b)).1 = (sB s).1 ∧ sN (stbS s b) = sN s ∧ sM (stbS s b) = sM s ∧ sW (stbS s b) = sW s ∧ sV (stbS s b) = sV s := by
  have h1 := cry_B (incB (cauS s b) b) b
  have h2 := cau_B s b
  refine ⟨h1.1.trans (by show (sB (cauS s b)).1 = _; rw [h2.1]), h1.2.1.trans h2.2.1, h1.2.2.1.trans h2.2.2.1, h1.2.2.2.1.trans h2.2.2.2.1, h1.2.2.2.2.trans h2.2.2.2.2⟩
theorem stp_B (q : Sg × Nat) (b : Nat) : (sB (stpB q b).1).1 = (sB q.1).1 ∧ sN (stpB q b).1 = sN q.1 ∧ sM (stpB q b).1 = sM q.1 ∧ sW (stpB q b).1 = sW q.1 ∧ sV (stpB q b).1 = sV q.1 := by
  unfold stpB
  split
  · split
    · exact stb_B q.1 b
    · exact ⟨rfl, rfl, rfl, rfl, rfl⟩
  · exact ⟨rfl, rfl, rfl, rfl, rfl⟩
theorem Wf.stp {q : Sg × Nat} (h : Wf q.1) {b : Nat} (hb : b < (sB q.1).1) : Wf (stpB q b).1 := by
  unfold stpB
  split
  · split
    · exact h.stb hb
    · exact h.lft
  · exact h
theorem psB_B (s : Sg) : ∀ n, (sB (psB n s).1).1 = (sB s).1 ∧ sN (psB n s).1 = sN s ∧ sM (psB n s).1 = sM s ∧ sW (psB n s).1 = sW s ∧ sV (psB n s).1 = sV s
  | 0 => ⟨rfl, rfl, rfl, rfl, rfl⟩
  | n + 1 => by
    have h1 := psB_B s n
    have h2 := stp_B (psB n s) n
    exact ⟨h2.1.trans h1.1, h2.2.1.trans h1.2.1, h2.2.2.1.trans h1.2.2.1, h2.2.2.2.1.trans h1.2.2.2.1, h2.2.2.2.2.trans h1.2.2.2.2⟩
theorem Wf.xpsB {s : Sg} (h : Wf s) : ∀ n, n ≤ (sB s).1 → Wf (psB n s).1
  | 0, _ => h
  | n + 1, hn => Wf.stp (Wf.xpsB h n (by omega)) (by rw [(psB_B s n).1]; omega)
theorem nxA_lt (V : Tb) (h : Nat) : ∀ n v, (nxA V h n).1 = some v → v < n
  | 0, v, e => by simp [nxA] at e
  | n + 1, v, e => by
    unfold nxA at e
    split at e
    · cases e; omega
    · have := nxA_lt V h n v e; omega
theorem nxA_le (V : Tb) (h : Nat) : ∀ n, (nxA V h n).2 ≤ h + 1
  | 0 => Nat.le_refl _
  | n + 1 => by
    have := nxA_le V h n
    unfold nxA
    split
    · show tGet 5 V n 4 ≤ h + 1
      omega
    · exact this
theorem nxt_lt {V : Tb} {h v : Nat} (e : nxt V h = some v) : v < V.1 := nxA_lt V h _ v e
theorem Wf.mv {M : Tb} {nP fr to mu who : Nat} (h : WfT 3 5 (okM nP) M) (hf : fr < M.1) (ht : to < M.1) (hw : who < nP) (h1 : tGet 3 M to 1 + mu ≤ 12) (h2 : mu ≤ tGet 3 M fr 1) : WfT 3 5 (okM nP) (mvM M fr to mu who) := by
  unfold mvM
  have hfr : tGet 3 M fr 1 ≤ 12 := h.2 fr hf 1 (by decide)
  refine WfT.set (WfT.set (WfT.set h (by decide) (show _ ≤ 12 by omega)) (by decide) (show _ ≤ 12 from ?_)) (by decide) (show _ ∨ _ from Or.inr hw)
  rw [get_set (by decide) (by decide)]
  split
  · omega
  · exact h1
theorem Wf.xclM {s : Sg} (h : Wf s) {v : Nat} (hv : v < (sV s).1) : Wf (clM s v) := by
  have hw := h.v hv
  unfold clM
  split
  · exact ⟨h.1, h.2.1, h.2.2.1, h.2.2.2.1.del, h.2.2.2.2.1, h.2.2.2.2.2⟩
  · next q =>
    exact ⟨Wf.mv h.1 hw.2.1 hw.2.2.1 hw.1 (by omega) (by omega), h.2.1, h.2.2.1, h.2.2.2.1.del, h.2.2.2.2.1, h.2.2.2.2.2⟩
theorem clM_B (s : Sg) (v : Nat) : sB (clM s v) = sB s ∧ sN (clM s v) = sN s ∧ sW (clM s v) = sW s ∧ sV (clM s v) = tDel 5 (sV s) v ∧ sX (clM s v) = sX s := by
  unfold clM
  split <;> exact ⟨rfl, rfl, rfl, rfl, rfl⟩
theorem Wf.xclo : ∀ (n : Nat) {s : Sg} (_ : Wf s) (h : Nat), Wf (clo n s h)
  | 0, s, hs, h => hs
  | n + 1, s, hs, h => by
    unfold clo
    cases e : nxt (sV s) h with
    | none => exact hs
    | some v => exact Wf.xclo n (hs.xclM (nxt_lt e)) h
theorem clo_B : ∀ (n : Nat) (s : Sg) (h : Nat), sB (clo n s h) = sB s ∧ sN (clo n s h) = sN s ∧ sW (clo n s h) = sW s ∧ sX (clo n s h) = sX s
  | 0, s, h => ⟨rfl, rfl, rfl, rfl⟩
  | n + 1, s, h => by
    unfold clo
    cases e : nxt (sV s) h with
    | none => exact ⟨rfl, rfl, rfl, rfl⟩
    | some v =>
      have h1 := clo_B n (clM s v) h
      have h2 := clM_B s v
      exact ⟨h1.1.trans h2.1, h1.2.1.trans h2.2.1, h1.2.2.1.trans h2.2.2.1, h1.2.2.2.trans h2.2.2.2.2⟩
theorem psC_N (s : Sg) : sN (psC s).1 = sN s := (psB_B _ _).2.1.trans (clo_B 10 s (sN s)).2.1
theorem Wf.xpsC {s : Sg} (h : Wf s) : Wf (psC s).1 := Wf.xpsB (Wf.xclo 10 h (sN s)) _ (Nat.le_refl _)
theorem Wf.xpsH {s : Sg} (h : Wf s) (hn : sN s < 199) : Wf (psH s).1 := by
  have h1 := Wf.xpsC h
  refine ⟨h1.1, h1.2.1, h1.2.2.1, h1.2.2.2.1, h1.2.2.2.2.1, ?_⟩
  show sN (psC s).1 + 1 ≤ 199
  rw [psC_N]; omega
theorem caus_lt {s : Sg} (h : Wf s) {b p : Nat} (hb : b < (sB s).1) (e : caus s b = some p) : p < (sP s).1 := by
  have hw := h.b hb
  have hm := h.m hw.2.1
  unfold caus at e
  split at e
  · split at e
    · cases e; exact hw.1
    · cases e
  · unfold noO at e
    split at e
    · cases e
    · next q => cases e; exact hm.2.2.resolve_left q
theorem brn_lt {s : Sg} (h : Wf s) {m r : Nat} (hm : m < (sM s).1) : brn (sM s) m r ≤ 2000 := by
  have := (h.m hm).1
  unfold brn
  have := Nat.min_le_right ((tGet 3 (sM s) m 0 * 100 + tGet 3 (sM s) m 1 * 150) / max r 2) (tGet 3 (sM s) m 0 * 10)
  omega
theorem lim_i {ld r : Nat} (hl : ld ≤ 2000) (hr : r ≤ 60) : (if nI 60 - nI (ld / 20) - nI (r / 2) < nI 10 then nI 10 else nI 60 - nI (ld / 20) - nI (r / 2)) = nI (limN ld r) := by
  have e1 : (nI 60 - nI (ld / 20)).toInt = (60 : Int) - ((ld / 20 : Nat) : Int) := by
    have := pk_sub_toInt (a := 60) (b := ld / 20) (by omega) (by omega)
    simpa using this
  have e2 : (nI 60 - nI (ld / 20) - nI (r / 2)).toInt = (60 : Int) - ((ld / 20 : Nat) : Int) - ((r / 2 : Nat) : Int) := by
    have hb : (nI (r / 2)).toInt = ((r / 2 : Nat) : Int) := nI_toInt (by omega)
    rw [Int32.toInt_sub, e1, hb, Int.bmod_eq_of_le (by omega) (by omega)]
  by_cases q : 60 - ld / 20 - r / 2 < 10
  · rw [if_pos]
    · rw [limN, Nat.max_eq_left (by omega)]
    · rw [iC_ltn (by omega), e2]; omega
  · rw [if_neg]
    · rw [limN, Nat.max_eq_right (by omega), ← Int32.toInt_inj, e2, nI_toInt (by omega)]; omega
    · rw [iC_ltn (by omega), e2]; omega
theorem limN_le (ld r : Nat) : limN ld r ≤ 60 := by
  unfold limN
  have : max 10 (60 - ld / 20 - r / 2) ≤ 60 := Nat.max_le.mpr ⟨by omega, by omega⟩
  exact this
end
section
theorem nI_neg {a b : Nat} (h : b ≤ a) : nI a + -nI b = nI (a - b) := by rw [← Int32.sub_eq_add_neg]; exact pk_sub h
theorem clo_none {s : Sg} {h : Nat} (e : nxt (sV s) h = none) : ∀ n, clo n s h = s
  | 0 => rfl
  | n + 1 => by simp [clo, e]
theorem clo_some {s : Sg} {h v : Nat} (e : nxt (sV s) h = some v) (n : Nat) : clo (n + 1) s h = clo n (clM s v) h := by simp [clo, e]
def isW (x a b : Int32) : Bool := decide (a.toInt ≤ x.toInt ∧ x.toInt ≤ b.toInt)
def isRad (x : Int32) : Bool := decide (2 ≤ x.toInt ∧ x.toInt ≤ 60)
def isLft (x r : Int32) : Bool := decide ((1 ≤ x.toInt ∧ x.toInt ≤ 2000) ∧ 2 ≤ r.toInt ∧ r.toInt ≤ 60)
theorem t5 {x : Bool} (h : ¬ x = false) : x = true := by cases x <;> simp_all
theorem cd_X4_isWithin : kCardS yX4_isWithin cX4_isWithin 3 (some .boolean) 3 := ⟨⟨wc_X4_isWithin, wi_X4, by decide +kernel, by decide +kernel, rfl⟩, wt_X4_isWithin⟩
set_option maxHeartbeats 4000000 in
set_option maxRecDepth 100000 in
theorem c_X4_isWithin (l : Launch) (D : va_G) (tA : Nat → ClassId) (x a b : Int32)  : Kx l D tA yX4_isWithin cX4_isWithin 3 (some .boolean) 0 0 [.int x, .int a, .int b] ([] : va_W) (some (.int (bI (isW x a b)))) ([] : va_W) := by
  refine kx_bool rfl (Nat.le_of_ble_eq_true rfl) (fun G X E => ?_)
  show J l D G 0 0 ([] : va_W) [(0, .int x), (1, .int a), (2, .int b)] 0 []
  refine j_iload_n (pc := 0) X dX4_isWithin_0 rfl (q := 0) rfl ?_
  refine j_iload_n (pc := 1) X dX4_isWithin_1 rfl (q := 1) rfl ?_
  refine j_icmp_lt (pc := 2) X (tgt := 14) (P := x.toInt < a.toInt) dX4_isWithin_2 (by decide) Int32.lt_iff_toInt_lt (fun h2 => ?_) (fun h2 => ?_)
  · skip
    refine j_iconst (pc := 14) X (v := (nI 0)) dX4_isWithin_14 (by decide) ?_
    exact j_endI (pc := 15) E dX4_isWithin_15 (bI_f (by simp only [isW, decide_eq_false_iff_not]; omega)) rfl
  · skip
    refine j_iload_n (pc := 5) X dX4_isWithin_5 rfl (q := 0) rfl ?_
    refine j_iload_n (pc := 6) X dX4_isWithin_6 rfl (q := 2) rfl ?_
    refine j_icmp_gt (pc := 7) X (tgt := 14) (P := b.toInt < x.toInt) dX4_isWithin_7 (by decide) Int32.lt_iff_toInt_lt (fun h7 => ?_) (fun h7 => ?_)
    · skip
      refine j_iconst (pc := 14) X (v := (nI 0)) dX4_isWithin_14 (by decide) ?_
      exact j_endI (pc := 15) E dX4_isWithin_15 (bI_f (by simp only [isW, decide_eq_false_iff_not]; omega)) rfl
    · skip
      refine j_iconst (pc := 10) X (v := (nI 1)) dX4_isWithin_10 (by decide) ?_
      refine j_goto (pc := 11) X (tgt := 15) dX4_isWithin_11 (by decide) ?_
      exact j_endI (pc := 15) E dX4_isWithin_15 (bI_t (by simp only [isW, decide_eq_true_eq]; omega)) rfl
theorem cd_X4_isHalfDay : kCardS yX4_isHalfDay cX4_isHalfDay 1 (some .boolean) 1 := ⟨⟨wc_X4_isHalfDay, wi_X4, by decide +kernel, by decide +kernel, rfl⟩, wt_X4_isHalfDay⟩
set_option maxHeartbeats 4000000 in
set_option maxRecDepth 100000 in
theorem c_X4_isHalfDay (l : Launch) (D : va_G) (tA : Nat → ClassId) (x : Int32)  : Kx l D tA yX4_isHalfDay cX4_isHalfDay 1 (some .boolean) 1 22 [.int x] ([] : va_W) (some (.int (bI (inR x 200)))) ([] : va_W) := by
  refine kx_bool rfl (Nat.le_of_ble_eq_true rfl) (fun G X E => ?_)
  show J l D G 0 0 ([] : va_W) [(0, .int x)] 0 []
  refine j_iload_n (pc := 0) X dX4_isHalfDay_0 rfl (q := 0) rfl ?_
  refine j_iconst (pc := 1) X (v := (nI 0)) dX4_isHalfDay_1 (by decide) ?_
  refine j_sipush (pc := 2) X (v := (nI 199)) dX4_isHalfDay_2 (by decide) ?_
  refine j_callSR (pc := 5) X (st := [])  (c_X4_isWithin l D tA x (nI 0) (nI 199) ) cd_X4_isWithin wm_X4_40 rfl [] rfl rfl ⟨Nat.le_of_ble_eq_true rfl, Nat.le_of_ble_eq_true rfl⟩ ⟨Nat.zero_le _, Nat.zero_le _⟩ rfl (Nat.le_of_ble_eq_true rfl) dX4_isHalfDay_5 ?_
  exact j_endI (pc := 8) E dX4_isHalfDay_8 (congrArg bI (by have e1 := nI_toInt (show 199 < 2 ^ 31 by decide); have e0 := nI_toInt (show 0 < 2 ^ 31 by decide); simp only [inR, isW, e1, e0, decide_eq_decide]; omega)) rfl
theorem cd_X4_isRadius : kCardS yX4_isRadius cX4_isRadius 1 (some .boolean) 1 := ⟨⟨wc_X4_isRadius, wi_X4, by decide +kernel, by decide +kernel, rfl⟩, wt_X4_isRadius⟩
set_option maxHeartbeats 4000000 in
set_option maxRecDepth 100000 in
theorem c_X4_isRadius (l : Launch) (D : va_G) (tA : Nat → ClassId) (x : Int32)  : Kx l D tA yX4_isRadius cX4_isRadius 1 (some .boolean) 1 22 [.int x] ([] : va_W) (some (.int (bI (isRad x)))) ([] : va_W) := by
  refine kx_bool rfl (Nat.le_of_ble_eq_true rfl) (fun G X E => ?_)
  show J l D G 0 0 ([] : va_W) [(0, .int x)] 0 []
  refine j_iload_n (pc := 0) X dX4_isRadius_0 rfl (q := 0) rfl ?_
  refine j_iconst (pc := 1) X (v := (nI 2)) dX4_isRadius_1 (by decide) ?_
  refine j_bipush (pc := 2) X (v := (nI 60)) dX4_isRadius_2 (by decide) ?_
  refine j_callSR (pc := 4) X (st := [])  (c_X4_isWithin l D tA x (nI 2) (nI 60) ) cd_X4_isWithin wm_X4_40 rfl [] rfl rfl ⟨Nat.le_of_ble_eq_true rfl, Nat.le_of_ble_eq_true rfl⟩ ⟨Nat.zero_le _, Nat.zero_le _⟩ rfl (Nat.le_of_ble_eq_true rfl) dX4_isRadius_4 ?_
  exact j_endI (pc := 7) E dX4_isRadius_7 (congrArg bI (by have e1 := nI_toInt (show 60 < 2 ^ 31 by decide); have e0 := nI_toInt (show 2 < 2 ^ 31 by decide); simp only [isRad, isW, e1, e0, decide_eq_decide]; omega)) rfl
theorem cd_X4_isLift : kCardS yX4_isLift cX4_isLift 2 (some .boolean) 2 := ⟨⟨wc_X4_isLift, wi_X4, by decide +kernel, by decide +kernel, rfl⟩, wt_X4_isLift⟩
set_option maxHeartbeats 4000000 in
set_option maxRecDepth 100000 in
theorem c_X4_isLift (l : Launch) (D : va_G) (tA : Nat → ClassId) (x r : Int32)  : Kx l D tA yX4_isLift cX4_isLift 2 (some .boolean) 2 42 [.int x, .int r] ([] : va_W) (some (.int (bI (isLft x r)))) ([] : va_W) := by
  refine kx_bool rfl (Nat.le_of_ble_eq_true rfl) (fun G X E => ?_)
  show J l D G 0 0 ([] : va_W) [(0, .int x), (1, .int r)] 0 []
  have e1 := nI_toInt (show 1 < 2 ^ 31 by decide)
  have e2 := nI_toInt (show 2000 < 2 ^ 31 by decide)
  refine j_iload_n (pc := 0) X dX4_isLift_0 rfl (q := 0) rfl ?_
  refine j_iconst (pc := 1) X (v := (nI 1)) dX4_isLift_1 (by decide) ?_
  refine j_sipush (pc := 2) X (v := (nI 2000)) dX4_isLift_2 (by decide) ?_
  refine j_callSR (pc := 5) X (st := [])  (c_X4_isWithin l D tA x (nI 1) (nI 2000) ) cd_X4_isWithin wm_X4_40 rfl [] rfl rfl ⟨Nat.le_of_ble_eq_true rfl, Nat.le_of_ble_eq_true rfl⟩ ⟨Nat.zero_le _, Nat.zero_le _⟩ rfl (Nat.le_of_ble_eq_true rfl) dX4_isLift_5 ?_
  refine j_if_eq (pc := 8) X (tgt := 22) (P := (isW x (nI 1) (nI 2000)) = false) dX4_isLift_8 (by decide) (bI_0 _) (fun h8 => ?_) (fun h8 => ?_)
  · skip
    refine j_iconst (pc := 22) X (v := (nI 0)) dX4_isLift_22 (by decide) ?_
    exact j_endI (pc := 23) E dX4_isLift_23 (bI_f (by have a1 := h8; simp only [isW, isRad, isLft, e1, e2, decide_eq_false_iff_not] at a1 ⊢; omega)) rfl
  · skip
    refine j_iload_n (pc := 11) X dX4_isLift_11 rfl (q := 1) rfl ?_
    refine j_callSR (pc := 12) X (st := [])  (c_X4_isRadius l D tA r ) cd_X4_isRadius wm_X4_170 rfl [] rfl rfl ⟨Nat.le_of_ble_eq_true rfl, Nat.le_of_ble_eq_true rfl⟩ ⟨Nat.zero_le _, Nat.zero_le _⟩ rfl (Nat.le_of_ble_eq_true rfl) dX4_isLift_12 ?_
    refine j_if_eq (pc := 15) X (tgt := 22) (P := (isRad r) = false) dX4_isLift_15 (by decide) (bI_0 _) (fun h15 => ?_) (fun h15 => ?_)
    · skip
      refine j_iconst (pc := 22) X (v := (nI 0)) dX4_isLift_22 (by decide) ?_
      exact j_endI (pc := 23) E dX4_isLift_23 (bI_f (by have a1 := h15; simp only [isW, isRad, isLft, e1, e2, decide_eq_false_iff_not] at a1 ⊢; omega)) rfl
    · skip
      refine j_iconst (pc := 18) X (v := (nI 1)) dX4_isLift_18 (by decide) ?_
      refine j_goto (pc := 19) X (tgt := 23) dX4_isLift_19 (by decide) ?_
      exact j_endI (pc := 23) E dX4_isLift_23 (bI_t (by have a1 := t5 h8; have a2 := t5 h15; simp only [isW, isRad, isLft, e1, e2, decide_eq_true_eq] at a1 a2 ⊢; omega)) rfl
theorem cd_X4_limitFor : kCardS yX4_limitFor cX4_limitFor 2 (some .int) 2 := ⟨⟨wc_X4_limitFor, wi_X4, by decide +kernel, by decide +kernel, rfl⟩, wt_X4_limitFor⟩
set_option maxHeartbeats 4000000 in
set_option maxRecDepth 100000 in
theorem c_X4_limitFor (l : Launch) (D : va_G) (tA : Nat → ClassId) (ld r : Nat) (hl : ld ≤ 2000) (hr : r ≤ 60) : Kx l D tA yX4_limitFor cX4_limitFor 2 (some .int) 1 13 [.int (nI ld), .int (nI r)] ([] : va_W) (some (.int (nI (limN ld r)))) ([] : va_W) := by
  refine kx_int rfl (Nat.le_of_ble_eq_true rfl) (fun G X E => ?_)
  show J l D G 0 0 ([] : va_W) [(0, .int (nI ld)), (1, .int (nI r))] 0 []
  refine j_bipush (pc := 0) X (v := (nI 60)) dX4_limitFor_0 (by decide) ?_
  refine j_iload_n (pc := 2) X dX4_limitFor_2 rfl (q := 0) rfl ?_
  refine j_bipush (pc := 3) X (v := (nI 20)) dX4_limitFor_3 (by decide) ?_
  refine j_idiv (pc := 5) X (v := (nI (ld / 20))) dX4_limitFor_5 (nI_ne0 (by omega) (by omega)) (pk_div (by omega) (by omega) (by omega)) ?_
  refine j_isub (pc := 6) X (v := (nI 60 - nI (ld / 20))) dX4_limitFor_6 rfl ?_
  refine j_iload_n (pc := 7) X dX4_limitFor_7 rfl (q := 1) rfl ?_
  refine j_iconst (pc := 8) X (v := (nI 2)) dX4_limitFor_8 (by decide) ?_
  refine j_idiv (pc := 9) X (v := (nI (r / 2))) dX4_limitFor_9 (nI_ne0 (by omega) (by omega)) (pk_div (by omega) (by omega) (by omega)) ?_
  refine j_isub (pc := 10) X (v := (nI 60 - nI (ld / 20) - nI (r / 2))) dX4_limitFor_10 rfl ?_
  refine j_bipush (pc := 11) X (v := (nI 10)) dX4_limitFor_11 (by decide) ?_
  refine j_mmax (pc := 13) X wm_X4_216 (Nat.le_of_ble_eq_true rfl) (Nat.le_of_ble_eq_true rfl) ⟨Nat.zero_le _, Nat.zero_le _⟩ (v := (nI (limN ld r))) (lim_i hl hr) dX4_limitFor_13 ?_
  exact j_endI (pc := 16) E dX4_limitFor_16 rfl rfl
theorem cd_X1_isToCome : kCardV yX1_isToCome cX1_isToCome 2 (some .boolean) 1 := ⟨⟨wc_X1_isToCome, wi_X1, by decide +kernel, by decide +kernel, rfl⟩, wk_X1_isToCome, ws_X1_isToCome⟩
set_option maxHeartbeats 4000000 in
set_option maxRecDepth 100000 in
theorem c_X1_isToCome (l : Launch) (D : va_G) (tA : Nat → ClassId) (a : Nat → Nat) (s : Sg) (x : Int32) (hn : sN s ≤ 199) : Kx l D tA yX1_isToCome cX1_isToCome 2 (some .boolean) 2 42 [.ref (a 0), .int x] (stW tA a s) (some (.int (bI (toCome s x)))) (stW tA a s) := by
  refine kx_bool rfl (Nat.le_of_ble_eq_true rfl) (fun G X E => ?_)
  show J l D G 0 0 (stW tA a s) [(0, .ref (a 0)), (1, .int x)] 0 []
  refine j_iload_n (pc := 0) X dX1_isToCome_0 rfl (q := 1) rfl ?_
  refine j_aload_n (pc := 1) X dX1_isToCome_1 rfl (q := 0) rfl ?_
  refine j_get (pc := 2) X (C := RX1) (T := TX1) (N := 9) wz_X1 0 rfl rfl 5 (by decide) wf_X1_49 rfl dX1_isToCome_2 ?_
  refine j_icmp_lt (pc := 5) X (tgt := 19) (P := x.toInt < (((sN s) : Nat) : Int)) dX1_isToCome_5 (by decide) (iC_ltn (by omega)) (fun h5 => ?_) (fun h5 => ?_)
  · skip
    refine j_iconst (pc := 19) X (v := (nI 0)) dX1_isToCome_19 (by decide) ?_
    exact j_endI (pc := 20) E dX1_isToCome_20 (bI_f (by simp only [toCome, decide_eq_false_iff_not]; omega)) rfl
  · skip
    refine j_iload_n (pc := 8) X dX1_isToCome_8 rfl (q := 1) rfl ?_
    refine j_callNR (pc := 9) X (st := [])  (c_X4_isHalfDay l D tA x ) cd_X4_isHalfDay X.2.2.2.2.2.1.2.1 [] rfl rfl ⟨Nat.le_of_ble_eq_true rfl, Nat.le_of_ble_eq_true rfl⟩ ⟨Nat.zero_le _, Nat.zero_le _⟩ rfl (Nat.le_of_ble_eq_true rfl) dX1_isToCome_9 ?_
    refine j_if_eq (pc := 12) X (tgt := 19) (P := (inR x 200) = false) dX1_isToCome_12 (by decide) (bI_0 _) (fun h12 => ?_) (fun h12 => ?_)
    · skip
      refine j_iconst (pc := 19) X (v := (nI 0)) dX1_isToCome_19 (by decide) ?_
      exact j_endI (pc := 20) E dX1_isToCome_20 (bI_f (by have a1 := h12; simp only [inR, toCome, decide_eq_false_iff_not] at a1 ⊢; omega)) rfl
    · skip
      refine j_iconst (pc := 15) X (v := (nI 1)) dX1_isToCome_15 (by decide) ?_
      refine j_goto (pc := 16) X (tgt := 20) dX1_isToCome_16 (by decide) ?_
      exact j_endI (pc := 20) E dX1_isToCome_20 (bI_t (by have a1 := t5 h12; simp only [inR, toCome, decide_eq_true_eq] at a1 ⊢; omega)) rfl
theorem cd_X1_windAt : kCardV yX1_windAt cX1_windAt 2 (some .int) 1 := ⟨⟨wc_X1_windAt, wi_X1, by decide +kernel, by decide +kernel, rfl⟩, wk_X1_windAt, ws_X1_windAt⟩
set_option maxHeartbeats 4000000 in
set_option maxRecDepth 100000 in
theorem c_X1_windAt (l : Launch) (D : va_G) (tA : Nat → ClassId) (a : Nat → Nat) (s : Sg) (h : Nat) (hh : h < 200) : Kx l D tA yX1_windAt cX1_windAt 2 (some .int) 0 0 [.ref (a 0), .int (nI h)] (stW tA a s) (some (.int (nI (sW s h)))) (stW tA a s) := by
  refine kx_int rfl (Nat.le_of_ble_eq_true rfl) (fun G X E => ?_)
  show J l D G 0 0 (stW tA a s) [(0, .ref (a 0)), (1, .int (nI h))] 0 []
  refine j_iload_n (pc := 0) X dX1_windAt_0 rfl (q := 1) rfl ?_
  refine j_if_lt_f (pc := 1) X (tgt := 22) dX1_windAt_1 (by decide) (nI_pos (by omega)) ?_
  refine j_iload_n (pc := 4) X dX1_windAt_4 rfl (q := 1) rfl ?_
  refine j_aload_n (pc := 5) X dX1_windAt_5 rfl (q := 0) rfl ?_
  refine j_get (pc := 6) X (C := RX1) (T := TX1) (N := 9) wz_X1 0 rfl rfl 4 (by decide) wf_X1_29 rfl dX1_windAt_6 ?_
  refine j_alen (pc := 9) X 1 0 rfl rfl dX1_windAt_9 ?_
  refine j_icmp_ge_f (pc := 10) X (tgt := 22) dX1_windAt_10 (by decide) (nI_ge hh (by omega)) ?_
  refine j_aload_n (pc := 13) X dX1_windAt_13 rfl (q := 0) rfl ?_
  refine j_get (pc := 14) X (C := RX1) (T := TX1) (N := 9) wz_X1 0 rfl rfl 4 (by decide) wf_X1_29 rfl dX1_windAt_14 ?_
  refine j_iload_n (pc := 17) X dX1_windAt_17 rfl (q := 1) rfl ?_
  refine j_iald (pc := 18) X 1 (i := h) rfl (by omega) (by omega) dX1_windAt_18 ?_
  refine j_goto (pc := 19) X (tgt := 23) dX1_windAt_19 (by decide) ?_
  exact j_endI (pc := 23) E dX1_windAt_23 rfl rfl
theorem cd_X1_tellWind : kCardV yX1_tellWind cX1_tellWind 3 none 2 := ⟨⟨wc_X1_tellWind, wi_X1, by decide +kernel, by decide +kernel, rfl⟩, wk_X1_tellWind, ws_X1_tellWind⟩
set_option maxHeartbeats 4000000 in
set_option maxRecDepth 100000 in
theorem c_X1_tellWind (l : Launch) (D : va_G) (tA : Nat → ClassId) (a : Nat → Nat) (s : Sg) (h v : Nat) (hh : h < 200) : Kx l D tA yX1_tellWind cX1_tellWind 3 none 0 0 [.ref (a 0), .int (nI h), .int (nI v)] (stW tA a s) none (stW tA a (uW s (va_up (sW s) h v))) := by
  refine kx_void rfl (Nat.le_of_ble_eq_true rfl) (fun G X E => ?_)
  show J l D G 0 0 (stW tA a s) [(0, .ref (a 0)), (1, .int (nI h)), (2, .int (nI v))] 0 []
  refine j_iload_n (pc := 0) X dX1_tellWind_0 rfl (q := 1) rfl ?_
  refine j_if_lt_f (pc := 1) X (tgt := 20) dX1_tellWind_1 (by decide) (nI_pos (by omega)) ?_
  refine j_iload_n (pc := 4) X dX1_tellWind_4 rfl (q := 1) rfl ?_
  refine j_aload_n (pc := 5) X dX1_tellWind_5 rfl (q := 0) rfl ?_
  refine j_get (pc := 6) X (C := RX1) (T := TX1) (N := 9) wz_X1 0 rfl rfl 4 (by decide) wf_X1_29 rfl dX1_tellWind_6 ?_
  refine j_alen (pc := 9) X 1 0 rfl rfl dX1_tellWind_9 ?_
  refine j_icmp_ge_f (pc := 10) X (tgt := 20) dX1_tellWind_10 (by decide) (nI_ge hh (by omega)) ?_
  refine j_aload_n (pc := 13) X dX1_tellWind_13 rfl (q := 0) rfl ?_
  refine j_get (pc := 14) X (C := RX1) (T := TX1) (N := 9) wz_X1 0 rfl rfl 4 (by decide) wf_X1_29 rfl dX1_tellWind_14 ?_
  refine j_iload_n (pc := 17) X dX1_tellWind_17 rfl (q := 1) rfl ?_
  refine j_iload_n (pc := 18) X dX1_tellWind_18 rfl (q := 2) rfl ?_
  refine j_iast (pc := 19) X 1 (i := h) (v := v) rfl (by omega) (by omega) (w' := (stW tA a (uW s (va_up (sW s) h v)))) rfl dX1_tellWind_19 ?_
  exact j_endV (pc := 20) E dX1_tellWind_20 rfl
theorem cd_X1_putMachine : kCardV yX1_putMachine cX1_putMachine 4 (some .int) 2 := ⟨⟨wc_X1_putMachine, wi_X1, by decide +kernel, by decide +kernel, rfl⟩, wk_X1_putMachine, ws_X1_putMachine⟩
set_option maxHeartbeats 4000000 in
set_option maxRecDepth 100000 in
theorem c_X1_putMachine (l : Launch) (D : va_G) (tA : Nat → ClassId) (a : Nat → Nat) (s : Sg) (st bl : Nat) (hlt : (sM s).1 < 5) : Kx l D tA yX1_putMachine cX1_putMachine 4 (some .int) 2 46 [.ref (a 0), .int (nI st), .int (nI bl)] (stW tA a s) (some (.int (nI ((sM s).1)))) (stW tA a (pMach s st bl)) := by
  refine kx_int rfl (Nat.le_of_ble_eq_true rfl) (fun G X E => ?_)
  show J l D G 0 0 (stW tA a s) [(0, .ref (a 0)), (1, .int (nI st)), (2, .int (nI bl))] 0 []
  refine j_aload_n (pc := 0) X dX1_putMachine_0 rfl (q := 0) rfl ?_
  refine j_get (pc := 1) X (C := RX1) (T := TX1) (N := 9) wz_X1 0 rfl rfl 0 (by decide) wf_X1_14 rfl dX1_putMachine_1 ?_
  refine j_callV (pc := 4) X (st := []) (w' := (stW tA a (uM s (tAdd 3 (sM s))))) (c_X2_addRow l D tA (a 1) (a 6) 5 3 (sM s)  (by first | assumption | omega | decide) (by first | assumption | omega | decide) (by first | assumption | omega | decide) (by first | assumption | omega | decide) (by first | assumption | omega | decide)) cd_X2_addRow wm_X1_79 2 rfl rfl rfl [2, 3] rfl rfl (tb_fst.trans tb_fst.symm) rfl ⟨Nat.le_of_ble_eq_true rfl, Nat.le_of_ble_eq_true rfl⟩ ⟨Nat.zero_le _, Nat.zero_le _⟩ rfl (Nat.le_of_ble_eq_true rfl) dX1_putMachine_4 ?_
  refine j_istore_n (pc := 7) X (lv' := [(3, .int (nI ((sM s).1))), (0, .ref (a 0)), (1, .int (nI st)), (2, .int (nI bl))]) dX1_putMachine_7 rfl (by decide) rfl ?_
  refine j_aload_n (pc := 8) X dX1_putMachine_8 rfl (q := 1) rfl ?_
  refine j_get (pc := 9) X (C := RX1) (T := TX1) (N := 9) wz_X1 0 rfl rfl 0 (by decide) wf_X1_14 rfl dX1_putMachine_9 ?_
  refine j_iload_n (pc := 12) X dX1_putMachine_12 rfl (q := 0) rfl ?_
  refine j_iconst (pc := 13) X (v := (nI 0)) dX1_putMachine_13 (by decide) ?_
  refine j_iload_n (pc := 14) X dX1_putMachine_14 rfl (q := 2) rfl ?_
  refine j_callV (pc := 15) X (st := []) (w' := (stW tA a (uM s (tSet 3 (tAdd 3 (sM s)) ((sM s).1) 0 st)))) (c_X2_set l D tA (a 1) (a 6) 5 3 (tAdd 3 (sM s)) ((sM s).1) 0 st (by decide) (by decide) (show (sM s).1 + 1 ≤ 5 by omega) (show (sM s).1 < (sM s).1 + 1 by omega) (by decide) (by decide)) cd_X2_set wm_X1_82 2 rfl rfl rfl [2, 3] rfl rfl (tb_fst.trans tb_fst.symm) rfl ⟨Nat.le_of_ble_eq_true rfl, Nat.le_of_ble_eq_true rfl⟩ ⟨Nat.zero_le _, Nat.zero_le _⟩ rfl (Nat.le_of_ble_eq_true rfl) dX1_putMachine_15 ?_
  refine j_aload_n (pc := 18) X dX1_putMachine_18 rfl (q := 1) rfl ?_
  refine j_get (pc := 19) X (C := RX1) (T := TX1) (N := 9) wz_X1 0 rfl rfl 0 (by decide) wf_X1_14 rfl dX1_putMachine_19 ?_
  refine j_iload_n (pc := 22) X dX1_putMachine_22 rfl (q := 0) rfl ?_
  refine j_iconst (pc := 23) X (v := (nI 1)) dX1_putMachine_23 (by decide) ?_
  refine j_iload_n (pc := 24) X dX1_putMachine_24 rfl (q := 3) rfl ?_
  refine j_callV (pc := 25) X (st := []) (w' := (stW tA a (uM s (tSet 3 (tSet 3 (tAdd 3 (sM s)) ((sM s).1) 0 st) ((sM s).1) 1 bl)))) (c_X2_set l D tA (a 1) (a 6) 5 3 (tSet 3 (tAdd 3 (sM s)) ((sM s).1) 0 st) ((sM s).1) 1 bl (by decide) (by decide) (show (sM s).1 + 1 ≤ 5 by omega) (show (sM s).1 < (sM s).1 + 1 by omega) (by decide) (by decide)) cd_X2_set wm_X1_82 2 rfl rfl rfl [2, 3] rfl rfl (tb_fst.trans tb_fst.symm) rfl ⟨Nat.le_of_ble_eq_true rfl, Nat.le_of_ble_eq_true rfl⟩ ⟨Nat.zero_le _, Nat.zero_le _⟩ rfl (Nat.le_of_ble_eq_true rfl) dX1_putMachine_25 ?_
  refine j_aload_n (pc := 28) X dX1_putMachine_28 rfl (q := 1) rfl ?_
  refine j_get (pc := 29) X (C := RX1) (T := TX1) (N := 9) wz_X1 0 rfl rfl 0 (by decide) wf_X1_14 rfl dX1_putMachine_29 ?_
  refine j_iload_n (pc := 32) X dX1_putMachine_32 rfl (q := 0) rfl ?_
  refine j_iconst (pc := 33) X (v := (nI 2)) dX1_putMachine_33 (by decide) ?_
  refine j_bipush (pc := 34) X (v := (nI NN)) dX1_putMachine_34 (by decide +kernel) ?_
  refine j_callV (pc := 36) X (st := []) (w' := (stW tA a (uM s (tSet 3 (tSet 3 (tSet 3 (tAdd 3 (sM s)) ((sM s).1) 0 st) ((sM s).1) 1 bl) ((sM s).1) 2 NN)))) (c_X2_set l D tA (a 1) (a 6) 5 3 (tSet 3 (tSet 3 (tAdd 3 (sM s)) ((sM s).1) 0 st) ((sM s).1) 1 bl) ((sM s).1) 2 NN (by decide) (by decide) (show (sM s).1 + 1 ≤ 5 by omega) (show (sM s).1 < (sM s).1 + 1 by omega) (by decide) (by decide)) cd_X2_set wm_X1_82 2 rfl rfl rfl [2, 3] rfl rfl (tb_fst.trans tb_fst.symm) rfl ⟨Nat.le_of_ble_eq_true rfl, Nat.le_of_ble_eq_true rfl⟩ ⟨Nat.zero_le _, Nat.zero_le _⟩ rfl (Nat.le_of_ble_eq_true rfl) dX1_putMachine_36 ?_
  refine j_iload_n (pc := 39) X dX1_putMachine_39 rfl (q := 0) rfl ?_
  exact j_endI (pc := 40) E dX1_putMachine_40 rfl rfl
theorem cd_X1_putBooking : kCardV yX1_putBooking cX1_putBooking 5 (some .int) 3 := ⟨⟨wc_X1_putBooking, wi_X1, by decide +kernel, by decide +kernel, rfl⟩, wk_X1_putBooking, ws_X1_putBooking⟩
set_option maxHeartbeats 4000000 in
set_option maxRecDepth 100000 in
theorem c_X1_putBooking (l : Launch) (D : va_G) (tA : Nat → ClassId) (a : Nat → Nat) (s : Sg) (p ld r : Nat) (hlt : (sB s).1 < 30) : Kx l D tA yX1_putBooking cX1_putBooking 5 (some .int) 2 46 [.ref (a 0), .int (nI p), .int (nI ld), .int (nI r)] (stW tA a s) (some (.int (nI ((sB s).1)))) (stW tA a (pBook s p ld r)) := by
  refine kx_int rfl (Nat.le_of_ble_eq_true rfl) (fun G X E => ?_)
  show J l D G 0 0 (stW tA a s) [(0, .ref (a 0)), (1, .int (nI p)), (2, .int (nI ld)), (3, .int (nI r))] 0 []
  refine j_aload_n (pc := 0) X dX1_putBooking_0 rfl (q := 0) rfl ?_
  refine j_get (pc := 1) X (C := RX1) (T := TX1) (N := 9) wz_X1 0 rfl rfl 2 (by decide) wf_X1_23 rfl dX1_putBooking_1 ?_
  refine j_callV (pc := 4) X (st := []) (w' := (stW tA a (uB s (tAdd 8 (sB s))))) (c_X2_addRow l D tA (a 3) (a 8) 30 8 (sB s)  (by first | assumption | omega | decide) (by first | assumption | omega | decide) (by first | assumption | omega | decide) (by first | assumption | omega | decide) (by first | assumption | omega | decide)) cd_X2_addRow wm_X1_79 6 rfl rfl rfl [6, 7] rfl rfl (tb_fst.trans tb_fst.symm) rfl ⟨Nat.le_of_ble_eq_true rfl, Nat.le_of_ble_eq_true rfl⟩ ⟨Nat.zero_le _, Nat.zero_le _⟩ rfl (Nat.le_of_ble_eq_true rfl) dX1_putBooking_4 ?_
  refine j_istore (pc := 7) X (lv' := [(4, .int (nI ((sB s).1))), (0, .ref (a 0)), (1, .int (nI p)), (2, .int (nI ld)), (3, .int (nI r))]) dX1_putBooking_7 (by decide) rfl ?_
  refine j_aload_n (pc := 9) X dX1_putBooking_9 rfl (q := 1) rfl ?_
  refine j_get (pc := 10) X (C := RX1) (T := TX1) (N := 9) wz_X1 0 rfl rfl 2 (by decide) wf_X1_23 rfl dX1_putBooking_10 ?_
  refine j_iload (pc := 13) X dX1_putBooking_13 (q := 0) rfl ?_
  refine j_iconst (pc := 15) X (v := (nI 0)) dX1_putBooking_15 (by decide) ?_
  refine j_iload_n (pc := 16) X dX1_putBooking_16 rfl (q := 2) rfl ?_
  refine j_callV (pc := 17) X (st := []) (w' := (stW tA a (uB s (tSet 8 (tAdd 8 (sB s)) ((sB s).1) 0 p)))) (c_X2_set l D tA (a 3) (a 8) 30 8 (tAdd 8 (sB s)) ((sB s).1) 0 p (by decide) (by decide) (show (sB s).1 + 1 ≤ 30 by omega) (show (sB s).1 < (sB s).1 + 1 by omega) (by decide) (by decide)) cd_X2_set wm_X1_82 6 rfl rfl rfl [6, 7] rfl rfl (tb_fst.trans tb_fst.symm) rfl ⟨Nat.le_of_ble_eq_true rfl, Nat.le_of_ble_eq_true rfl⟩ ⟨Nat.zero_le _, Nat.zero_le _⟩ rfl (Nat.le_of_ble_eq_true rfl) dX1_putBooking_17 ?_
  refine j_aload_n (pc := 20) X dX1_putBooking_20 rfl (q := 1) rfl ?_
  refine j_get (pc := 21) X (C := RX1) (T := TX1) (N := 9) wz_X1 0 rfl rfl 2 (by decide) wf_X1_23 rfl dX1_putBooking_21 ?_
  refine j_iload (pc := 24) X dX1_putBooking_24 (q := 0) rfl ?_
  refine j_iconst (pc := 26) X (v := (nI 3)) dX1_putBooking_26 (by decide) ?_
  refine j_iload_n (pc := 27) X dX1_putBooking_27 rfl (q := 3) rfl ?_
  refine j_callV (pc := 28) X (st := []) (w' := (stW tA a (uB s (tSet 8 (tSet 8 (tAdd 8 (sB s)) ((sB s).1) 0 p) ((sB s).1) 3 ld)))) (c_X2_set l D tA (a 3) (a 8) 30 8 (tSet 8 (tAdd 8 (sB s)) ((sB s).1) 0 p) ((sB s).1) 3 ld (by decide) (by decide) (show (sB s).1 + 1 ≤ 30 by omega) (show (sB s).1 < (sB s).1 + 1 by omega) (by decide) (by decide)) cd_X2_set wm_X1_82 6 rfl rfl rfl [6, 7] rfl rfl (tb_fst.trans tb_fst.symm) rfl ⟨Nat.le_of_ble_eq_true rfl, Nat.le_of_ble_eq_true rfl⟩ ⟨Nat.zero_le _, Nat.zero_le _⟩ rfl (Nat.le_of_ble_eq_true rfl) dX1_putBooking_28 ?_
  refine j_aload_n (pc := 31) X dX1_putBooking_31 rfl (q := 1) rfl ?_
  refine j_get (pc := 32) X (C := RX1) (T := TX1) (N := 9) wz_X1 0 rfl rfl 2 (by decide) wf_X1_23 rfl dX1_putBooking_32 ?_
  refine j_iload (pc := 35) X dX1_putBooking_35 (q := 0) rfl ?_
  refine j_iconst (pc := 37) X (v := (nI 4)) dX1_putBooking_37 (by decide) ?_
  refine j_iload_n (pc := 38) X dX1_putBooking_38 rfl (q := 4) rfl ?_
  refine j_callV (pc := 39) X (st := []) (w' := (stW tA a (uB s (tSet 8 (tSet 8 (tSet 8 (tAdd 8 (sB s)) ((sB s).1) 0 p) ((sB s).1) 3 ld) ((sB s).1) 4 r)))) (c_X2_set l D tA (a 3) (a 8) 30 8 (tSet 8 (tSet 8 (tAdd 8 (sB s)) ((sB s).1) 0 p) ((sB s).1) 3 ld) ((sB s).1) 4 r (by decide) (by decide) (show (sB s).1 + 1 ≤ 30 by omega) (show (sB s).1 < (sB s).1 + 1 by omega) (by decide) (by decide)) cd_X2_set wm_X1_82 6 rfl rfl rfl [6, 7] rfl rfl (tb_fst.trans tb_fst.symm) rfl ⟨Nat.le_of_ble_eq_true rfl, Nat.le_of_ble_eq_true rfl⟩ ⟨Nat.zero_le _, Nat.zero_le _⟩ rfl (Nat.le_of_ble_eq_true rfl) dX1_putBooking_39 ?_
  refine j_aload_n (pc := 42) X dX1_putBooking_42 rfl (q := 1) rfl ?_
  refine j_get (pc := 43) X (C := RX1) (T := TX1) (N := 9) wz_X1 0 rfl rfl 2 (by decide) wf_X1_23 rfl dX1_putBooking_43 ?_
  refine j_iload (pc := 46) X dX1_putBooking_46 (q := 0) rfl ?_
  refine j_iconst (pc := 48) X (v := (nI 5)) dX1_putBooking_48 (by decide) ?_
  refine j_iconst (pc := 49) X (v := (nI 0)) dX1_putBooking_49 (by decide) ?_
  refine j_callV (pc := 50) X (st := []) (w' := (stW tA a (uB s (tSet 8 (tSet 8 (tSet 8 (tSet 8 (tAdd 8 (sB s)) ((sB s).1) 0 p) ((sB s).1) 3 ld) ((sB s).1) 4 r) ((sB s).1) 5 0)))) (c_X2_set l D tA (a 3) (a 8) 30 8 (tSet 8 (tSet 8 (tSet 8 (tAdd 8 (sB s)) ((sB s).1) 0 p) ((sB s).1) 3 ld) ((sB s).1) 4 r) ((sB s).1) 5 0 (by decide) (by decide) (show (sB s).1 + 1 ≤ 30 by omega) (show (sB s).1 < (sB s).1 + 1 by omega) (by decide) (by decide)) cd_X2_set wm_X1_82 6 rfl rfl rfl [6, 7] rfl rfl (tb_fst.trans tb_fst.symm) rfl ⟨Nat.le_of_ble_eq_true rfl, Nat.le_of_ble_eq_true rfl⟩ ⟨Nat.zero_le _, Nat.zero_le _⟩ rfl (Nat.le_of_ble_eq_true rfl) dX1_putBooking_50 ?_
  refine j_iload (pc := 53) X dX1_putBooking_53 (q := 0) rfl ?_
  exact j_endI (pc := 55) E dX1_putBooking_55 rfl rfl
theorem cd_X1_putMove : kCardV yX1_putMove cX1_putMove 7 (some .int) 5 := ⟨⟨wc_X1_putMove, wi_X1, by decide +kernel, by decide +kernel, rfl⟩, wk_X1_putMove, ws_X1_putMove⟩
set_option maxHeartbeats 4000000 in
set_option maxRecDepth 100000 in
theorem c_X1_putMove (l : Launch) (D : va_G) (tA : Nat → ClassId) (a : Nat → Nat) (s : Sg) (p fr to mu h : Nat) (hlt : (sV s).1 < 10) : Kx l D tA yX1_putMove cX1_putMove 7 (some .int) 2 46 [.ref (a 0), .int (nI p), .int (nI fr), .int (nI to), .int (nI mu), .int (nI h)] (stW tA a s) (some (.int (nI ((sV s).1)))) (stW tA a (pMove s p fr to mu h)) := by
  refine kx_int rfl (Nat.le_of_ble_eq_true rfl) (fun G X E => ?_)
  show J l D G 0 0 (stW tA a s) [(0, .ref (a 0)), (1, .int (nI p)), (2, .int (nI fr)), (3, .int (nI to)), (4, .int (nI mu)), (5, .int (nI h))] 0 []
  refine j_aload_n (pc := 0) X dX1_putMove_0 rfl (q := 0) rfl ?_
  refine j_get (pc := 1) X (C := RX1) (T := TX1) (N := 9) wz_X1 0 rfl rfl 3 (by decide) wf_X1_26 rfl dX1_putMove_1 ?_
  refine j_callV (pc := 4) X (st := []) (w' := (stW tA a (uV s (tAdd 5 (sV s))))) (c_X2_addRow l D tA (a 4) (a 9) 10 5 (sV s)  (by first | assumption | omega | decide) (by first | assumption | omega | decide) (by first | assumption | omega | decide) (by first | assumption | omega | decide) (by first | assumption | omega | decide)) cd_X2_addRow wm_X1_79 8 rfl rfl rfl [8, 9] rfl rfl (tb_fst.trans tb_fst.symm) rfl ⟨Nat.le_of_ble_eq_true rfl, Nat.le_of_ble_eq_true rfl⟩ ⟨Nat.zero_le _, Nat.zero_le _⟩ rfl (Nat.le_of_ble_eq_true rfl) dX1_putMove_4 ?_
  refine j_istore (pc := 7) X (lv' := [(6, .int (nI ((sV s).1))), (0, .ref (a 0)), (1, .int (nI p)), (2, .int (nI fr)), (3, .int (nI to)), (4, .int (nI mu)), (5, .int (nI h))]) dX1_putMove_7 (by decide) rfl ?_
  refine j_aload_n (pc := 9) X dX1_putMove_9 rfl (q := 1) rfl ?_
  refine j_get (pc := 10) X (C := RX1) (T := TX1) (N := 9) wz_X1 0 rfl rfl 3 (by decide) wf_X1_26 rfl dX1_putMove_10 ?_
  refine j_iload (pc := 13) X dX1_putMove_13 (q := 0) rfl ?_
  refine j_iconst (pc := 15) X (v := (nI 0)) dX1_putMove_15 (by decide) ?_
  refine j_iload_n (pc := 16) X dX1_putMove_16 rfl (q := 2) rfl ?_
  refine j_callV (pc := 17) X (st := []) (w' := (stW tA a (uV s (tSet 5 (tAdd 5 (sV s)) ((sV s).1) 0 p)))) (c_X2_set l D tA (a 4) (a 9) 10 5 (tAdd 5 (sV s)) ((sV s).1) 0 p (by decide) (by decide) (show (sV s).1 + 1 ≤ 10 by omega) (show (sV s).1 < (sV s).1 + 1 by omega) (by decide) (by decide)) cd_X2_set wm_X1_82 8 rfl rfl rfl [8, 9] rfl rfl (tb_fst.trans tb_fst.symm) rfl ⟨Nat.le_of_ble_eq_true rfl, Nat.le_of_ble_eq_true rfl⟩ ⟨Nat.zero_le _, Nat.zero_le _⟩ rfl (Nat.le_of_ble_eq_true rfl) dX1_putMove_17 ?_
  refine j_aload_n (pc := 20) X dX1_putMove_20 rfl (q := 1) rfl ?_
  refine j_get (pc := 21) X (C := RX1) (T := TX1) (N := 9) wz_X1 0 rfl rfl 3 (by decide) wf_X1_26 rfl dX1_putMove_21 ?_
  refine j_iload (pc := 24) X dX1_putMove_24 (q := 0) rfl ?_
  refine j_iconst (pc := 26) X (v := (nI 1)) dX1_putMove_26 (by decide) ?_
  refine j_iload_n (pc := 27) X dX1_putMove_27 rfl (q := 3) rfl ?_
  refine j_callV (pc := 28) X (st := []) (w' := (stW tA a (uV s (tSet 5 (tSet 5 (tAdd 5 (sV s)) ((sV s).1) 0 p) ((sV s).1) 1 fr)))) (c_X2_set l D tA (a 4) (a 9) 10 5 (tSet 5 (tAdd 5 (sV s)) ((sV s).1) 0 p) ((sV s).1) 1 fr (by decide) (by decide) (show (sV s).1 + 1 ≤ 10 by omega) (show (sV s).1 < (sV s).1 + 1 by omega) (by decide) (by decide)) cd_X2_set wm_X1_82 8 rfl rfl rfl [8, 9] rfl rfl (tb_fst.trans tb_fst.symm) rfl ⟨Nat.le_of_ble_eq_true rfl, Nat.le_of_ble_eq_true rfl⟩ ⟨Nat.zero_le _, Nat.zero_le _⟩ rfl (Nat.le_of_ble_eq_true rfl) dX1_putMove_28 ?_
  refine j_aload_n (pc := 31) X dX1_putMove_31 rfl (q := 1) rfl ?_
  refine j_get (pc := 32) X (C := RX1) (T := TX1) (N := 9) wz_X1 0 rfl rfl 3 (by decide) wf_X1_26 rfl dX1_putMove_32 ?_
  refine j_iload (pc := 35) X dX1_putMove_35 (q := 0) rfl ?_
  refine j_iconst (pc := 37) X (v := (nI 2)) dX1_putMove_37 (by decide) ?_
  refine j_iload_n (pc := 38) X dX1_putMove_38 rfl (q := 4) rfl ?_
  refine j_callV (pc := 39) X (st := []) (w' := (stW tA a (uV s (tSet 5 (tSet 5 (tSet 5 (tAdd 5 (sV s)) ((sV s).1) 0 p) ((sV s).1) 1 fr) ((sV s).1) 2 to)))) (c_X2_set l D tA (a 4) (a 9) 10 5 (tSet 5 (tSet 5 (tAdd 5 (sV s)) ((sV s).1) 0 p) ((sV s).1) 1 fr) ((sV s).1) 2 to (by decide) (by decide) (show (sV s).1 + 1 ≤ 10 by omega) (show (sV s).1 < (sV s).1 + 1 by omega) (by decide) (by decide)) cd_X2_set wm_X1_82 8 rfl rfl rfl [8, 9] rfl rfl (tb_fst.trans tb_fst.symm) rfl ⟨Nat.le_of_ble_eq_true rfl, Nat.le_of_ble_eq_true rfl⟩ ⟨Nat.zero_le _, Nat.zero_le _⟩ rfl (Nat.le_of_ble_eq_true rfl) dX1_putMove_39 ?_
  refine j_aload_n (pc := 42) X dX1_putMove_42 rfl (q := 1) rfl ?_
  refine j_get (pc := 43) X (C := RX1) (T := TX1) (N := 9) wz_X1 0 rfl rfl 3 (by decide) wf_X1_26 rfl dX1_putMove_43 ?_
  refine j_iload (pc := 46) X dX1_putMove_46 (q := 0) rfl ?_
  refine j_iconst (pc := 48) X (v := (nI 3)) dX1_putMove_48 (by decide) ?_
  refine j_iload (pc := 49) X dX1_putMove_49 (q := 5) rfl ?_
  refine j_callV (pc := 51) X (st := []) (w' := (stW tA a (uV s (tSet 5 (tSet 5 (tSet 5 (tSet 5 (tAdd 5 (sV s)) ((sV s).1) 0 p) ((sV s).1) 1 fr) ((sV s).1) 2 to) ((sV s).1) 3 mu)))) (c_X2_set l D tA (a 4) (a 9) 10 5 (tSet 5 (tSet 5 (tSet 5 (tAdd 5 (sV s)) ((sV s).1) 0 p) ((sV s).1) 1 fr) ((sV s).1) 2 to) ((sV s).1) 3 mu (by decide) (by decide) (show (sV s).1 + 1 ≤ 10 by omega) (show (sV s).1 < (sV s).1 + 1 by omega) (by decide) (by decide)) cd_X2_set wm_X1_82 8 rfl rfl rfl [8, 9] rfl rfl (tb_fst.trans tb_fst.symm) rfl ⟨Nat.le_of_ble_eq_true rfl, Nat.le_of_ble_eq_true rfl⟩ ⟨Nat.zero_le _, Nat.zero_le _⟩ rfl (Nat.le_of_ble_eq_true rfl) dX1_putMove_51 ?_
  refine j_aload_n (pc := 54) X dX1_putMove_54 rfl (q := 1) rfl ?_
  refine j_get (pc := 55) X (C := RX1) (T := TX1) (N := 9) wz_X1 0 rfl rfl 3 (by decide) wf_X1_26 rfl dX1_putMove_55 ?_
  refine j_iload (pc := 58) X dX1_putMove_58 (q := 0) rfl ?_
  refine j_iconst (pc := 60) X (v := (nI 4)) dX1_putMove_60 (by decide) ?_
  refine j_iload (pc := 61) X dX1_putMove_61 (q := 6) rfl ?_
  refine j_callV (pc := 63) X (st := []) (w' := (stW tA a (uV s (tSet 5 (tSet 5 (tSet 5 (tSet 5 (tSet 5 (tAdd 5 (sV s)) ((sV s).1) 0 p) ((sV s).1) 1 fr) ((sV s).1) 2 to) ((sV s).1) 3 mu) ((sV s).1) 4 h)))) (c_X2_set l D tA (a 4) (a 9) 10 5 (tSet 5 (tSet 5 (tSet 5 (tSet 5 (tAdd 5 (sV s)) ((sV s).1) 0 p) ((sV s).1) 1 fr) ((sV s).1) 2 to) ((sV s).1) 3 mu) ((sV s).1) 4 h (by decide) (by decide) (show (sV s).1 + 1 ≤ 10 by omega) (show (sV s).1 < (sV s).1 + 1 by omega) (by decide) (by decide)) cd_X2_set wm_X1_82 8 rfl rfl rfl [8, 9] rfl rfl (tb_fst.trans tb_fst.symm) rfl ⟨Nat.le_of_ble_eq_true rfl, Nat.le_of_ble_eq_true rfl⟩ ⟨Nat.zero_le _, Nat.zero_le _⟩ rfl (Nat.le_of_ble_eq_true rfl) dX1_putMove_63 ?_
  refine j_iload (pc := 66) X dX1_putMove_66 (q := 0) rfl ?_
  exact j_endI (pc := 68) E dX1_putMove_68 rfl rfl
theorem cd_X1_borneBy : kCardV yX1_borneBy cX1_borneBy 6 (some .int) 2 := ⟨⟨wc_X1_borneBy, wi_X1, by decide +kernel, by decide +kernel, rfl⟩, wk_X1_borneBy, ws_X1_borneBy⟩
set_option maxHeartbeats 4000000 in
set_option maxRecDepth 100000 in
theorem c_X1_borneBy (l : Launch) (D : va_G) (tA : Nat → ClassId) (a : Nat → Nat) (s : Sg) (m r : Nat) (hw : Wf s) (hm : m < (sM s).1) (hr : r ≤ 60) : Kx l D tA yX1_borneBy cX1_borneBy 6 (some .int) 1 23 [.ref (a 0), .int (nI m), .int (nI r)] (stW tA a s) (some (.int (nI (brn (sM s) m r)))) (stW tA a s) := by
  refine kx_int rfl (Nat.le_of_ble_eq_true rfl) (fun G X E => ?_)
  show J l D G 0 0 (stW tA a s) [(0, .ref (a 0)), (1, .int (nI m)), (2, .int (nI r))] 0 []
  have hn := hw.n
  have hm0 := hw.m hm
  refine j_aload_n (pc := 0) X dX1_borneBy_0 rfl (q := 0) rfl ?_
  refine j_get (pc := 1) X (C := RX1) (T := TX1) (N := 9) wz_X1 0 rfl rfl 0 (by decide) wf_X1_14 rfl dX1_borneBy_1 ?_
  refine j_iload_n (pc := 4) X dX1_borneBy_4 rfl (q := 1) rfl ?_
  refine j_iconst (pc := 5) X (v := (nI 0)) dX1_borneBy_5 (by decide) ?_
  refine j_callVR (pc := 6) X (st := [])  (c_X2_get l D tA (a 1) (a 6) 5 3 (sM s) m 0 (by first | assumption | omega | decide) (by first | assumption | omega | decide) (by first | assumption | omega | decide) (by first | assumption | omega | decide) (by first | assumption | omega | decide) (by first | assumption | omega | decide)) cd_X2_get wm_X1_70 2 rfl rfl rfl [2, 3] rfl rfl ⟨Nat.le_of_ble_eq_true rfl, Nat.le_of_ble_eq_true rfl⟩ ⟨Nat.zero_le _, Nat.zero_le _⟩ rfl (Nat.le_of_ble_eq_true rfl) dX1_borneBy_6 ?_
  refine j_istore_n (pc := 9) X (lv' := [(3, .int (nI (tGet 3 (sM s) m 0))), (0, .ref (a 0)), (1, .int (nI m)), (2, .int (nI r))]) dX1_borneBy_9 rfl (by decide) rfl ?_
  refine j_aload_n (pc := 10) X dX1_borneBy_10 rfl (q := 1) rfl ?_
  refine j_get (pc := 11) X (C := RX1) (T := TX1) (N := 9) wz_X1 0 rfl rfl 0 (by decide) wf_X1_14 rfl dX1_borneBy_11 ?_
  refine j_iload_n (pc := 14) X dX1_borneBy_14 rfl (q := 2) rfl ?_
  refine j_iconst (pc := 15) X (v := (nI 1)) dX1_borneBy_15 (by decide) ?_
  refine j_callVR (pc := 16) X (st := [])  (c_X2_get l D tA (a 1) (a 6) 5 3 (sM s) m 1 (by first | assumption | omega | decide) (by first | assumption | omega | decide) (by first | assumption | omega | decide) (by first | assumption | omega | decide) (by first | assumption | omega | decide) (by first | assumption | omega | decide)) cd_X2_get wm_X1_70 2 rfl rfl rfl [2, 3] rfl rfl ⟨Nat.le_of_ble_eq_true rfl, Nat.le_of_ble_eq_true rfl⟩ ⟨Nat.zero_le _, Nat.zero_le _⟩ rfl (Nat.le_of_ble_eq_true rfl) dX1_borneBy_16 ?_
  refine j_istore (pc := 19) X (lv' := [(4, .int (nI (tGet 3 (sM s) m 1))), (3, .int (nI (tGet 3 (sM s) m 0))), (0, .ref (a 0)), (1, .int (nI m)), (2, .int (nI r))]) dX1_borneBy_19 (by decide) rfl ?_
  refine j_iload_n (pc := 21) X dX1_borneBy_21 rfl (q := 1) rfl ?_
  refine j_bipush (pc := 22) X (v := (nI 100)) dX1_borneBy_22 (by decide) ?_
  refine j_imul (pc := 24) X (v := (nI ((tGet 3 (sM s) m 0) * 100))) dX1_borneBy_24 (pk_mul _ _) ?_
  refine j_iload (pc := 25) X dX1_borneBy_25 (q := 0) rfl ?_
  refine j_sipush (pc := 27) X (v := (nI 150)) dX1_borneBy_27 (by decide) ?_
  refine j_imul (pc := 30) X (v := (nI ((tGet 3 (sM s) m 1) * 150))) dX1_borneBy_30 (pk_mul _ _) ?_
  refine j_iadd (pc := 31) X (v := (nI (((tGet 3 (sM s) m 0) * 100) + ((tGet 3 (sM s) m 1) * 150)))) dX1_borneBy_31 (nI_add _ _) ?_
  refine j_iload_n (pc := 32) X dX1_borneBy_32 rfl (q := 4) rfl ?_
  refine j_iconst (pc := 33) X (v := (nI 2)) dX1_borneBy_33 (by decide) ?_
  refine j_mmax (pc := 34) X wm_X1_86 (Nat.le_of_ble_eq_true rfl) (Nat.le_of_ble_eq_true rfl) ⟨Nat.zero_le _, Nat.zero_le _⟩ (v := (nI (max r 2))) (nI_max (by omega) (by omega)) dX1_borneBy_34 ?_
  refine j_idiv (pc := 37) X (v := (nI ((((tGet 3 (sM s) m 0) * 100) + ((tGet 3 (sM s) m 1) * 150)) / (max r 2)))) dX1_borneBy_37 (nI_ne0 (by omega) (by omega)) (pk_div (by omega) (by omega) (by omega)) ?_
  refine j_istore (pc := 38) X (lv' := [(5, .int (nI ((((tGet 3 (sM s) m 0) * 100) + ((tGet 3 (sM s) m 1) * 150)) / (max r 2)))), (4, .int (nI (tGet 3 (sM s) m 1))), (3, .int (nI (tGet 3 (sM s) m 0))), (0, .ref (a 0)), (1, .int (nI m)), (2, .int (nI r))]) dX1_borneBy_38 (by decide) rfl ?_
  refine j_iload (pc := 40) X dX1_borneBy_40 (q := 0) rfl ?_
  refine j_iload_n (pc := 42) X dX1_borneBy_42 rfl (q := 2) rfl ?_
  refine j_bipush (pc := 43) X (v := (nI 10)) dX1_borneBy_43 (by decide) ?_
  refine j_imul (pc := 45) X (v := (nI ((tGet 3 (sM s) m 0) * 10))) dX1_borneBy_45 (pk_mul _ _) ?_
  refine j_mmin (pc := 46) X wm_X1_37 (Nat.le_of_ble_eq_true rfl) (Nat.le_of_ble_eq_true rfl) ⟨Nat.zero_le _, Nat.zero_le _⟩ (v := (nI (min ((((tGet 3 (sM s) m 0) * 100) + ((tGet 3 (sM s) m 1) * 150)) / (max r 2)) ((tGet 3 (sM s) m 0) * 10)))) (nI_min (Nat.lt_of_le_of_lt (Nat.div_le_self _ _) (by omega)) (by omega)) dX1_borneBy_46 ?_
  exact j_endI (pc := 49) E dX1_borneBy_49 rfl rfl
theorem cd_X1_bookingFor : kCardV yX1_bookingFor cX1_bookingFor 4 (some .int) 2 := ⟨⟨wc_X1_bookingFor, wi_X1, by decide +kernel, by decide +kernel, rfl⟩, wk_X1_bookingFor, ws_X1_bookingFor⟩
set_option maxHeartbeats 4000000 in
set_option maxRecDepth 100000 in
theorem c_X1_bookingFor (l : Launch) (D : va_G) (tA : Nat → ClassId) (a : Nat → Nat) (s : Sg) (m h : Nat) (hw : Wf s) (hm : m < 2 ^ 31) (hh : h < 2 ^ 31) : Kx l D tA yX1_bookingFor cX1_bookingFor 4 (some .int) 1 23 [.ref (a 0), .int (nI m), .int (nI h)] (stW tA a s) (some (.int (rO (bkF (sB s) m h)))) (stW tA a s) := by
  refine kx_int rfl (Nat.le_of_ble_eq_true rfl) (fun G X E => ?_)
  show J l D G 0 0 (stW tA a s) [(0, .ref (a 0)), (1, .int (nI m)), (2, .int (nI h))] 0 []
  have hn := hw.n
  refine j_iconst (pc := 0) X (v := (nI 0)) dX1_bookingFor_0 (by decide) ?_
  refine j_istore_n (pc := 1) X (lv' := [(3, .int (nI 0)), (0, .ref (a 0)), (1, .int (nI m)), (2, .int (nI h))]) dX1_bookingFor_1 rfl (by decide) rfl ?_
  have L_2 : ∀ (fu : Nat) (i : Nat), i ≤ (sB s).1 → fndN (fun b => decide (tGet 8 (sB s) b 5 = 0 ∧ tGet 8 (sB s) b 1 = m ∧ tGet 8 (sB s) b 2 = h)) i = none → (sB s).1 - i < fu → J l D G 0 0 (stW tA a s) [(0, .ref (a 0)), (1, .int (nI m)), (2, .int (nI h)), (3, .int (nI i))] 2 [] := by
    intro fu
    induction fu with
    | zero => intro i hi hk hfu; exact absurd hfu (Nat.not_lt_zero _)
    | succ fu ih_2 =>
      intro i hi hk hfu
      refine j_iload_n (pc := 2) X dX1_bookingFor_2 rfl (q := 3) rfl ?_
      refine j_aload_n (pc := 3) X dX1_bookingFor_3 rfl (q := 0) rfl ?_
      refine j_get (pc := 4) X (C := RX1) (T := TX1) (N := 9) wz_X1 0 rfl rfl 2 (by decide) wf_X1_23 rfl dX1_bookingFor_4 ?_
      refine j_callVR (pc := 7) X (st := [.int (nI i)])  (c_X2_size l D tA (a 3) (a 8) 30 8 (sB s)  ) cd_X2_size wm_X1_66 6 rfl rfl rfl [6, 7] rfl rfl ⟨Nat.le_of_ble_eq_true rfl, Nat.le_of_ble_eq_true rfl⟩ ⟨Nat.zero_le _, Nat.zero_le _⟩ rfl (Nat.le_of_ble_eq_true rfl) dX1_bookingFor_7 ?_
      refine j_icmp_ge (pc := 10) X (tgt := 59) (P := ((sB s).1) ≤ i) dX1_bookingFor_10 (by decide) (nI_leI (by omega) (by omega)) (fun h10 => ?_) (fun h10 => ?_)
      · skip
        refine j_bipush (pc := 59) X (v := (-5)) dX1_bookingFor_59 (by decide) ?_
        exact j_endI (pc := 61) E dX1_bookingFor_61 (by rw [bkF, ← show i = (sB s).1 by omega, hk]; rfl) rfl
      · skip
        refine j_aload_n (pc := 13) X dX1_bookingFor_13 rfl (q := 0) rfl ?_
        refine j_get (pc := 14) X (C := RX1) (T := TX1) (N := 9) wz_X1 0 rfl rfl 2 (by decide) wf_X1_23 rfl dX1_bookingFor_14 ?_
        refine j_iload_n (pc := 17) X dX1_bookingFor_17 rfl (q := 3) rfl ?_
        refine j_iconst (pc := 18) X (v := (nI 5)) dX1_bookingFor_18 (by decide) ?_
        have hb := hw.b (show i < (sB s).1 by omega)
        refine j_callVR (pc := 19) X (st := [])  (c_X2_get l D tA (a 3) (a 8) 30 8 (sB s) i 5 (by first | assumption | omega | decide) (by first | assumption | omega | decide) (by first | assumption | omega | decide) (by first | assumption | omega | decide) (by first | assumption | omega | decide) (by first | assumption | omega | decide)) cd_X2_get wm_X1_70 6 rfl rfl rfl [6, 7] rfl rfl ⟨Nat.le_of_ble_eq_true rfl, Nat.le_of_ble_eq_true rfl⟩ ⟨Nat.zero_le _, Nat.zero_le _⟩ rfl (Nat.le_of_ble_eq_true rfl) dX1_bookingFor_19 ?_
        refine j_if_ne (pc := 22) X (tgt := 53) (P := ¬ (tGet 8 (sB s) i 5) = 0) dX1_bookingFor_22 (by decide) (not_congr (nC_eq0 (by omega))) (fun h22 => ?_) (fun h22 => ?_)
        · skip
          refine j_iinc (pc := 53) X (v := (nI (i + 1))) (lv' := [(3, .int (nI (i + 1))), (0, .ref (a 0)), (1, .int (nI m)), (2, .int (nI h))]) dX1_bookingFor_53 (q := 3) rfl (nI_add _ _) (by decide) rfl ?_
          refine j_goto (pc := 56) X (tgt := 2) dX1_bookingFor_56 (by decide) ?_
          refine j_lv X (lv' := [(0, .ref (a 0)), (1, .int (nI m)), (2, .int (nI h)), (3, .int (nI (i + 1)))]) [1, 2, 3, 0] rfl ?_
          exact ih_2 (i + 1) (by omega) (fnd_no hk (by simp only [decide_eq_true_eq]; exact fun q => h22 q.1)) (by omega)
        · skip
          refine j_aload_n (pc := 25) X dX1_bookingFor_25 rfl (q := 0) rfl ?_
          refine j_get (pc := 26) X (C := RX1) (T := TX1) (N := 9) wz_X1 0 rfl rfl 2 (by decide) wf_X1_23 rfl dX1_bookingFor_26 ?_
          refine j_iload_n (pc := 29) X dX1_bookingFor_29 rfl (q := 3) rfl ?_
          refine j_iconst (pc := 30) X (v := (nI 1)) dX1_bookingFor_30 (by decide) ?_
          refine j_callVR (pc := 31) X (st := [])  (c_X2_get l D tA (a 3) (a 8) 30 8 (sB s) i 1 (by first | assumption | omega | decide) (by first | assumption | omega | decide) (by first | assumption | omega | decide) (by first | assumption | omega | decide) (by first | assumption | omega | decide) (by first | assumption | omega | decide)) cd_X2_get wm_X1_70 6 rfl rfl rfl [6, 7] rfl rfl ⟨Nat.le_of_ble_eq_true rfl, Nat.le_of_ble_eq_true rfl⟩ ⟨Nat.zero_le _, Nat.zero_le _⟩ rfl (Nat.le_of_ble_eq_true rfl) dX1_bookingFor_31 ?_
          refine j_iload_n (pc := 34) X dX1_bookingFor_34 rfl (q := 1) rfl ?_
          refine j_icmp_ne (pc := 35) X (tgt := 53) (P := ¬ (tGet 8 (sB s) i 1) = m) dX1_bookingFor_35 (by decide) (not_congr (nI_eq (by omega) (by omega))) (fun h35 => ?_) (fun h35 => ?_)
          · skip
            refine j_iinc (pc := 53) X (v := (nI (i + 1))) (lv' := [(3, .int (nI (i + 1))), (0, .ref (a 0)), (1, .int (nI m)), (2, .int (nI h))]) dX1_bookingFor_53 (q := 3) rfl (nI_add _ _) (by decide) rfl ?_
            refine j_goto (pc := 56) X (tgt := 2) dX1_bookingFor_56 (by decide) ?_
            refine j_lv X (lv' := [(0, .ref (a 0)), (1, .int (nI m)), (2, .int (nI h)), (3, .int (nI (i + 1)))]) [1, 2, 3, 0] rfl ?_
            exact ih_2 (i + 1) (by omega) (fnd_no hk (by simp only [decide_eq_true_eq]; exact fun q => h35 q.2.1)) (by omega)
          · skip
            refine j_aload_n (pc := 38) X dX1_bookingFor_38 rfl (q := 0) rfl ?_
            refine j_get (pc := 39) X (C := RX1) (T := TX1) (N := 9) wz_X1 0 rfl rfl 2 (by decide) wf_X1_23 rfl dX1_bookingFor_39 ?_
            refine j_iload_n (pc := 42) X dX1_bookingFor_42 rfl (q := 3) rfl ?_
            refine j_iconst (pc := 43) X (v := (nI 2)) dX1_bookingFor_43 (by decide) ?_
            refine j_callVR (pc := 44) X (st := [])  (c_X2_get l D tA (a 3) (a 8) 30 8 (sB s) i 2 (by first | assumption | omega | decide) (by first | assumption | omega | decide) (by first | assumption | omega | decide) (by first | assumption | omega | decide) (by first | assumption | omega | decide) (by first | assumption | omega | decide)) cd_X2_get wm_X1_70 6 rfl rfl rfl [6, 7] rfl rfl ⟨Nat.le_of_ble_eq_true rfl, Nat.le_of_ble_eq_true rfl⟩ ⟨Nat.zero_le _, Nat.zero_le _⟩ rfl (Nat.le_of_ble_eq_true rfl) dX1_bookingFor_44 ?_
            refine j_iload_n (pc := 47) X dX1_bookingFor_47 rfl (q := 2) rfl ?_
            refine j_icmp_ne (pc := 48) X (tgt := 53) (P := ¬ (tGet 8 (sB s) i 2) = h) dX1_bookingFor_48 (by decide) (not_congr (nI_eq (by omega) (by omega))) (fun h48 => ?_) (fun h48 => ?_)
            · skip
              refine j_iinc (pc := 53) X (v := (nI (i + 1))) (lv' := [(3, .int (nI (i + 1))), (0, .ref (a 0)), (1, .int (nI m)), (2, .int (nI h))]) dX1_bookingFor_53 (q := 3) rfl (nI_add _ _) (by decide) rfl ?_
              refine j_goto (pc := 56) X (tgt := 2) dX1_bookingFor_56 (by decide) ?_
              refine j_lv X (lv' := [(0, .ref (a 0)), (1, .int (nI m)), (2, .int (nI h)), (3, .int (nI (i + 1)))]) [1, 2, 3, 0] rfl ?_
              exact ih_2 (i + 1) (by omega) (fnd_no hk (by simp only [decide_eq_true_eq]; exact fun q => h48 q.2.2)) (by omega)
            · skip
              refine j_iload_n (pc := 51) X dX1_bookingFor_51 rfl (q := 3) rfl ?_
              exact j_endI (pc := 52) E dX1_bookingFor_52 (by rw [bkF, fnd_up (fnd_at hk (by simp only [decide_eq_true_eq]; exact ⟨Decidable.not_not.mp h22, Decidable.not_not.mp h35, Decidable.not_not.mp h48⟩)) _ (by omega)]; rfl) rfl
  refine j_lv X (lv' := [(0, .ref (a 0)), (1, .int (nI m)), (2, .int (nI h)), (3, .int (nI 0))]) [1, 2, 3, 0] rfl ?_
  exact L_2 _ 0 (Nat.zero_le _) rfl (Nat.lt_succ_self _)
theorem cd_X1_canTake : kCardV yX1_canTake cX1_canTake 5 (some .boolean) 4 := ⟨⟨wc_X1_canTake, wi_X1, by decide +kernel, by decide +kernel, rfl⟩, wk_X1_canTake, ws_X1_canTake⟩
set_option maxHeartbeats 4000000 in
set_option maxRecDepth 100000 in
theorem c_X1_canTake (l : Launch) (D : va_G) (tA : Nat → ClassId) (a : Nat → Nat) (s : Sg) (m h ld r : Nat) (hw : Wf s) (hm : m < (sM s).1) (hh : h < 2 ^ 31) (hl : ld < 2 ^ 31) (hr : r ≤ 60) : Kx l D tA yX1_canTake cX1_canTake 5 (some .boolean) 2 48 [.ref (a 0), .int (nI m), .int (nI h), .int (nI ld), .int (nI r)] (stW tA a s) (some (.int (bI (canT s m h ld r)))) (stW tA a s) := by
  refine kx_bool rfl (Nat.le_of_ble_eq_true rfl) (fun G X E => ?_)
  show J l D G 0 0 (stW tA a s) [(0, .ref (a 0)), (1, .int (nI m)), (2, .int (nI h)), (3, .int (nI ld)), (4, .int (nI r))] 0 []
  have hn := hw.n
  have hbr := brn_lt hw hm (r := r)
  refine j_iload_n (pc := 0) X dX1_canTake_0 rfl (q := 3) rfl ?_
  refine j_aload_n (pc := 1) X dX1_canTake_1 rfl (q := 0) rfl ?_
  refine j_iload_n (pc := 2) X dX1_canTake_2 rfl (q := 1) rfl ?_
  refine j_iload (pc := 3) X dX1_canTake_3 (q := 4) rfl ?_
  refine j_callVR (pc := 5) X (st := [.int (nI ld)])  (c_X1_borneBy l D tA a s m r (by first | assumption | omega | decide) (by first | assumption | omega | decide) (by first | assumption | omega | decide)) cd_X1_borneBy wm_X1_89 0 rfl rfl rfl [0, 1, 2, 3, 4, 5, 6, 7, 8, 9] rfl rfl ⟨Nat.le_of_ble_eq_true rfl, Nat.le_of_ble_eq_true rfl⟩ ⟨Nat.zero_le _, Nat.zero_le _⟩ rfl (Nat.le_of_ble_eq_true rfl) dX1_canTake_5 ?_
  refine j_icmp_gt (pc := 8) X (tgt := 26) (P := (brn (sM s) m r) < ld) dX1_canTake_8 (by decide) (nI_ltI (by omega) (by omega)) (fun h8 => ?_) (fun h8 => ?_)
  · skip
    refine j_iconst (pc := 26) X (v := (nI 0)) dX1_canTake_26 (by decide) ?_
    exact j_endI (pc := 27) E dX1_canTake_27 (bI_f (by simp only [canT, decide_eq_false_iff_not]; exact fun q => absurd q.1 (by omega))) rfl
  · skip
    refine j_aload_n (pc := 11) X dX1_canTake_11 rfl (q := 0) rfl ?_
    refine j_iload_n (pc := 12) X dX1_canTake_12 rfl (q := 1) rfl ?_
    refine j_iload_n (pc := 13) X dX1_canTake_13 rfl (q := 2) rfl ?_
    refine j_callVR (pc := 14) X (st := [])  (c_X1_bookingFor l D tA a s m h (by first | assumption | omega | decide) (by first | assumption | omega | decide) (by first | assumption | omega | decide)) cd_X1_bookingFor wm_X1_92 0 rfl rfl rfl [0, 1, 2, 3, 4, 5, 6, 7, 8, 9] rfl rfl ⟨Nat.le_of_ble_eq_true rfl, Nat.le_of_ble_eq_true rfl⟩ ⟨Nat.zero_le _, Nat.zero_le _⟩ rfl (Nat.le_of_ble_eq_true rfl) dX1_canTake_14 ?_
    refine j_bipush (pc := 17) X (v := (-5)) dX1_canTake_17 (by decide) ?_
    refine j_icmp_ne (pc := 19) X (tgt := 26) (P := ¬ (bkF (sB s) m h) = none) dX1_canTake_19 (by decide) (not_congr (rO_none (fun b e => by have := bkF_lt e; omega))) (fun h19 => ?_) (fun h19 => ?_)
    · skip
      refine j_iconst (pc := 26) X (v := (nI 0)) dX1_canTake_26 (by decide) ?_
      exact j_endI (pc := 27) E dX1_canTake_27 (bI_f (by simp only [canT, decide_eq_false_iff_not]; exact fun q => h19 q.2)) rfl
    · skip
      refine j_iconst (pc := 22) X (v := (nI 1)) dX1_canTake_22 (by decide) ?_
      refine j_goto (pc := 23) X (tgt := 27) dX1_canTake_23 (by decide) ?_
      exact j_endI (pc := 27) E dX1_canTake_27 (bI_t (by simp only [canT, decide_eq_true_eq]; exact ⟨by omega, Decidable.not_not.mp h19⟩)) rfl
theorem cd_X1_pay : kCardV yX1_pay cX1_pay 3 none 2 := ⟨⟨wc_X1_pay, wi_X1, by decide +kernel, by decide +kernel, rfl⟩, wk_X1_pay, ws_X1_pay⟩
set_option maxHeartbeats 4000000 in
set_option maxRecDepth 100000 in
theorem c_X1_pay (l : Launch) (D : va_G) (tA : Nat → ClassId) (a : Nat → Nat) (s : Sg) (p c : Nat) (hP : (sP s).1 ≤ 8) (hp : p < (sP s).1) : Kx l D tA yX1_pay cX1_pay 3 none 2 47 [.ref (a 0), .int (nI p), .int (nI c)] (stW tA a s) none (stW tA a (payS s p c)) := by
  refine kx_void rfl (Nat.le_of_ble_eq_true rfl) (fun G X E => ?_)
  show J l D G 0 0 (stW tA a s) [(0, .ref (a 0)), (1, .int (nI p)), (2, .int (nI c))] 0 []
  refine j_aload_n (pc := 0) X dX1_pay_0 rfl (q := 0) rfl ?_
  refine j_get (pc := 1) X (C := RX1) (T := TX1) (N := 9) wz_X1 0 rfl rfl 1 (by decide) wf_X1_20 rfl dX1_pay_1 ?_
  refine j_iload_n (pc := 4) X dX1_pay_4 rfl (q := 1) rfl ?_
  refine j_iconst (pc := 5) X (v := (nI 0)) dX1_pay_5 (by decide) ?_
  refine j_iload_n (pc := 6) X dX1_pay_6 rfl (q := 2) rfl ?_
  refine j_callV (pc := 7) X (st := []) (w' := (stW tA a (uP s (tSet 2 (sP s) p 0 (tGet 2 (sP s) p 0 + c))))) (c_X2_increase l D tA (a 2) (a 7) 8 2 (sP s) p 0 (nI c) (tGet 2 (sP s) p 0 + c) (by first | assumption | omega | decide) (by first | assumption | omega | decide) (by first | assumption | omega | decide) (by first | assumption | omega | decide) (by first | assumption | omega | decide) (by first | assumption | omega | decide) (nI_add _ _)) cd_X2_increase wm_X1_95 4 rfl rfl rfl [4, 5] rfl rfl (tb_fst.trans tb_fst.symm) rfl ⟨Nat.le_of_ble_eq_true rfl, Nat.le_of_ble_eq_true rfl⟩ ⟨Nat.zero_le _, Nat.zero_le _⟩ rfl (Nat.le_of_ble_eq_true rfl) dX1_pay_7 ?_
  exact j_endV (pc := 10) E dX1_pay_10 rfl
theorem cd_X1_place : kCardV yX1_place cX1_place 4 none 3 := ⟨⟨wc_X1_place, wi_X1, by decide +kernel, by decide +kernel, rfl⟩, wk_X1_place, ws_X1_place⟩
set_option maxHeartbeats 4000000 in
set_option maxRecDepth 100000 in
theorem c_X1_place (l : Launch) (D : va_G) (tA : Nat → ClassId) (a : Nat → Nat) (s : Sg) (b m h : Nat) (hB : (sB s).1 ≤ 30) (hb : b < (sB s).1) (hh : h < 200) : Kx l D tA yX1_place cX1_place 4 none 1 24 [.ref (a 0), .int (nI b), .int (nI m), .int (nI h)] (stW tA a s) none (stW tA a (placeS s b m h)) := by
  refine kx_void rfl (Nat.le_of_ble_eq_true rfl) (fun G X E => ?_)
  show J l D G 0 0 (stW tA a s) [(0, .ref (a 0)), (1, .int (nI b)), (2, .int (nI m)), (3, .int (nI h))] 0 []
  refine j_aload_n (pc := 0) X dX1_place_0 rfl (q := 0) rfl ?_
  refine j_get (pc := 1) X (C := RX1) (T := TX1) (N := 9) wz_X1 0 rfl rfl 2 (by decide) wf_X1_23 rfl dX1_place_1 ?_
  refine j_iload_n (pc := 4) X dX1_place_4 rfl (q := 1) rfl ?_
  refine j_iconst (pc := 5) X (v := (nI 1)) dX1_place_5 (by decide) ?_
  refine j_iload_n (pc := 6) X dX1_place_6 rfl (q := 2) rfl ?_
  refine j_callV (pc := 7) X (st := []) (w' := (stW tA a (uB s (tSet 8 (sB s) b 1 m)))) (c_X2_set l D tA (a 3) (a 8) 30 8 (sB s) b 1 m (by decide) (by decide) (show (sB s).1 ≤ 30 by omega) (show b < (sB s).1 by omega) (by decide) (by decide)) cd_X2_set wm_X1_82 6 rfl rfl rfl [6, 7] rfl rfl (tb_fst.trans tb_fst.symm) rfl ⟨Nat.le_of_ble_eq_true rfl, Nat.le_of_ble_eq_true rfl⟩ ⟨Nat.zero_le _, Nat.zero_le _⟩ rfl (Nat.le_of_ble_eq_true rfl) dX1_place_7 ?_
  refine j_aload_n (pc := 10) X dX1_place_10 rfl (q := 0) rfl ?_
  refine j_get (pc := 11) X (C := RX1) (T := TX1) (N := 9) wz_X1 0 rfl rfl 2 (by decide) wf_X1_23 rfl dX1_place_11 ?_
  refine j_iload_n (pc := 14) X dX1_place_14 rfl (q := 1) rfl ?_
  refine j_iconst (pc := 15) X (v := (nI 2)) dX1_place_15 (by decide) ?_
  refine j_iload_n (pc := 16) X dX1_place_16 rfl (q := 3) rfl ?_
  refine j_callV (pc := 17) X (st := []) (w' := (stW tA a (uB s (tSet 8 (tSet 8 (sB s) b 1 m) b 2 h)))) (c_X2_set l D tA (a 3) (a 8) 30 8 (tSet 8 (sB s) b 1 m) b 2 h (by decide) (by decide) (show (sB s).1 ≤ 30 by omega) (show b < (sB s).1 by omega) (by decide) (by decide)) cd_X2_set wm_X1_82 6 rfl rfl rfl [6, 7] rfl rfl (tb_fst.trans tb_fst.symm) rfl ⟨Nat.le_of_ble_eq_true rfl, Nat.le_of_ble_eq_true rfl⟩ ⟨Nat.zero_le _, Nat.zero_le _⟩ rfl (Nat.le_of_ble_eq_true rfl) dX1_place_17 ?_
  refine j_aload_n (pc := 20) X dX1_place_20 rfl (q := 0) rfl ?_
  refine j_get (pc := 21) X (C := RX1) (T := TX1) (N := 9) wz_X1 0 rfl rfl 2 (by decide) wf_X1_23 rfl dX1_place_21 ?_
  refine j_iload_n (pc := 24) X dX1_place_24 rfl (q := 1) rfl ?_
  refine j_bipush (pc := 25) X (v := (nI 6)) dX1_place_25 (by decide) ?_
  refine j_aload_n (pc := 27) X dX1_place_27 rfl (q := 0) rfl ?_
  refine j_iload_n (pc := 28) X dX1_place_28 rfl (q := 3) rfl ?_
  refine j_callVR (pc := 29) X (st := [.int (nI 6), .int (nI b), .ref (a 3)])  (c_X1_windAt l D tA a (uB s (tSet 8 (tSet 8 (sB s) b 1 m) b 2 h)) h (by first | assumption | omega | decide)) cd_X1_windAt wm_X1_98 0 rfl rfl rfl [0, 1, 2, 3, 4, 5, 6, 7, 8, 9] rfl rfl ⟨Nat.le_of_ble_eq_true rfl, Nat.le_of_ble_eq_true rfl⟩ ⟨Nat.zero_le _, Nat.zero_le _⟩ rfl (Nat.le_of_ble_eq_true rfl) dX1_place_29 ?_
  refine j_callV (pc := 32) X (st := []) (w' := (stW tA a (uB s (tSet 8 (tSet 8 (tSet 8 (sB s) b 1 m) b 2 h) b 6 ((sW s) h))))) (c_X2_set l D tA (a 3) (a 8) 30 8 (tSet 8 (tSet 8 (sB s) b 1 m) b 2 h) b 6 ((sW s) h) (by decide) (by decide) (show (sB s).1 ≤ 30 by omega) (show b < (sB s).1 by omega) (by decide) (by decide)) cd_X2_set wm_X1_82 6 rfl rfl rfl [6, 7] rfl rfl (tb_fst.trans tb_fst.symm) rfl ⟨Nat.le_of_ble_eq_true rfl, Nat.le_of_ble_eq_true rfl⟩ ⟨Nat.zero_le _, Nat.zero_le _⟩ rfl (Nat.le_of_ble_eq_true rfl) dX1_place_32 ?_
  exact j_endV (pc := 35) E dX1_place_35 rfl
theorem cd_X1_isBooked : kCardV yX1_isBooked cX1_isBooked 2 (some .boolean) 1 := ⟨⟨wc_X1_isBooked, wi_X1, by decide +kernel, by decide +kernel, rfl⟩, wk_X1_isBooked, ws_X1_isBooked⟩
set_option maxHeartbeats 4000000 in
set_option maxRecDepth 100000 in
theorem c_X1_isBooked (l : Launch) (D : va_G) (tA : Nat → ClassId) (a : Nat → Nat) (s : Sg) (b : Nat) (hw : Wf s) (hb : b < (sB s).1) : Kx l D tA yX1_isBooked cX1_isBooked 2 (some .boolean) 1 23 [.ref (a 0), .int (nI b)] (stW tA a s) (some (.int (bI (decide (tGet 8 (sB s) b 5 = 0))))) (stW tA a s) := by
  refine kx_bool rfl (Nat.le_of_ble_eq_true rfl) (fun G X E => ?_)
  show J l D G 0 0 (stW tA a s) [(0, .ref (a 0)), (1, .int (nI b))] 0 []
  have hn := hw.n
  have hb0 := hw.b hb
  refine j_aload_n (pc := 0) X dX1_isBooked_0 rfl (q := 0) rfl ?_
  refine j_get (pc := 1) X (C := RX1) (T := TX1) (N := 9) wz_X1 0 rfl rfl 2 (by decide) wf_X1_23 rfl dX1_isBooked_1 ?_
  refine j_iload_n (pc := 4) X dX1_isBooked_4 rfl (q := 1) rfl ?_
  refine j_iconst (pc := 5) X (v := (nI 5)) dX1_isBooked_5 (by decide) ?_
  refine j_callVR (pc := 6) X (st := [])  (c_X2_get l D tA (a 3) (a 8) 30 8 (sB s) b 5 (by first | assumption | omega | decide) (by first | assumption | omega | decide) (by first | assumption | omega | decide) (by first | assumption | omega | decide) (by first | assumption | omega | decide) (by first | assumption | omega | decide)) cd_X2_get wm_X1_70 6 rfl rfl rfl [6, 7] rfl rfl ⟨Nat.le_of_ble_eq_true rfl, Nat.le_of_ble_eq_true rfl⟩ ⟨Nat.zero_le _, Nat.zero_le _⟩ rfl (Nat.le_of_ble_eq_true rfl) dX1_isBooked_6 ?_
  refine j_if_ne (pc := 9) X (tgt := 16) (P := ¬ (tGet 8 (sB s) b 5) = 0) dX1_isBooked_9 (by decide) (not_congr (nC_eq0 (by omega))) (fun h9 => ?_) (fun h9 => ?_)
  · skip
    refine j_iconst (pc := 16) X (v := (nI 0)) dX1_isBooked_16 (by decide) ?_
    exact j_endI (pc := 17) E dX1_isBooked_17 (bI_f (by simp only [decide_eq_false_iff_not]; omega)) rfl
  · skip
    refine j_iconst (pc := 12) X (v := (nI 1)) dX1_isBooked_12 (by decide) ?_
    refine j_goto (pc := 13) X (tgt := 17) dX1_isBooked_13 (by decide) ?_
    exact j_endI (pc := 17) E dX1_isBooked_17 (bI_t (by simp only [decide_eq_true_eq]; omega)) rfl
theorem cd_X1_limitOf : kCardV yX1_limitOf cX1_limitOf 2 (some .int) 1 := ⟨⟨wc_X1_limitOf, wi_X1, by decide +kernel, by decide +kernel, rfl⟩, wk_X1_limitOf, ws_X1_limitOf⟩
set_option maxHeartbeats 4000000 in
set_option maxRecDepth 100000 in
theorem c_X1_limitOf (l : Launch) (D : va_G) (tA : Nat → ClassId) (a : Nat → Nat) (s : Sg) (b : Nat) (hw : Wf s) (hb : b < (sB s).1) : Kx l D tA yX1_limitOf cX1_limitOf 2 (some .int) 2 34 [.ref (a 0), .int (nI b)] (stW tA a s) (some (.int (nI (limO (sB s) b)))) (stW tA a s) := by
  refine kx_int rfl (Nat.le_of_ble_eq_true rfl) (fun G X E => ?_)
  show J l D G 0 0 (stW tA a s) [(0, .ref (a 0)), (1, .int (nI b))] 0 []
  have hn := hw.n
  have hb0 := hw.b hb
  refine j_aload_n (pc := 0) X dX1_limitOf_0 rfl (q := 0) rfl ?_
  refine j_get (pc := 1) X (C := RX1) (T := TX1) (N := 9) wz_X1 0 rfl rfl 2 (by decide) wf_X1_23 rfl dX1_limitOf_1 ?_
  refine j_iload_n (pc := 4) X dX1_limitOf_4 rfl (q := 1) rfl ?_
  refine j_iconst (pc := 5) X (v := (nI 3)) dX1_limitOf_5 (by decide) ?_
  refine j_callVR (pc := 6) X (st := [])  (c_X2_get l D tA (a 3) (a 8) 30 8 (sB s) b 3 (by first | assumption | omega | decide) (by first | assumption | omega | decide) (by first | assumption | omega | decide) (by first | assumption | omega | decide) (by first | assumption | omega | decide) (by first | assumption | omega | decide)) cd_X2_get wm_X1_70 6 rfl rfl rfl [6, 7] rfl rfl ⟨Nat.le_of_ble_eq_true rfl, Nat.le_of_ble_eq_true rfl⟩ ⟨Nat.zero_le _, Nat.zero_le _⟩ rfl (Nat.le_of_ble_eq_true rfl) dX1_limitOf_6 ?_
  refine j_aload_n (pc := 9) X dX1_limitOf_9 rfl (q := 0) rfl ?_
  refine j_get (pc := 10) X (C := RX1) (T := TX1) (N := 9) wz_X1 0 rfl rfl 2 (by decide) wf_X1_23 rfl dX1_limitOf_10 ?_
  refine j_iload_n (pc := 13) X dX1_limitOf_13 rfl (q := 1) rfl ?_
  refine j_iconst (pc := 14) X (v := (nI 4)) dX1_limitOf_14 (by decide) ?_
  refine j_callVR (pc := 15) X (st := [.int (nI (tGet 8 (sB s) b 3))])  (c_X2_get l D tA (a 3) (a 8) 30 8 (sB s) b 4 (by first | assumption | omega | decide) (by first | assumption | omega | decide) (by first | assumption | omega | decide) (by first | assumption | omega | decide) (by first | assumption | omega | decide) (by first | assumption | omega | decide)) cd_X2_get wm_X1_70 6 rfl rfl rfl [6, 7] rfl rfl ⟨Nat.le_of_ble_eq_true rfl, Nat.le_of_ble_eq_true rfl⟩ ⟨Nat.zero_le _, Nat.zero_le _⟩ rfl (Nat.le_of_ble_eq_true rfl) dX1_limitOf_15 ?_
  refine j_callNR (pc := 18) X (st := [])  (c_X4_limitFor l D tA (tGet 8 (sB s) b 3) (tGet 8 (sB s) b 4) (by first | assumption | omega | decide) (by first | assumption | omega | decide)) cd_X4_limitFor X.2.2.2.2.2.1.2.2.1 [] rfl rfl ⟨Nat.le_of_ble_eq_true rfl, Nat.le_of_ble_eq_true rfl⟩ ⟨Nat.zero_le _, Nat.zero_le _⟩ rfl (Nat.le_of_ble_eq_true rfl) dX1_limitOf_18 ?_
  exact j_endI (pc := 21) E dX1_limitOf_21 rfl rfl
theorem cd_X1_bearsLiftOf : kCardV yX1_bearsLiftOf cX1_bearsLiftOf 3 (some .boolean) 2 := ⟨⟨wc_X1_bearsLiftOf, wi_X1, by decide +kernel, by decide +kernel, rfl⟩, wk_X1_bearsLiftOf, ws_X1_bearsLiftOf⟩
set_option maxHeartbeats 4000000 in
set_option maxRecDepth 100000 in
theorem c_X1_bearsLiftOf (l : Launch) (D : va_G) (tA : Nat → ClassId) (a : Nat → Nat) (s : Sg) (m b : Nat) (hw : Wf s) (hm : m < (sM s).1) (hb : b < (sB s).1) : Kx l D tA yX1_bearsLiftOf cX1_bearsLiftOf 3 (some .boolean) 2 48 [.ref (a 0), .int (nI m), .int (nI b)] (stW tA a s) (some (.int (bI (brsB s m b)))) (stW tA a s) := by
  refine kx_bool rfl (Nat.le_of_ble_eq_true rfl) (fun G X E => ?_)
  show J l D G 0 0 (stW tA a s) [(0, .ref (a 0)), (1, .int (nI m)), (2, .int (nI b))] 0 []
  have hn := hw.n
  have hb0 := hw.b hb
  have hbr := brn_lt hw hm (r := tGet 8 (sB s) b 4)
  refine j_aload_n (pc := 0) X dX1_bearsLiftOf_0 rfl (q := 0) rfl ?_
  refine j_get (pc := 1) X (C := RX1) (T := TX1) (N := 9) wz_X1 0 rfl rfl 2 (by decide) wf_X1_23 rfl dX1_bearsLiftOf_1 ?_
  refine j_iload_n (pc := 4) X dX1_bearsLiftOf_4 rfl (q := 2) rfl ?_
  refine j_iconst (pc := 5) X (v := (nI 3)) dX1_bearsLiftOf_5 (by decide) ?_
  refine j_callVR (pc := 6) X (st := [])  (c_X2_get l D tA (a 3) (a 8) 30 8 (sB s) b 3 (by first | assumption | omega | decide) (by first | assumption | omega | decide) (by first | assumption | omega | decide) (by first | assumption | omega | decide) (by first | assumption | omega | decide) (by first | assumption | omega | decide)) cd_X2_get wm_X1_70 6 rfl rfl rfl [6, 7] rfl rfl ⟨Nat.le_of_ble_eq_true rfl, Nat.le_of_ble_eq_true rfl⟩ ⟨Nat.zero_le _, Nat.zero_le _⟩ rfl (Nat.le_of_ble_eq_true rfl) dX1_bearsLiftOf_6 ?_
  refine j_aload_n (pc := 9) X dX1_bearsLiftOf_9 rfl (q := 0) rfl ?_
  refine j_iload_n (pc := 10) X dX1_bearsLiftOf_10 rfl (q := 1) rfl ?_
  refine j_aload_n (pc := 11) X dX1_bearsLiftOf_11 rfl (q := 0) rfl ?_
  refine j_get (pc := 12) X (C := RX1) (T := TX1) (N := 9) wz_X1 0 rfl rfl 2 (by decide) wf_X1_23 rfl dX1_bearsLiftOf_12 ?_
  refine j_iload_n (pc := 15) X dX1_bearsLiftOf_15 rfl (q := 2) rfl ?_
  refine j_iconst (pc := 16) X (v := (nI 4)) dX1_bearsLiftOf_16 (by decide) ?_
  refine j_callVR (pc := 17) X (st := [.int (nI m), .ref (a 0), .int (nI (tGet 8 (sB s) b 3))])  (c_X2_get l D tA (a 3) (a 8) 30 8 (sB s) b 4 (by first | assumption | omega | decide) (by first | assumption | omega | decide) (by first | assumption | omega | decide) (by first | assumption | omega | decide) (by first | assumption | omega | decide) (by first | assumption | omega | decide)) cd_X2_get wm_X1_70 6 rfl rfl rfl [6, 7] rfl rfl ⟨Nat.le_of_ble_eq_true rfl, Nat.le_of_ble_eq_true rfl⟩ ⟨Nat.zero_le _, Nat.zero_le _⟩ rfl (Nat.le_of_ble_eq_true rfl) dX1_bearsLiftOf_17 ?_
  refine j_callVR (pc := 20) X (st := [.int (nI (tGet 8 (sB s) b 3))])  (c_X1_borneBy l D tA a s m (tGet 8 (sB s) b 4) (by first | assumption | omega | decide) (by first | assumption | omega | decide) (by first | assumption | omega | decide)) cd_X1_borneBy wm_X1_89 0 rfl rfl rfl [0, 1, 2, 3, 4, 5, 6, 7, 8, 9] rfl rfl ⟨Nat.le_of_ble_eq_true rfl, Nat.le_of_ble_eq_true rfl⟩ ⟨Nat.zero_le _, Nat.zero_le _⟩ rfl (Nat.le_of_ble_eq_true rfl) dX1_bearsLiftOf_20 ?_
  refine j_icmp_gt (pc := 23) X (tgt := 30) (P := (brn (sM s) m (tGet 8 (sB s) b 4)) < (tGet 8 (sB s) b 3)) dX1_bearsLiftOf_23 (by decide) (nI_ltI (by omega) (by omega)) (fun h23 => ?_) (fun h23 => ?_)
  · skip
    refine j_iconst (pc := 30) X (v := (nI 0)) dX1_bearsLiftOf_30 (by decide) ?_
    exact j_endI (pc := 31) E dX1_bearsLiftOf_31 (bI_f (by simp only [brsB, decide_eq_false_iff_not]; omega)) rfl
  · skip
    refine j_iconst (pc := 26) X (v := (nI 1)) dX1_bearsLiftOf_26 (by decide) ?_
    refine j_goto (pc := 27) X (tgt := 31) dX1_bearsLiftOf_27 (by decide) ?_
    exact j_endI (pc := 31) E dX1_bearsLiftOf_31 (bI_t (by simp only [brsB, decide_eq_true_eq]; omega)) rfl
theorem cd_X1_mustStandBy : kCardV yX1_mustStandBy cX1_mustStandBy 2 (some .boolean) 1 := ⟨⟨wc_X1_mustStandBy, wi_X1, by decide +kernel, by decide +kernel, rfl⟩, wk_X1_mustStandBy, ws_X1_mustStandBy⟩
set_option maxHeartbeats 4000000 in
set_option maxRecDepth 100000 in
theorem c_X1_mustStandBy (l : Launch) (D : va_G) (tA : Nat → ClassId) (a : Nat → Nat) (s : Sg) (b : Nat) (hw : Wf s) (hb : b < (sB s).1) : Kx l D tA yX1_mustStandBy cX1_mustStandBy 2 (some .boolean) 3 70 [.ref (a 0), .int (nI b)] (stW tA a s) (some (.int (bI (must s b)))) (stW tA a s) := by
  refine kx_bool rfl (Nat.le_of_ble_eq_true rfl) (fun G X E => ?_)
  show J l D G 0 0 (stW tA a s) [(0, .ref (a 0)), (1, .int (nI b))] 0 []
  have hn := hw.n
  have hb0 := hw.b hb
  have hli := limN_le (tGet 8 (sB s) b 3) (tGet 8 (sB s) b 4)
  have hli : limO (sB s) b ≤ 60 := hli
  have hwi := hw.w hb0.2.2.1
  refine j_aload_n (pc := 0) X dX1_mustStandBy_0 rfl (q := 0) rfl ?_
  refine j_aload_n (pc := 1) X dX1_mustStandBy_1 rfl (q := 0) rfl ?_
  refine j_get (pc := 2) X (C := RX1) (T := TX1) (N := 9) wz_X1 0 rfl rfl 2 (by decide) wf_X1_23 rfl dX1_mustStandBy_2 ?_
  refine j_iload_n (pc := 5) X dX1_mustStandBy_5 rfl (q := 1) rfl ?_
  refine j_iconst (pc := 6) X (v := (nI 1)) dX1_mustStandBy_6 (by decide) ?_
  refine j_callVR (pc := 7) X (st := [.ref (a 0)])  (c_X2_get l D tA (a 3) (a 8) 30 8 (sB s) b 1 (by first | assumption | omega | decide) (by first | assumption | omega | decide) (by first | assumption | omega | decide) (by first | assumption | omega | decide) (by first | assumption | omega | decide) (by first | assumption | omega | decide)) cd_X2_get wm_X1_70 6 rfl rfl rfl [6, 7] rfl rfl ⟨Nat.le_of_ble_eq_true rfl, Nat.le_of_ble_eq_true rfl⟩ ⟨Nat.zero_le _, Nat.zero_le _⟩ rfl (Nat.le_of_ble_eq_true rfl) dX1_mustStandBy_7 ?_
  refine j_iload_n (pc := 10) X dX1_mustStandBy_10 rfl (q := 1) rfl ?_
  refine j_callVR (pc := 11) X (st := [])  (c_X1_bearsLiftOf l D tA a s (tGet 8 (sB s) b 1) b (by first | assumption | omega | decide) (by first | assumption | omega | decide) (by first | assumption | omega | decide)) cd_X1_bearsLiftOf wm_X1_105 0 rfl rfl rfl [0, 1, 2, 3, 4, 5, 6, 7, 8, 9] rfl rfl ⟨Nat.le_of_ble_eq_true rfl, Nat.le_of_ble_eq_true rfl⟩ ⟨Nat.zero_le _, Nat.zero_le _⟩ rfl (Nat.le_of_ble_eq_true rfl) dX1_mustStandBy_11 ?_
  refine j_if_eq (pc := 14) X (tgt := 38) (P := (brsB s (tGet 8 (sB s) b 1) b) = false) dX1_mustStandBy_14 (by decide) (bI_0 _) (fun h14 => ?_) (fun h14 => ?_)
  · skip
    refine j_iconst (pc := 38) X (v := (nI 1)) dX1_mustStandBy_38 (by decide) ?_
    refine j_goto (pc := 39) X (tgt := 43) dX1_mustStandBy_39 (by decide) ?_
    exact j_endI (pc := 43) E dX1_mustStandBy_43 (bI_t (by simp only [must, decide_eq_true_eq]; exact Or.inl h14)) rfl
  · skip
    refine j_aload_n (pc := 17) X dX1_mustStandBy_17 rfl (q := 0) rfl ?_
    refine j_aload_n (pc := 18) X dX1_mustStandBy_18 rfl (q := 0) rfl ?_
    refine j_get (pc := 19) X (C := RX1) (T := TX1) (N := 9) wz_X1 0 rfl rfl 2 (by decide) wf_X1_23 rfl dX1_mustStandBy_19 ?_
    refine j_iload_n (pc := 22) X dX1_mustStandBy_22 rfl (q := 1) rfl ?_
    refine j_iconst (pc := 23) X (v := (nI 2)) dX1_mustStandBy_23 (by decide) ?_
    refine j_callVR (pc := 24) X (st := [.ref (a 0)])  (c_X2_get l D tA (a 3) (a 8) 30 8 (sB s) b 2 (by first | assumption | omega | decide) (by first | assumption | omega | decide) (by first | assumption | omega | decide) (by first | assumption | omega | decide) (by first | assumption | omega | decide) (by first | assumption | omega | decide)) cd_X2_get wm_X1_70 6 rfl rfl rfl [6, 7] rfl rfl ⟨Nat.le_of_ble_eq_true rfl, Nat.le_of_ble_eq_true rfl⟩ ⟨Nat.zero_le _, Nat.zero_le _⟩ rfl (Nat.le_of_ble_eq_true rfl) dX1_mustStandBy_24 ?_
    refine j_callVR (pc := 27) X (st := [])  (c_X1_windAt l D tA a s (tGet 8 (sB s) b 2) (by first | assumption | omega | decide)) cd_X1_windAt wm_X1_98 0 rfl rfl rfl [0, 1, 2, 3, 4, 5, 6, 7, 8, 9] rfl rfl ⟨Nat.le_of_ble_eq_true rfl, Nat.le_of_ble_eq_true rfl⟩ ⟨Nat.zero_le _, Nat.zero_le _⟩ rfl (Nat.le_of_ble_eq_true rfl) dX1_mustStandBy_27 ?_
    refine j_aload_n (pc := 30) X dX1_mustStandBy_30 rfl (q := 0) rfl ?_
    refine j_iload_n (pc := 31) X dX1_mustStandBy_31 rfl (q := 1) rfl ?_
    refine j_callVR (pc := 32) X (st := [.int (nI ((sW s) (tGet 8 (sB s) b 2)))])  (c_X1_limitOf l D tA a s b (by first | assumption | omega | decide) (by first | assumption | omega | decide)) cd_X1_limitOf wm_X1_109 0 rfl rfl rfl [0, 1, 2, 3, 4, 5, 6, 7, 8, 9] rfl rfl ⟨Nat.le_of_ble_eq_true rfl, Nat.le_of_ble_eq_true rfl⟩ ⟨Nat.zero_le _, Nat.zero_le _⟩ rfl (Nat.le_of_ble_eq_true rfl) dX1_mustStandBy_32 ?_
    refine j_icmp_le (pc := 35) X (tgt := 42) (P := ((sW s) (tGet 8 (sB s) b 2)) ≤ (limO (sB s) b)) dX1_mustStandBy_35 (by decide) (nI_leI (by omega) (by omega)) (fun h35 => ?_) (fun h35 => ?_)
    · skip
      refine j_iconst (pc := 42) X (v := (nI 0)) dX1_mustStandBy_42 (by decide) ?_
      exact j_endI (pc := 43) E dX1_mustStandBy_43 (bI_f (by simp only [must, decide_eq_false_iff_not]; exact fun q => q.elim (fun q => h14 q) (fun q => absurd q (by omega)))) rfl
    · skip
      refine j_iconst (pc := 38) X (v := (nI 1)) dX1_mustStandBy_38 (by decide) ?_
      refine j_goto (pc := 39) X (tgt := 43) dX1_mustStandBy_39 (by decide) ?_
      exact j_endI (pc := 43) E dX1_mustStandBy_43 (bI_t (by simp only [must, decide_eq_true_eq]; exact Or.inr (by omega))) rfl
theorem cd_X1_causerOf : kCardV yX1_causerOf cX1_causerOf 4 (some .int) 1 := ⟨⟨wc_X1_causerOf, wi_X1, by decide +kernel, by decide +kernel, rfl⟩, wk_X1_causerOf, ws_X1_causerOf⟩
set_option maxHeartbeats 4000000 in
set_option maxRecDepth 100000 in
theorem c_X1_causerOf (l : Launch) (D : va_G) (tA : Nat → ClassId) (a : Nat → Nat) (s : Sg) (b : Nat) (hw : Wf s) (hb : b < (sB s).1) : Kx l D tA yX1_causerOf cX1_causerOf 4 (some .int) 3 70 [.ref (a 0), .int (nI b)] (stW tA a s) (some (.int (rO (caus s b)))) (stW tA a s) := by
  refine kx_int rfl (Nat.le_of_ble_eq_true rfl) (fun G X E => ?_)
  show J l D G 0 0 (stW tA a s) [(0, .ref (a 0)), (1, .int (nI b))] 0 []
  have hn := hw.n
  have hb0 := hw.b hb
  have hli := limN_le (tGet 8 (sB s) b 3) (tGet 8 (sB s) b 4)
  have hli : limO (sB s) b ≤ 60 := hli
  refine j_aload_n (pc := 0) X dX1_causerOf_0 rfl (q := 0) rfl ?_
  refine j_get (pc := 1) X (C := RX1) (T := TX1) (N := 9) wz_X1 0 rfl rfl 2 (by decide) wf_X1_23 rfl dX1_causerOf_1 ?_
  refine j_iload_n (pc := 4) X dX1_causerOf_4 rfl (q := 1) rfl ?_
  refine j_iconst (pc := 5) X (v := (nI 1)) dX1_causerOf_5 (by decide) ?_
  refine j_callVR (pc := 6) X (st := [])  (c_X2_get l D tA (a 3) (a 8) 30 8 (sB s) b 1 (by first | assumption | omega | decide) (by first | assumption | omega | decide) (by first | assumption | omega | decide) (by first | assumption | omega | decide) (by first | assumption | omega | decide) (by first | assumption | omega | decide)) cd_X2_get wm_X1_70 6 rfl rfl rfl [6, 7] rfl rfl ⟨Nat.le_of_ble_eq_true rfl, Nat.le_of_ble_eq_true rfl⟩ ⟨Nat.zero_le _, Nat.zero_le _⟩ rfl (Nat.le_of_ble_eq_true rfl) dX1_causerOf_6 ?_
  refine j_istore_n (pc := 9) X (lv' := [(2, .int (nI (tGet 8 (sB s) b 1))), (0, .ref (a 0)), (1, .int (nI b))]) dX1_causerOf_9 rfl (by decide) rfl ?_
  refine j_aload_n (pc := 10) X dX1_causerOf_10 rfl (q := 1) rfl ?_
  refine j_iload_n (pc := 11) X dX1_causerOf_11 rfl (q := 0) rfl ?_
  refine j_iload_n (pc := 12) X dX1_causerOf_12 rfl (q := 2) rfl ?_
  refine j_callVR (pc := 13) X (st := [])  (c_X1_bearsLiftOf l D tA a s (tGet 8 (sB s) b 1) b (by first | assumption | omega | decide) (by first | assumption | omega | decide) (by first | assumption | omega | decide)) cd_X1_bearsLiftOf wm_X1_105 0 rfl rfl rfl [0, 1, 2, 3, 4, 5, 6, 7, 8, 9] rfl rfl ⟨Nat.le_of_ble_eq_true rfl, Nat.le_of_ble_eq_true rfl⟩ ⟨Nat.zero_le _, Nat.zero_le _⟩ rfl (Nat.le_of_ble_eq_true rfl) dX1_causerOf_13 ?_
  refine j_if_ne (pc := 16) X (tgt := 29) (P := (brsB s (tGet 8 (sB s) b 1) b) = true) dX1_causerOf_16 (by decide) (bI_n0 _) (fun h16 => ?_) (fun h16 => ?_)
  · skip
    refine j_aload_n (pc := 29) X dX1_causerOf_29 rfl (q := 1) rfl ?_
    refine j_get (pc := 30) X (C := RX1) (T := TX1) (N := 9) wz_X1 0 rfl rfl 2 (by decide) wf_X1_23 rfl dX1_causerOf_30 ?_
    refine j_iload_n (pc := 33) X dX1_causerOf_33 rfl (q := 2) rfl ?_
    refine j_bipush (pc := 34) X (v := (nI 6)) dX1_causerOf_34 (by decide) ?_
    refine j_callVR (pc := 36) X (st := [])  (c_X2_get l D tA (a 3) (a 8) 30 8 (sB s) b 6 (by first | assumption | omega | decide) (by first | assumption | omega | decide) (by first | assumption | omega | decide) (by first | assumption | omega | decide) (by first | assumption | omega | decide) (by first | assumption | omega | decide)) cd_X2_get wm_X1_70 6 rfl rfl rfl [6, 7] rfl rfl ⟨Nat.le_of_ble_eq_true rfl, Nat.le_of_ble_eq_true rfl⟩ ⟨Nat.zero_le _, Nat.zero_le _⟩ rfl (Nat.le_of_ble_eq_true rfl) dX1_causerOf_36 ?_
    refine j_aload_n (pc := 39) X dX1_causerOf_39 rfl (q := 1) rfl ?_
    refine j_iload_n (pc := 40) X dX1_causerOf_40 rfl (q := 2) rfl ?_
    refine j_callVR (pc := 41) X (st := [.int (nI (tGet 8 (sB s) b 6))])  (c_X1_limitOf l D tA a s b (by first | assumption | omega | decide) (by first | assumption | omega | decide)) cd_X1_limitOf wm_X1_109 0 rfl rfl rfl [0, 1, 2, 3, 4, 5, 6, 7, 8, 9] rfl rfl ⟨Nat.le_of_ble_eq_true rfl, Nat.le_of_ble_eq_true rfl⟩ ⟨Nat.zero_le _, Nat.zero_le _⟩ rfl (Nat.le_of_ble_eq_true rfl) dX1_causerOf_41 ?_
    refine j_icmp_le (pc := 44) X (tgt := 51) (P := (tGet 8 (sB s) b 6) ≤ (limO (sB s) b)) dX1_causerOf_44 (by decide) (nI_leI (by omega) (by omega)) (fun h44 => ?_) (fun h44 => ?_)
    · skip
      refine j_iconst (pc := 51) X (v := (nI 0)) dX1_causerOf_51 (by decide) ?_
      refine j_istore_n (pc := 52) X (lv' := [(3, .int (nI 0)), (2, .int (nI (tGet 8 (sB s) b 1))), (0, .ref (a 0)), (1, .int (nI b))]) dX1_causerOf_52 rfl (by decide) rfl ?_
      refine j_iload_n (pc := 53) X dX1_causerOf_53 rfl (q := 0) rfl ?_
      refine j_if_eq_t (pc := 54) X (tgt := 69) dX1_causerOf_54 (by decide) nI_0 ?_
      refine j_bipush (pc := 69) X (v := (-5)) dX1_causerOf_69 (by decide) ?_
      exact j_endI (pc := 71) E dX1_causerOf_71 (by rw [caus, if_pos h16, if_neg (by omega)]; rfl) rfl
    · skip
      refine j_iconst (pc := 47) X (v := (nI 1)) dX1_causerOf_47 (by decide) ?_
      refine j_goto (pc := 48) X (tgt := 52) dX1_causerOf_48 (by decide) ?_
      refine j_istore_n (pc := 52) X (lv' := [(3, .int (nI 1)), (2, .int (nI (tGet 8 (sB s) b 1))), (0, .ref (a 0)), (1, .int (nI b))]) dX1_causerOf_52 rfl (by decide) rfl ?_
      refine j_iload_n (pc := 53) X dX1_causerOf_53 rfl (q := 0) rfl ?_
      refine j_if_eq_f (pc := 54) X (tgt := 69) dX1_causerOf_54 (by decide) (nI_ne0 (n := 1) (by decide) (by decide)) ?_
      refine j_aload_n (pc := 57) X dX1_causerOf_57 rfl (q := 2) rfl ?_
      refine j_get (pc := 58) X (C := RX1) (T := TX1) (N := 9) wz_X1 0 rfl rfl 2 (by decide) wf_X1_23 rfl dX1_causerOf_58 ?_
      refine j_iload_n (pc := 61) X dX1_causerOf_61 rfl (q := 3) rfl ?_
      refine j_iconst (pc := 62) X (v := (nI 0)) dX1_causerOf_62 (by decide) ?_
      refine j_callVR (pc := 63) X (st := [])  (c_X2_get l D tA (a 3) (a 8) 30 8 (sB s) b 0 (by first | assumption | omega | decide) (by first | assumption | omega | decide) (by first | assumption | omega | decide) (by first | assumption | omega | decide) (by first | assumption | omega | decide) (by first | assumption | omega | decide)) cd_X2_get wm_X1_70 6 rfl rfl rfl [6, 7] rfl rfl ⟨Nat.le_of_ble_eq_true rfl, Nat.le_of_ble_eq_true rfl⟩ ⟨Nat.zero_le _, Nat.zero_le _⟩ rfl (Nat.le_of_ble_eq_true rfl) dX1_causerOf_63 ?_
      refine j_goto (pc := 66) X (tgt := 71) dX1_causerOf_66 (by decide) ?_
      exact j_endI (pc := 71) E dX1_causerOf_71 (by rw [caus, if_pos h16, if_pos (by omega)]; rfl) rfl
  · skip
    refine j_aload_n (pc := 19) X dX1_causerOf_19 rfl (q := 1) rfl ?_
    refine j_get (pc := 20) X (C := RX1) (T := TX1) (N := 9) wz_X1 0 rfl rfl 0 (by decide) wf_X1_14 rfl dX1_causerOf_20 ?_
    refine j_iload_n (pc := 23) X dX1_causerOf_23 rfl (q := 0) rfl ?_
    refine j_iconst (pc := 24) X (v := (nI 2)) dX1_causerOf_24 (by decide) ?_
    refine j_callVR (pc := 25) X (st := [])  (c_X2_get l D tA (a 1) (a 6) 5 3 (sM s) (tGet 8 (sB s) b 1) 2 (by first | assumption | omega | decide) (by first | assumption | omega | decide) (by first | assumption | omega | decide) (by first | assumption | omega | decide) (by first | assumption | omega | decide) (by first | assumption | omega | decide)) cd_X2_get wm_X1_70 2 rfl rfl rfl [2, 3] rfl rfl ⟨Nat.le_of_ble_eq_true rfl, Nat.le_of_ble_eq_true rfl⟩ ⟨Nat.zero_le _, Nat.zero_le _⟩ rfl (Nat.le_of_ble_eq_true rfl) dX1_causerOf_25 ?_
    exact j_endI (pc := 28) E dX1_causerOf_28 (by rw [caus, if_neg h16, rO_noO]) rfl
theorem cd_X1_nextMoveUpTo : kCardV yX1_nextMoveUpTo cX1_nextMoveUpTo 5 (some .int) 1 := ⟨⟨wc_X1_nextMoveUpTo, wi_X1, by decide +kernel, by decide +kernel, rfl⟩, wk_X1_nextMoveUpTo, ws_X1_nextMoveUpTo⟩
set_option maxHeartbeats 4000000 in
set_option maxRecDepth 100000 in
theorem c_X1_nextMoveUpTo (l : Launch) (D : va_G) (tA : Nat → ClassId) (a : Nat → Nat) (s : Sg) (h : Nat) (hw : Wf s) (hh : h < 65536) : Kx l D tA yX1_nextMoveUpTo cX1_nextMoveUpTo 5 (some .int) 1 23 [.ref (a 0), .int (nI h)] (stW tA a s) (some (.int (rO (nxt (sV s) h)))) (stW tA a s) := by
  refine kx_int rfl (Nat.le_of_ble_eq_true rfl) (fun G X E => ?_)
  show J l D G 0 0 (stW tA a s) [(0, .ref (a 0)), (1, .int (nI h))] 0 []
  have hn := hw.n
  refine j_bipush (pc := 0) X (v := (-5)) dX1_nextMoveUpTo_0 (by decide) ?_
  refine j_istore_n (pc := 2) X (lv' := [(2, .int (-5)), (0, .ref (a 0)), (1, .int (nI h))]) dX1_nextMoveUpTo_2 rfl (by decide) rfl ?_
  refine j_iload_n (pc := 3) X dX1_nextMoveUpTo_3 rfl (q := 2) rfl ?_
  refine j_iconst (pc := 4) X (v := (nI 1)) dX1_nextMoveUpTo_4 (by decide) ?_
  refine j_iadd (pc := 5) X (v := (nI (h + 1))) dX1_nextMoveUpTo_5 (nI_add _ _) ?_
  refine j_istore_n (pc := 6) X (lv' := [(3, .int (nI (h + 1))), (2, .int (-5)), (0, .ref (a 0)), (1, .int (nI h))]) dX1_nextMoveUpTo_6 rfl (by decide) rfl ?_
  refine j_iconst (pc := 7) X (v := (nI 0)) dX1_nextMoveUpTo_7 (by decide) ?_
  refine j_istore (pc := 8) X (lv' := [(4, .int (nI 0)), (3, .int (nI (h + 1))), (2, .int (-5)), (0, .ref (a 0)), (1, .int (nI h))]) dX1_nextMoveUpTo_8 (by decide) rfl ?_
  have L_10 : ∀ (fu : Nat) (i e : Nat) (ob : Option Nat), i ≤ (sV s).1 → (ob, e) = nxA (sV s) h i → (sV s).1 - i < fu → J l D G 0 0 (stW tA a s) [(0, .ref (a 0)), (1, .int (nI h)), (2, .int (rO ob)), (3, .int (nI e)), (4, .int (nI i))] 10 [] := by
    intro fu
    induction fu with
    | zero => intro i e ob hi ho hfu; exact absurd hfu (Nat.not_lt_zero _)
    | succ fu ih_10 =>
      intro i e ob hi ho hfu
      have he : e ≤ h + 1 := by have := nxA_le (sV s) h i; rw [← ho] at this; exact this
      refine j_iload (pc := 10) X dX1_nextMoveUpTo_10 (q := 4) rfl ?_
      refine j_aload_n (pc := 12) X dX1_nextMoveUpTo_12 rfl (q := 0) rfl ?_
      refine j_get (pc := 13) X (C := RX1) (T := TX1) (N := 9) wz_X1 0 rfl rfl 3 (by decide) wf_X1_26 rfl dX1_nextMoveUpTo_13 ?_
      refine j_callVR (pc := 16) X (st := [.int (nI i)])  (c_X2_size l D tA (a 4) (a 9) 10 5 (sV s)  ) cd_X2_size wm_X1_66 8 rfl rfl rfl [8, 9] rfl rfl ⟨Nat.le_of_ble_eq_true rfl, Nat.le_of_ble_eq_true rfl⟩ ⟨Nat.zero_le _, Nat.zero_le _⟩ rfl (Nat.le_of_ble_eq_true rfl) dX1_nextMoveUpTo_16 ?_
      refine j_icmp_ge (pc := 19) X (tgt := 56) (P := ((sV s).1) ≤ i) dX1_nextMoveUpTo_19 (by decide) (nI_leI (by omega) (by omega)) (fun h19 => ?_) (fun h19 => ?_)
      · skip
        refine j_iload_n (pc := 56) X dX1_nextMoveUpTo_56 rfl (q := 2) rfl ?_
        exact j_endI (pc := 57) E dX1_nextMoveUpTo_57 (by rw [nxt, ← show i = (sV s).1 by omega, ← ho]) rfl
      · skip
        refine j_aload_n (pc := 22) X dX1_nextMoveUpTo_22 rfl (q := 0) rfl ?_
        refine j_get (pc := 23) X (C := RX1) (T := TX1) (N := 9) wz_X1 0 rfl rfl 3 (by decide) wf_X1_26 rfl dX1_nextMoveUpTo_23 ?_
        refine j_iload (pc := 26) X dX1_nextMoveUpTo_26 (q := 4) rfl ?_
        refine j_iconst (pc := 28) X (v := (nI 4)) dX1_nextMoveUpTo_28 (by decide) ?_
        refine j_callVR (pc := 29) X (st := [])  (c_X2_get l D tA (a 4) (a 9) 10 5 (sV s) i 4 (by first | assumption | omega | decide) (by first | assumption | omega | decide) (by first | assumption | omega | decide) (by first | assumption | omega | decide) (by first | assumption | omega | decide) (by first | assumption | omega | decide)) cd_X2_get wm_X1_70 8 rfl rfl rfl [8, 9] rfl rfl ⟨Nat.le_of_ble_eq_true rfl, Nat.le_of_ble_eq_true rfl⟩ ⟨Nat.zero_le _, Nat.zero_le _⟩ rfl (Nat.le_of_ble_eq_true rfl) dX1_nextMoveUpTo_29 ?_
        have hv := hw.v (show i < (sV s).1 by omega)
        refine j_iload_n (pc := 32) X dX1_nextMoveUpTo_32 rfl (q := 3) rfl ?_
        refine j_icmp_ge (pc := 33) X (tgt := 50) (P := e ≤ (tGet 5 (sV s) i 4)) dX1_nextMoveUpTo_33 (by decide) (nI_leI (by omega) (by omega)) (fun h33 => ?_) (fun h33 => ?_)
        · skip
          refine j_iinc (pc := 50) X (v := (nI (i + 1))) (lv' := [(4, .int (nI (i + 1))), (0, .ref (a 0)), (1, .int (nI h)), (2, .int (rO ob)), (3, .int (nI e))]) dX1_nextMoveUpTo_50 (q := 4) rfl (nI_add _ _) (by decide) rfl ?_
          refine j_goto (pc := 53) X (tgt := 10) dX1_nextMoveUpTo_53 (by decide) ?_
          refine j_lv X (lv' := [(0, .ref (a 0)), (1, .int (nI h)), (2, .int (rO ob)), (3, .int (nI e)), (4, .int (nI (i + 1)))]) [1, 2, 3, 4, 0] rfl ?_
          exact ih_10 (i + 1) e ob (by omega) (by rw [nxA, if_neg (by rw [← ho]; exact Nat.not_lt.mpr h33)]; exact ho) (by omega)
        · skip
          refine j_iload (pc := 36) X dX1_nextMoveUpTo_36 (q := 4) rfl ?_
          refine j_istore_n (pc := 38) X (lv' := [(2, .int (nI i)), (0, .ref (a 0)), (1, .int (nI h)), (3, .int (nI e)), (4, .int (nI i))]) dX1_nextMoveUpTo_38 rfl (by decide) rfl ?_
          refine j_aload_n (pc := 39) X dX1_nextMoveUpTo_39 rfl (q := 1) rfl ?_
          refine j_get (pc := 40) X (C := RX1) (T := TX1) (N := 9) wz_X1 0 rfl rfl 3 (by decide) wf_X1_26 rfl dX1_nextMoveUpTo_40 ?_
          refine j_iload (pc := 43) X dX1_nextMoveUpTo_43 (q := 4) rfl ?_
          refine j_iconst (pc := 45) X (v := (nI 4)) dX1_nextMoveUpTo_45 (by decide) ?_
          refine j_callVR (pc := 46) X (st := [])  (c_X2_get l D tA (a 4) (a 9) 10 5 (sV s) i 4 (by first | assumption | omega | decide) (by first | assumption | omega | decide) (by first | assumption | omega | decide) (by first | assumption | omega | decide) (by first | assumption | omega | decide) (by first | assumption | omega | decide)) cd_X2_get wm_X1_70 8 rfl rfl rfl [8, 9] rfl rfl ⟨Nat.le_of_ble_eq_true rfl, Nat.le_of_ble_eq_true rfl⟩ ⟨Nat.zero_le _, Nat.zero_le _⟩ rfl (Nat.le_of_ble_eq_true rfl) dX1_nextMoveUpTo_46 ?_
          refine j_istore_n (pc := 49) X (lv' := [(3, .int (nI (tGet 5 (sV s) i 4))), (2, .int (nI i)), (0, .ref (a 0)), (1, .int (nI h)), (4, .int (nI i))]) dX1_nextMoveUpTo_49 rfl (by decide) rfl ?_
          refine j_iinc (pc := 50) X (v := (nI (i + 1))) (lv' := [(4, .int (nI (i + 1))), (3, .int (nI (tGet 5 (sV s) i 4))), (2, .int (nI i)), (0, .ref (a 0)), (1, .int (nI h))]) dX1_nextMoveUpTo_50 (q := 4) rfl (nI_add _ _) (by decide) rfl ?_
          refine j_goto (pc := 53) X (tgt := 10) dX1_nextMoveUpTo_53 (by decide) ?_
          refine j_lv X (lv' := [(0, .ref (a 0)), (1, .int (nI h)), (2, .int (nI i)), (3, .int (nI (tGet 5 (sV s) i 4))), (4, .int (nI (i + 1)))]) [3, 4, 2, 1, 0] rfl ?_
          exact ih_10 (i + 1) (tGet 5 (sV s) i 4) (some i) (by omega) (by rw [nxA, if_pos (by rw [← ho]; exact Nat.not_le.mp h33)]) (by omega)
  refine j_lv X (lv' := [(0, .ref (a 0)), (1, .int (nI h)), (2, .int (-5)), (3, .int (nI (h + 1))), (4, .int (nI 0))]) [3, 4, 2, 1, 0] rfl ?_
  exact L_10 _ 0 (h + 1) none (Nat.zero_le _) rfl (Nat.lt_succ_self _)
theorem cd_X1_closeMove : kCardV yX1_closeMove cX1_closeMove 6 none 1 := ⟨⟨wc_X1_closeMove, wi_X1, by decide +kernel, by decide +kernel, rfl⟩, wk_X1_closeMove, ws_X1_closeMove⟩
set_option maxHeartbeats 4000000 in
set_option maxRecDepth 100000 in
theorem c_X1_closeMove (l : Launch) (D : va_G) (tA : Nat → ClassId) (a : Nat → Nat) (s : Sg) (v : Nat) (hw : Wf s) (hv : v < (sV s).1) : Kx l D tA yX1_closeMove cX1_closeMove 6 none 3 69 [.ref (a 0), .int (nI v)] (stW tA a s) none (stW tA a (clM s v)) := by
  refine kx_void rfl (Nat.le_of_ble_eq_true rfl) (fun G X E => ?_)
  show J l D G 0 0 (stW tA a s) [(0, .ref (a 0)), (1, .int (nI v))] 0 []
  have hn := hw.n
  have hv0 := hw.v hv
  obtain ⟨hv0, hv1, hv2, hv3, hv4⟩ := hv0
  have hf0 := hw.m hv1
  have ht0 := hw.m hv2
  refine j_aload_n (pc := 0) X dX1_closeMove_0 rfl (q := 0) rfl ?_
  refine j_get (pc := 1) X (C := RX1) (T := TX1) (N := 9) wz_X1 0 rfl rfl 3 (by decide) wf_X1_26 rfl dX1_closeMove_1 ?_
  refine j_iload_n (pc := 4) X dX1_closeMove_4 rfl (q := 1) rfl ?_
  refine j_iconst (pc := 5) X (v := (nI 0)) dX1_closeMove_5 (by decide) ?_
  refine j_callVR (pc := 6) X (st := [])  (c_X2_get l D tA (a 4) (a 9) 10 5 (sV s) v 0 (by first | assumption | omega | decide) (by first | assumption | omega | decide) (by first | assumption | omega | decide) (by first | assumption | omega | decide) (by first | assumption | omega | decide) (by first | assumption | omega | decide)) cd_X2_get wm_X1_70 8 rfl rfl rfl [8, 9] rfl rfl ⟨Nat.le_of_ble_eq_true rfl, Nat.le_of_ble_eq_true rfl⟩ ⟨Nat.zero_le _, Nat.zero_le _⟩ rfl (Nat.le_of_ble_eq_true rfl) dX1_closeMove_6 ?_
  refine j_istore_n (pc := 9) X (lv' := [(2, .int (nI (tGet 5 (sV s) v 0))), (0, .ref (a 0)), (1, .int (nI v))]) dX1_closeMove_9 rfl (by decide) rfl ?_
  refine j_aload_n (pc := 10) X dX1_closeMove_10 rfl (q := 1) rfl ?_
  refine j_get (pc := 11) X (C := RX1) (T := TX1) (N := 9) wz_X1 0 rfl rfl 3 (by decide) wf_X1_26 rfl dX1_closeMove_11 ?_
  refine j_iload_n (pc := 14) X dX1_closeMove_14 rfl (q := 2) rfl ?_
  refine j_iconst (pc := 15) X (v := (nI 1)) dX1_closeMove_15 (by decide) ?_
  refine j_callVR (pc := 16) X (st := [])  (c_X2_get l D tA (a 4) (a 9) 10 5 (sV s) v 1 (by first | assumption | omega | decide) (by first | assumption | omega | decide) (by first | assumption | omega | decide) (by first | assumption | omega | decide) (by first | assumption | omega | decide) (by first | assumption | omega | decide)) cd_X2_get wm_X1_70 8 rfl rfl rfl [8, 9] rfl rfl ⟨Nat.le_of_ble_eq_true rfl, Nat.le_of_ble_eq_true rfl⟩ ⟨Nat.zero_le _, Nat.zero_le _⟩ rfl (Nat.le_of_ble_eq_true rfl) dX1_closeMove_16 ?_
  refine j_istore_n (pc := 19) X (lv' := [(3, .int (nI (tGet 5 (sV s) v 1))), (2, .int (nI (tGet 5 (sV s) v 0))), (0, .ref (a 0)), (1, .int (nI v))]) dX1_closeMove_19 rfl (by decide) rfl ?_
  refine j_aload_n (pc := 20) X dX1_closeMove_20 rfl (q := 2) rfl ?_
  refine j_get (pc := 21) X (C := RX1) (T := TX1) (N := 9) wz_X1 0 rfl rfl 3 (by decide) wf_X1_26 rfl dX1_closeMove_21 ?_
  refine j_iload_n (pc := 24) X dX1_closeMove_24 rfl (q := 3) rfl ?_
  refine j_iconst (pc := 25) X (v := (nI 2)) dX1_closeMove_25 (by decide) ?_
  refine j_callVR (pc := 26) X (st := [])  (c_X2_get l D tA (a 4) (a 9) 10 5 (sV s) v 2 (by first | assumption | omega | decide) (by first | assumption | omega | decide) (by first | assumption | omega | decide) (by first | assumption | omega | decide) (by first | assumption | omega | decide) (by first | assumption | omega | decide)) cd_X2_get wm_X1_70 8 rfl rfl rfl [8, 9] rfl rfl ⟨Nat.le_of_ble_eq_true rfl, Nat.le_of_ble_eq_true rfl⟩ ⟨Nat.zero_le _, Nat.zero_le _⟩ rfl (Nat.le_of_ble_eq_true rfl) dX1_closeMove_26 ?_
  refine j_istore (pc := 29) X (lv' := [(4, .int (nI (tGet 5 (sV s) v 2))), (3, .int (nI (tGet 5 (sV s) v 1))), (2, .int (nI (tGet 5 (sV s) v 0))), (0, .ref (a 0)), (1, .int (nI v))]) dX1_closeMove_29 (by decide) rfl ?_
  refine j_aload_n (pc := 31) X dX1_closeMove_31 rfl (q := 3) rfl ?_
  refine j_get (pc := 32) X (C := RX1) (T := TX1) (N := 9) wz_X1 0 rfl rfl 3 (by decide) wf_X1_26 rfl dX1_closeMove_32 ?_
  refine j_iload_n (pc := 35) X dX1_closeMove_35 rfl (q := 4) rfl ?_
  refine j_iconst (pc := 36) X (v := (nI 3)) dX1_closeMove_36 (by decide) ?_
  refine j_callVR (pc := 37) X (st := [])  (c_X2_get l D tA (a 4) (a 9) 10 5 (sV s) v 3 (by first | assumption | omega | decide) (by first | assumption | omega | decide) (by first | assumption | omega | decide) (by first | assumption | omega | decide) (by first | assumption | omega | decide) (by first | assumption | omega | decide)) cd_X2_get wm_X1_70 8 rfl rfl rfl [8, 9] rfl rfl ⟨Nat.le_of_ble_eq_true rfl, Nat.le_of_ble_eq_true rfl⟩ ⟨Nat.zero_le _, Nat.zero_le _⟩ rfl (Nat.le_of_ble_eq_true rfl) dX1_closeMove_37 ?_
  refine j_istore (pc := 40) X (lv' := [(5, .int (nI (tGet 5 (sV s) v 3))), (4, .int (nI (tGet 5 (sV s) v 2))), (3, .int (nI (tGet 5 (sV s) v 1))), (2, .int (nI (tGet 5 (sV s) v 0))), (0, .ref (a 0)), (1, .int (nI v))]) dX1_closeMove_40 (by decide) rfl ?_
  refine j_aload_n (pc := 42) X dX1_closeMove_42 rfl (q := 4) rfl ?_
  refine j_get (pc := 43) X (C := RX1) (T := TX1) (N := 9) wz_X1 0 rfl rfl 3 (by decide) wf_X1_26 rfl dX1_closeMove_43 ?_
  refine j_iload_n (pc := 46) X dX1_closeMove_46 rfl (q := 5) rfl ?_
  refine j_callV (pc := 47) X (st := []) (w' := (stW tA a (uV s (tDel 5 (sV s) v)))) (c_X2_removeRow l D tA (a 4) (a 9) 10 5 (sV s) v (by first | assumption | omega | decide) (by first | assumption | omega | decide) (by first | assumption | omega | decide) (by first | assumption | omega | decide) (by first | assumption | omega | decide)) cd_X2_removeRow wm_X1_119 8 rfl rfl rfl [8, 9] rfl rfl (tb_fst.trans tb_fst.symm) rfl ⟨Nat.le_of_ble_eq_true rfl, Nat.le_of_ble_eq_true rfl⟩ ⟨Nat.zero_le _, Nat.zero_le _⟩ rfl (Nat.le_of_ble_eq_true rfl) dX1_closeMove_47 ?_
  refine j_aload_n (pc := 50) X dX1_closeMove_50 rfl (q := 4) rfl ?_
  refine j_get (pc := 51) X (C := RX1) (T := TX1) (N := 9) wz_X1 0 rfl rfl 0 (by decide) wf_X1_14 rfl dX1_closeMove_51 ?_
  refine j_iload_n (pc := 54) X dX1_closeMove_54 rfl (q := 2) rfl ?_
  refine j_iconst (pc := 55) X (v := (nI 1)) dX1_closeMove_55 (by decide) ?_
  refine j_callVR (pc := 56) X (st := [])  (c_X2_get l D tA (a 1) (a 6) 5 3 (sM s) (tGet 5 (sV s) v 1) 1 (by decide) (by decide) (show (sM s).1 ≤ 5 by omega) (by assumption) (by decide) (by decide)) cd_X2_get wm_X1_70 2 rfl rfl rfl [2, 3] rfl rfl ⟨Nat.le_of_ble_eq_true rfl, Nat.le_of_ble_eq_true rfl⟩ ⟨Nat.zero_le _, Nat.zero_le _⟩ rfl (Nat.le_of_ble_eq_true rfl) dX1_closeMove_56 ?_
  refine j_iload (pc := 59) X dX1_closeMove_59 (q := 0) rfl ?_
  refine j_icmp_lt (pc := 61) X (tgt := 82) (P := (tGet 3 (sM s) (tGet 5 (sV s) v 1) 1) < (tGet 5 (sV s) v 3)) dX1_closeMove_61 (by decide) (nI_ltI (by omega) (by omega)) (fun h61 => ?_) (fun h61 => ?_)
  · skip
    refine j_aload_n (pc := 82) X dX1_closeMove_82 rfl (q := 4) rfl ?_
    refine j_iload_n (pc := 83) X dX1_closeMove_83 rfl (q := 3) rfl ?_
    refine j_iconst (pc := 84) X (v := (nI 5)) dX1_closeMove_84 (by decide) ?_
    refine j_callV (pc := 85) X (st := []) (w' := (stW tA a (payS (uV s (tDel 5 (sV s) v)) (tGet 5 (sV s) v 0) 5))) (c_X1_pay l D tA a (uV s (tDel 5 (sV s) v)) (tGet 5 (sV s) v 0) 5 (show (sP s).1 ≤ 8 by omega) hv0) cd_X1_pay wm_X1_122 0 rfl rfl rfl [0, 1, 2, 3, 4, 5, 6, 7, 8, 9] rfl rfl (st_fst.trans st_fst.symm) rfl ⟨Nat.le_of_ble_eq_true rfl, Nat.le_of_ble_eq_true rfl⟩ ⟨Nat.zero_le _, Nat.zero_le _⟩ rfl (Nat.le_of_ble_eq_true rfl) dX1_closeMove_85 ?_
    refine j_aload_n (pc := 88) X dX1_closeMove_88 rfl (q := 4) rfl ?_
    refine j_dup (pc := 89) X dX1_closeMove_89 rfl ?_
    refine j_get (pc := 90) X (C := RX1) (T := TX1) (N := 9) wz_X1 0 rfl rfl 7 (by decide) wf_X1_56 rfl dX1_closeMove_90 ?_
    refine j_iconst (pc := 93) X (v := (nI 1)) dX1_closeMove_93 (by decide) ?_
    refine j_iadd (pc := 94) X (v := (nI ((sF (payS (uV s (tDel 5 (sV s) v)) (tGet 5 (sV s) v 0) 5)) + 1))) dX1_closeMove_94 (nI_add _ _) ?_
    refine j_put (pc := 95) X (C := RX1) (T := TX1) (N := 9) wz_X1 tyX1 tyX1_ok nmX1 0 rfl rfl 7 (by decide) wf_X1_56 rfl rfl rfl (Nat.le_of_ble_eq_true rfl) (w' := (stW tA a (uF (payS (uV s (tDel 5 (sV s) v)) (tGet 5 (sV s) v 0) 5) ((sF (payS (uV s (tDel 5 (sV s) v)) (tGet 5 (sV s) v 0) 5)) + 1)))) rfl dX1_closeMove_95 ?_
    exact j_endV (pc := 98) E dX1_closeMove_98 (congrArg (stW tA a) (by rw [clM, if_pos (Or.inl h61)] <;> rfl))
  · skip
    refine j_aload_n (pc := 64) X dX1_closeMove_64 rfl (q := 4) rfl ?_
    refine j_get (pc := 65) X (C := RX1) (T := TX1) (N := 9) wz_X1 0 rfl rfl 0 (by decide) wf_X1_14 rfl dX1_closeMove_65 ?_
    refine j_iload (pc := 68) X dX1_closeMove_68 (q := 1) rfl ?_
    refine j_iconst (pc := 70) X (v := (nI 1)) dX1_closeMove_70 (by decide) ?_
    refine j_callVR (pc := 71) X (st := [])  (c_X2_get l D tA (a 1) (a 6) 5 3 (sM s) (tGet 5 (sV s) v 2) 1 (by decide) (by decide) (show (sM s).1 ≤ 5 by omega) (by assumption) (by decide) (by decide)) cd_X2_get wm_X1_70 2 rfl rfl rfl [2, 3] rfl rfl ⟨Nat.le_of_ble_eq_true rfl, Nat.le_of_ble_eq_true rfl⟩ ⟨Nat.zero_le _, Nat.zero_le _⟩ rfl (Nat.le_of_ble_eq_true rfl) dX1_closeMove_71 ?_
    refine j_iload (pc := 74) X dX1_closeMove_74 (q := 0) rfl ?_
    refine j_iadd (pc := 76) X (v := (nI ((tGet 3 (sM s) (tGet 5 (sV s) v 2) 1) + (tGet 5 (sV s) v 3)))) dX1_closeMove_76 (nI_add _ _) ?_
    refine j_bipush (pc := 77) X (v := (nI 12)) dX1_closeMove_77 (by decide) ?_
    refine j_icmp_le (pc := 79) X (tgt := 99) (P := ((tGet 3 (sM s) (tGet 5 (sV s) v 2) 1) + (tGet 5 (sV s) v 3)) ≤ 12) dX1_closeMove_79 (by decide) (nI_leI (by omega) (by omega)) (fun h79 => ?_) (fun h79 => ?_)
    · skip
      refine j_aload_n (pc := 99) X dX1_closeMove_99 rfl (q := 4) rfl ?_
      refine j_get (pc := 100) X (C := RX1) (T := TX1) (N := 9) wz_X1 0 rfl rfl 0 (by decide) wf_X1_14 rfl dX1_closeMove_100 ?_
      refine j_iload_n (pc := 103) X dX1_closeMove_103 rfl (q := 2) rfl ?_
      refine j_iconst (pc := 104) X (v := (nI 1)) dX1_closeMove_104 (by decide) ?_
      refine j_iload (pc := 105) X dX1_closeMove_105 (q := 0) rfl ?_
      refine j_ineg (pc := 107) X (v := (-nI (tGet 5 (sV s) v 3))) dX1_closeMove_107 rfl ?_
      refine j_callV (pc := 108) X (st := []) (w' := (stW tA a (uM (uV s (tDel 5 (sV s) v)) (tSet 3 (sM s) (tGet 5 (sV s) v 1) 1 (tGet 3 (sM s) (tGet 5 (sV s) v 1) 1 - tGet 5 (sV s) v 3))))) (c_X2_increase l D tA (a 1) (a 6) 5 3 (sM s) (tGet 5 (sV s) v 1) 1 (-nI (tGet 5 (sV s) v 3)) (tGet 3 (sM s) (tGet 5 (sV s) v 1) 1 - tGet 5 (sV s) v 3) (by decide) (by decide) (show (sM s).1 ≤ 5 by omega) (by assumption) (by decide) (by decide) (nI_neg (by omega))) cd_X2_increase wm_X1_95 2 rfl rfl rfl [2, 3] rfl rfl (tb_fst.trans tb_fst.symm) rfl ⟨Nat.le_of_ble_eq_true rfl, Nat.le_of_ble_eq_true rfl⟩ ⟨Nat.zero_le _, Nat.zero_le _⟩ rfl (Nat.le_of_ble_eq_true rfl) dX1_closeMove_108 ?_
      refine j_aload_n (pc := 111) X dX1_closeMove_111 rfl (q := 4) rfl ?_
      refine j_get (pc := 112) X (C := RX1) (T := TX1) (N := 9) wz_X1 0 rfl rfl 0 (by decide) wf_X1_14 rfl dX1_closeMove_112 ?_
      refine j_iload (pc := 115) X dX1_closeMove_115 (q := 1) rfl ?_
      refine j_iconst (pc := 117) X (v := (nI 1)) dX1_closeMove_117 (by decide) ?_
      refine j_iload (pc := 118) X dX1_closeMove_118 (q := 0) rfl ?_
      refine j_callV (pc := 120) X (st := []) (w' := (stW tA a (uM (uV s (tDel 5 (sV s) v)) (tSet 3 (tSet 3 (sM s) (tGet 5 (sV s) v 1) 1 (tGet 3 (sM s) (tGet 5 (sV s) v 1) 1 - tGet 5 (sV s) v 3)) (tGet 5 (sV s) v 2) 1 (tGet 3 (tSet 3 (sM s) (tGet 5 (sV s) v 1) 1 (tGet 3 (sM s) (tGet 5 (sV s) v 1) 1 - tGet 5 (sV s) v 3)) (tGet 5 (sV s) v 2) 1 + (tGet 5 (sV s) v 3)))))) (c_X2_increase l D tA (a 1) (a 6) 5 3 (tSet 3 (sM s) (tGet 5 (sV s) v 1) 1 (tGet 3 (sM s) (tGet 5 (sV s) v 1) 1 - tGet 5 (sV s) v 3)) (tGet 5 (sV s) v 2) 1 (nI (tGet 5 (sV s) v 3)) (tGet 3 (tSet 3 (sM s) (tGet 5 (sV s) v 1) 1 (tGet 3 (sM s) (tGet 5 (sV s) v 1) 1 - tGet 5 (sV s) v 3)) (tGet 5 (sV s) v 2) 1 + (tGet 5 (sV s) v 3)) (by decide) (by decide) (show (sM s).1 ≤ 5 by omega) (by assumption) (by decide) (by decide) (nI_add _ _)) cd_X2_increase wm_X1_95 2 rfl rfl rfl [2, 3] rfl rfl (tb_fst.trans tb_fst.symm) rfl ⟨Nat.le_of_ble_eq_true rfl, Nat.le_of_ble_eq_true rfl⟩ ⟨Nat.zero_le _, Nat.zero_le _⟩ rfl (Nat.le_of_ble_eq_true rfl) dX1_closeMove_120 ?_
      refine j_aload_n (pc := 123) X dX1_closeMove_123 rfl (q := 4) rfl ?_
      refine j_get (pc := 124) X (C := RX1) (T := TX1) (N := 9) wz_X1 0 rfl rfl 0 (by decide) wf_X1_14 rfl dX1_closeMove_124 ?_
      refine j_iload_n (pc := 127) X dX1_closeMove_127 rfl (q := 2) rfl ?_
      refine j_iconst (pc := 128) X (v := (nI 2)) dX1_closeMove_128 (by decide) ?_
      refine j_iload_n (pc := 129) X dX1_closeMove_129 rfl (q := 3) rfl ?_
      refine j_callV (pc := 130) X (st := []) (w' := (stW tA a (uM (uV s (tDel 5 (sV s) v)) (tSet 3 (tSet 3 (tSet 3 (sM s) (tGet 5 (sV s) v 1) 1 (tGet 3 (sM s) (tGet 5 (sV s) v 1) 1 - tGet 5 (sV s) v 3)) (tGet 5 (sV s) v 2) 1 (tGet 3 (tSet 3 (sM s) (tGet 5 (sV s) v 1) 1 (tGet 3 (sM s) (tGet 5 (sV s) v 1) 1 - tGet 5 (sV s) v 3)) (tGet 5 (sV s) v 2) 1 + (tGet 5 (sV s) v 3))) (tGet 5 (sV s) v 1) 2 (tGet 5 (sV s) v 0))))) (c_X2_set l D tA (a 1) (a 6) 5 3 (tSet 3 (tSet 3 (sM s) (tGet 5 (sV s) v 1) 1 (tGet 3 (sM s) (tGet 5 (sV s) v 1) 1 - tGet 5 (sV s) v 3)) (tGet 5 (sV s) v 2) 1 (tGet 3 (tSet 3 (sM s) (tGet 5 (sV s) v 1) 1 (tGet 3 (sM s) (tGet 5 (sV s) v 1) 1 - tGet 5 (sV s) v 3)) (tGet 5 (sV s) v 2) 1 + (tGet 5 (sV s) v 3))) (tGet 5 (sV s) v 1) 2 (tGet 5 (sV s) v 0) (by decide) (by decide) (show (sM s).1 ≤ 5 by omega) (by assumption) (by decide) (by decide)) cd_X2_set wm_X1_82 2 rfl rfl rfl [2, 3] rfl rfl (tb_fst.trans tb_fst.symm) rfl ⟨Nat.le_of_ble_eq_true rfl, Nat.le_of_ble_eq_true rfl⟩ ⟨Nat.zero_le _, Nat.zero_le _⟩ rfl (Nat.le_of_ble_eq_true rfl) dX1_closeMove_130 ?_
      refine j_aload_n (pc := 133) X dX1_closeMove_133 rfl (q := 4) rfl ?_
      refine j_iload_n (pc := 134) X dX1_closeMove_134 rfl (q := 3) rfl ?_
      refine j_iconst (pc := 135) X (v := (nI 5)) dX1_closeMove_135 (by decide) ?_
      refine j_iconst (pc := 136) X (v := (nI 2)) dX1_closeMove_136 (by decide) ?_
      refine j_iload (pc := 137) X dX1_closeMove_137 (q := 0) rfl ?_
      refine j_imul (pc := 139) X (v := (nI (2 * (tGet 5 (sV s) v 3)))) dX1_closeMove_139 (pk_mul _ _) ?_
      refine j_iadd (pc := 140) X (v := (nI (5 + (2 * (tGet 5 (sV s) v 3))))) dX1_closeMove_140 (nI_add _ _) ?_
      refine j_callV (pc := 141) X (st := []) (w' := (stW tA a (payS (uM (uV s (tDel 5 (sV s) v)) (tSet 3 (tSet 3 (tSet 3 (sM s) (tGet 5 (sV s) v 1) 1 (tGet 3 (sM s) (tGet 5 (sV s) v 1) 1 - tGet 5 (sV s) v 3)) (tGet 5 (sV s) v 2) 1 (tGet 3 (tSet 3 (sM s) (tGet 5 (sV s) v 1) 1 (tGet 3 (sM s) (tGet 5 (sV s) v 1) 1 - tGet 5 (sV s) v 3)) (tGet 5 (sV s) v 2) 1 + (tGet 5 (sV s) v 3))) (tGet 5 (sV s) v 1) 2 (tGet 5 (sV s) v 0))) (tGet 5 (sV s) v 0) (5 + (2 * (tGet 5 (sV s) v 3)))))) (c_X1_pay l D tA a (uM (uV s (tDel 5 (sV s) v)) (tSet 3 (tSet 3 (tSet 3 (sM s) (tGet 5 (sV s) v 1) 1 (tGet 3 (sM s) (tGet 5 (sV s) v 1) 1 - tGet 5 (sV s) v 3)) (tGet 5 (sV s) v 2) 1 (tGet 3 (tSet 3 (sM s) (tGet 5 (sV s) v 1) 1 (tGet 3 (sM s) (tGet 5 (sV s) v 1) 1 - tGet 5 (sV s) v 3)) (tGet 5 (sV s) v 2) 1 + (tGet 5 (sV s) v 3))) (tGet 5 (sV s) v 1) 2 (tGet 5 (sV s) v 0))) (tGet 5 (sV s) v 0) (5 + (2 * (tGet 5 (sV s) v 3))) (show (sP s).1 ≤ 8 by omega) hv0) cd_X1_pay wm_X1_122 0 rfl rfl rfl [0, 1, 2, 3, 4, 5, 6, 7, 8, 9] rfl rfl (st_fst.trans st_fst.symm) rfl ⟨Nat.le_of_ble_eq_true rfl, Nat.le_of_ble_eq_true rfl⟩ ⟨Nat.zero_le _, Nat.zero_le _⟩ rfl (Nat.le_of_ble_eq_true rfl) dX1_closeMove_141 ?_
      refine j_aload_n (pc := 144) X dX1_closeMove_144 rfl (q := 4) rfl ?_
      refine j_dup (pc := 145) X dX1_closeMove_145 rfl ?_
      refine j_get (pc := 146) X (C := RX1) (T := TX1) (N := 9) wz_X1 0 rfl rfl 6 (by decide) wf_X1_53 rfl dX1_closeMove_146 ?_
      refine j_iconst (pc := 149) X (v := (nI 1)) dX1_closeMove_149 (by decide) ?_
      refine j_iadd (pc := 150) X (v := (nI ((sD (payS (uM (uV s (tDel 5 (sV s) v)) (tSet 3 (tSet 3 (tSet 3 (sM s) (tGet 5 (sV s) v 1) 1 (tGet 3 (sM s) (tGet 5 (sV s) v 1) 1 - tGet 5 (sV s) v 3)) (tGet 5 (sV s) v 2) 1 (tGet 3 (tSet 3 (sM s) (tGet 5 (sV s) v 1) 1 (tGet 3 (sM s) (tGet 5 (sV s) v 1) 1 - tGet 5 (sV s) v 3)) (tGet 5 (sV s) v 2) 1 + (tGet 5 (sV s) v 3))) (tGet 5 (sV s) v 1) 2 (tGet 5 (sV s) v 0))) (tGet 5 (sV s) v 0) (5 + (2 * (tGet 5 (sV s) v 3))))) + 1))) dX1_closeMove_150 (nI_add _ _) ?_
      refine j_put (pc := 151) X (C := RX1) (T := TX1) (N := 9) wz_X1 tyX1 tyX1_ok nmX1 0 rfl rfl 6 (by decide) wf_X1_53 rfl rfl rfl (Nat.le_of_ble_eq_true rfl) (w' := (stW tA a (uD (payS (uM (uV s (tDel 5 (sV s) v)) (tSet 3 (tSet 3 (tSet 3 (sM s) (tGet 5 (sV s) v 1) 1 (tGet 3 (sM s) (tGet 5 (sV s) v 1) 1 - tGet 5 (sV s) v 3)) (tGet 5 (sV s) v 2) 1 (tGet 3 (tSet 3 (sM s) (tGet 5 (sV s) v 1) 1 (tGet 3 (sM s) (tGet 5 (sV s) v 1) 1 - tGet 5 (sV s) v 3)) (tGet 5 (sV s) v 2) 1 + (tGet 5 (sV s) v 3))) (tGet 5 (sV s) v 1) 2 (tGet 5 (sV s) v 0))) (tGet 5 (sV s) v 0) (5 + (2 * (tGet 5 (sV s) v 3)))) ((sD (payS (uM (uV s (tDel 5 (sV s) v)) (tSet 3 (tSet 3 (tSet 3 (sM s) (tGet 5 (sV s) v 1) 1 (tGet 3 (sM s) (tGet 5 (sV s) v 1) 1 - tGet 5 (sV s) v 3)) (tGet 5 (sV s) v 2) 1 (tGet 3 (tSet 3 (sM s) (tGet 5 (sV s) v 1) 1 (tGet 3 (sM s) (tGet 5 (sV s) v 1) 1 - tGet 5 (sV s) v 3)) (tGet 5 (sV s) v 2) 1 + (tGet 5 (sV s) v 3))) (tGet 5 (sV s) v 1) 2 (tGet 5 (sV s) v 0))) (tGet 5 (sV s) v 0) (5 + (2 * (tGet 5 (sV s) v 3))))) + 1)))) rfl dX1_closeMove_151 ?_
      exact j_endV (pc := 154) E dX1_closeMove_154 (congrArg (stW tA a) (by rw [clM, if_neg (by omega)] <;> rfl))
    · skip
      refine j_aload_n (pc := 82) X dX1_closeMove_82 rfl (q := 4) rfl ?_
      refine j_iload_n (pc := 83) X dX1_closeMove_83 rfl (q := 3) rfl ?_
      refine j_iconst (pc := 84) X (v := (nI 5)) dX1_closeMove_84 (by decide) ?_
      refine j_callV (pc := 85) X (st := []) (w' := (stW tA a (payS (uV s (tDel 5 (sV s) v)) (tGet 5 (sV s) v 0) 5))) (c_X1_pay l D tA a (uV s (tDel 5 (sV s) v)) (tGet 5 (sV s) v 0) 5 (show (sP s).1 ≤ 8 by omega) hv0) cd_X1_pay wm_X1_122 0 rfl rfl rfl [0, 1, 2, 3, 4, 5, 6, 7, 8, 9] rfl rfl (st_fst.trans st_fst.symm) rfl ⟨Nat.le_of_ble_eq_true rfl, Nat.le_of_ble_eq_true rfl⟩ ⟨Nat.zero_le _, Nat.zero_le _⟩ rfl (Nat.le_of_ble_eq_true rfl) dX1_closeMove_85 ?_
      refine j_aload_n (pc := 88) X dX1_closeMove_88 rfl (q := 4) rfl ?_
      refine j_dup (pc := 89) X dX1_closeMove_89 rfl ?_
      refine j_get (pc := 90) X (C := RX1) (T := TX1) (N := 9) wz_X1 0 rfl rfl 7 (by decide) wf_X1_56 rfl dX1_closeMove_90 ?_
      refine j_iconst (pc := 93) X (v := (nI 1)) dX1_closeMove_93 (by decide) ?_
      refine j_iadd (pc := 94) X (v := (nI ((sF (payS (uV s (tDel 5 (sV s) v)) (tGet 5 (sV s) v 0) 5)) + 1))) dX1_closeMove_94 (nI_add _ _) ?_
      refine j_put (pc := 95) X (C := RX1) (T := TX1) (N := 9) wz_X1 tyX1 tyX1_ok nmX1 0 rfl rfl 7 (by decide) wf_X1_56 rfl rfl rfl (Nat.le_of_ble_eq_true rfl) (w' := (stW tA a (uF (payS (uV s (tDel 5 (sV s) v)) (tGet 5 (sV s) v 0) 5) ((sF (payS (uV s (tDel 5 (sV s) v)) (tGet 5 (sV s) v 0) 5)) + 1)))) rfl dX1_closeMove_95 ?_
      exact j_endV (pc := 98) E dX1_closeMove_98 (congrArg (stW tA a) (by rw [clM, if_pos (Or.inr (by omega))] <;> rfl))
theorem cd_X1_closeMovesUpTo : kCardV yX1_closeMovesUpTo cX1_closeMovesUpTo 4 none 1 := ⟨⟨wc_X1_closeMovesUpTo, wi_X1, by decide +kernel, by decide +kernel, rfl⟩, wk_X1_closeMovesUpTo, ws_X1_closeMovesUpTo⟩
set_option maxHeartbeats 4000000 in
set_option maxRecDepth 100000 in
theorem c_X1_closeMovesUpTo (l : Launch) (D : va_G) (tA : Nat → ClassId) (a : Nat → Nat) (s : Sg) (h : Nat) (hw : Wf s) (hh : h < 65536) : Kx l D tA yX1_closeMovesUpTo cX1_closeMovesUpTo 4 none 4 94 [.ref (a 0), .int (nI h)] (stW tA a s) none (stW tA a (clo 10 s h)) := by
  refine kx_void rfl (Nat.le_of_ble_eq_true rfl) (fun G X E => ?_)
  show J l D G 0 0 (stW tA a s) [(0, .ref (a 0)), (1, .int (nI h))] 0 []
  refine j_iconst (pc := 0) X (v := (nI 0)) dX1_closeMovesUpTo_0 (by decide) ?_
  refine j_istore_n (pc := 1) X (lv' := [(2, .int (nI 0)), (0, .ref (a 0)), (1, .int (nI h))]) dX1_closeMovesUpTo_1 rfl (by decide) rfl ?_
  have L_2 : ∀ (fu : Nat) (i : Nat) (s2 : Sg), i ≤ 10 → clo (10 - i) s2 h = clo 10 s h → Wf s2 → 10 - i < fu → J l D G 0 0 (stW tA a s2) [(0, .ref (a 0)), (1, .int (nI h)), (2, .int (nI i))] 2 [] := by
    intro fu
    induction fu with
    | zero => intro i s2 hi hs hw2 hfu; exact absurd hfu (Nat.not_lt_zero _)
    | succ fu ih_2 =>
      intro i s2 hi hs hw2 hfu
      have hn := hw2.n
      refine j_iload_n (pc := 2) X dX1_closeMovesUpTo_2 rfl (q := 2) rfl ?_
      refine j_bipush (pc := 3) X (v := (nI 10)) dX1_closeMovesUpTo_3 (by decide) ?_
      refine j_icmp_ge (pc := 5) X (tgt := 32) (P := 10 ≤ i) dX1_closeMovesUpTo_5 (by decide) (nI_leI (by omega) (by omega)) (fun h5 => ?_) (fun h5 => ?_)
      · skip
        exact j_endV (pc := 32) E dX1_closeMovesUpTo_32 (congrArg (stW tA a) (by rw [← hs, show 10 - i = 0 by omega]; rfl))
      · skip
        refine j_aload_n (pc := 8) X dX1_closeMovesUpTo_8 rfl (q := 0) rfl ?_
        refine j_iload_n (pc := 9) X dX1_closeMovesUpTo_9 rfl (q := 1) rfl ?_
        refine j_callVR (pc := 10) X (st := [])  (c_X1_nextMoveUpTo l D tA a s2 h hw2 hh) cd_X1_nextMoveUpTo wm_X1_112 0 rfl rfl rfl [0, 1, 2, 3, 4, 5, 6, 7, 8, 9] rfl rfl ⟨Nat.le_of_ble_eq_true rfl, Nat.le_of_ble_eq_true rfl⟩ ⟨Nat.zero_le _, Nat.zero_le _⟩ rfl (Nat.le_of_ble_eq_true rfl) dX1_closeMovesUpTo_10 ?_
        refine j_istore_n (pc := 13) X (lv' := [(3, .int (rO (nxt (sV s2) h))), (0, .ref (a 0)), (1, .int (nI h)), (2, .int (nI i))]) dX1_closeMovesUpTo_13 rfl (by decide) rfl ?_
        refine j_iload_n (pc := 14) X dX1_closeMovesUpTo_14 rfl (q := 0) rfl ?_
        refine j_bipush (pc := 15) X (v := (-5)) dX1_closeMovesUpTo_15 (by decide) ?_
        refine j_icmp_ne (pc := 17) X (tgt := 21) (P := ¬ (nxt (sV s2) h) = none) dX1_closeMovesUpTo_17 (by decide) (not_congr (rO_none (fun b e => by have := nxt_lt e; omega))) (fun h17 => ?_) (fun h17 => ?_)
        · skip
          obtain ⟨v, hv⟩ := Option.ne_none_iff_exists'.mp h17
          rw [show rO (nxt (sV s2) h) = nI v from by rw [hv]; rfl]
          refine j_aload_n (pc := 21) X dX1_closeMovesUpTo_21 rfl (q := 1) rfl ?_
          refine j_iload_n (pc := 22) X dX1_closeMovesUpTo_22 rfl (q := 0) rfl ?_
          refine j_callV (pc := 23) X (st := []) (w' := (stW tA a (clM s2 v))) (c_X1_closeMove l D tA a s2 v hw2 (nxt_lt hv)) cd_X1_closeMove wm_X1_115 0 rfl rfl rfl [0, 1, 2, 3, 4, 5, 6, 7, 8, 9] rfl rfl (st_fst.trans st_fst.symm) rfl ⟨Nat.le_of_ble_eq_true rfl, Nat.le_of_ble_eq_true rfl⟩ ⟨Nat.zero_le _, Nat.zero_le _⟩ rfl (Nat.le_of_ble_eq_true rfl) dX1_closeMovesUpTo_23 ?_
          refine j_iinc (pc := 26) X (v := (nI (i + 1))) (lv' := [(2, .int (nI (i + 1))), (3, .int (nI v)), (0, .ref (a 0)), (1, .int (nI h))]) dX1_closeMovesUpTo_26 (q := 3) rfl (nI_add _ _) (by decide) rfl ?_
          refine j_goto (pc := 29) X (tgt := 2) dX1_closeMovesUpTo_29 (by decide) ?_
          refine j_lv X (lv' := [(0, .ref (a 0)), (1, .int (nI h)), (2, .int (nI (i + 1)))]) [2, 3, 0] rfl ?_
          exact ih_2 (i + 1) (clM s2 v) (by omega) (by rw [← hs, show 10 - i = (10 - (i + 1)) + 1 by omega, clo_some hv]) (hw2.xclM (nxt_lt hv)) (by omega)
        · skip
          exact j_endV (pc := 20) E dX1_closeMovesUpTo_20 (congrArg (stW tA a) (by rw [← hs, clo_none (Decidable.not_not.mp h17)]))
  refine j_lv X (lv' := [(0, .ref (a 0)), (1, .int (nI h)), (2, .int (nI 0))]) [1, 2, 0] rfl ?_
  exact L_2 _ 0 s (by omega) rfl hw (Nat.lt_succ_self _)
theorem cd_X1_lift : kCardV yX1_lift cX1_lift 2 none 1 := ⟨⟨wc_X1_lift, wi_X1, by decide +kernel, by decide +kernel, rfl⟩, wk_X1_lift, ws_X1_lift⟩
set_option maxHeartbeats 4000000 in
set_option maxRecDepth 100000 in
theorem c_X1_lift (l : Launch) (D : va_G) (tA : Nat → ClassId) (a : Nat → Nat) (s : Sg) (b : Nat) (hw : Wf s) (hb : b < (sB s).1) : Kx l D tA yX1_lift cX1_lift 2 none 3 69 [.ref (a 0), .int (nI b)] (stW tA a s) none (stW tA a (lftS s b)) := by
  refine kx_void rfl (Nat.le_of_ble_eq_true rfl) (fun G X E => ?_)
  show J l D G 0 0 (stW tA a s) [(0, .ref (a 0)), (1, .int (nI b))] 0 []
  have hn := hw.n
  have hb0 := hw.b hb
  refine j_aload_n (pc := 0) X dX1_lift_0 rfl (q := 0) rfl ?_
  refine j_get (pc := 1) X (C := RX1) (T := TX1) (N := 9) wz_X1 0 rfl rfl 2 (by decide) wf_X1_23 rfl dX1_lift_1 ?_
  refine j_iload_n (pc := 4) X dX1_lift_4 rfl (q := 1) rfl ?_
  refine j_iconst (pc := 5) X (v := (nI 5)) dX1_lift_5 (by decide) ?_
  refine j_iconst (pc := 6) X (v := (nI 1)) dX1_lift_6 (by decide) ?_
  refine j_callV (pc := 7) X (st := []) (w' := (stW tA a (uB s (tSet 8 (sB s) b 5 1)))) (c_X2_set l D tA (a 3) (a 8) 30 8 (sB s) b 5 1 (by decide) (by decide) (show (sB s).1 ≤ 30 by omega) (show b < (sB s).1 by omega) (by decide) (by decide)) cd_X2_set wm_X1_82 6 rfl rfl rfl [6, 7] rfl rfl (tb_fst.trans tb_fst.symm) rfl ⟨Nat.le_of_ble_eq_true rfl, Nat.le_of_ble_eq_true rfl⟩ ⟨Nat.zero_le _, Nat.zero_le _⟩ rfl (Nat.le_of_ble_eq_true rfl) dX1_lift_7 ?_
  refine j_aload_n (pc := 10) X dX1_lift_10 rfl (q := 0) rfl ?_
  refine j_aload_n (pc := 11) X dX1_lift_11 rfl (q := 0) rfl ?_
  refine j_get (pc := 12) X (C := RX1) (T := TX1) (N := 9) wz_X1 0 rfl rfl 2 (by decide) wf_X1_23 rfl dX1_lift_12 ?_
  refine j_iload_n (pc := 15) X dX1_lift_15 rfl (q := 1) rfl ?_
  refine j_iconst (pc := 16) X (v := (nI 0)) dX1_lift_16 (by decide) ?_
  refine j_callVR (pc := 17) X (st := [.ref (a 0)])  (c_X2_get l D tA (a 3) (a 8) 30 8 (tSet 8 (sB s) b 5 1) b 0 (by decide) (by decide) (show (sB s).1 ≤ 30 by omega) (show b < (sB s).1 by omega) (by decide) (by decide)) cd_X2_get wm_X1_70 6 rfl rfl rfl [6, 7] rfl rfl ⟨Nat.le_of_ble_eq_true rfl, Nat.le_of_ble_eq_true rfl⟩ ⟨Nat.zero_le _, Nat.zero_le _⟩ rfl (Nat.le_of_ble_eq_true rfl) dX1_lift_17 ?_
  refine j_bipush (pc := 20) X (v := (nI 30)) dX1_lift_20 (by decide) ?_
  refine j_callV (pc := 22) X (st := []) (w' := (stW tA a (payS (uB s (tSet 8 (sB s) b 5 1)) (tGet 8 (tSet 8 (sB s) b 5 1) b 0) 30))) (c_X1_pay l D tA a (uB s (tSet 8 (sB s) b 5 1)) (tGet 8 (tSet 8 (sB s) b 5 1) b 0) 30 (show (sP s).1 ≤ 8 by omega) (show tGet 8 (tSet 8 (sB s) b 5 1) b 0 < (sP s).1 by rw [get_set_c (by decide) (by decide) (by decide)]; omega)) cd_X1_pay wm_X1_122 0 rfl rfl rfl [0, 1, 2, 3, 4, 5, 6, 7, 8, 9] rfl rfl (st_fst.trans st_fst.symm) rfl ⟨Nat.le_of_ble_eq_true rfl, Nat.le_of_ble_eq_true rfl⟩ ⟨Nat.zero_le _, Nat.zero_le _⟩ rfl (Nat.le_of_ble_eq_true rfl) dX1_lift_22 ?_
  exact j_endV (pc := 25) E dX1_lift_25 rfl
theorem cd_X1_carryOver : kCardV yX1_carryOver cX1_carryOver 5 none 1 := ⟨⟨wc_X1_carryOver, wi_X1, by decide +kernel, by decide +kernel, rfl⟩, wk_X1_carryOver, ws_X1_carryOver⟩
set_option maxHeartbeats 4000000 in
set_option maxRecDepth 100000 in
theorem c_X1_carryOver (l : Launch) (D : va_G) (tA : Nat → ClassId) (a : Nat → Nat) (s : Sg) (b : Nat) (hw : Wf s) (hb : b < (sB s).1) : Kx l D tA yX1_carryOver cX1_carryOver 5 none 2 47 [.ref (a 0), .int (nI b)] (stW tA a s) none (stW tA a (cryS s b)) := by
  refine kx_void rfl (Nat.le_of_ble_eq_true rfl) (fun G X E => ?_)
  show J l D G 0 0 (stW tA a s) [(0, .ref (a 0)), (1, .int (nI b))] 0 []
  have hn := hw.n
  have hb0 := hw.b hb
  have hmm : min (sN s + 9) 199 ≤ 199 := Nat.min_le_right _ _
  refine j_aload_n (pc := 0) X dX1_carryOver_0 rfl (q := 0) rfl ?_
  refine j_get (pc := 1) X (C := RX1) (T := TX1) (N := 9) wz_X1 0 rfl rfl 2 (by decide) wf_X1_23 rfl dX1_carryOver_1 ?_
  refine j_iload_n (pc := 4) X dX1_carryOver_4 rfl (q := 1) rfl ?_
  refine j_iconst (pc := 5) X (v := (nI 1)) dX1_carryOver_5 (by decide) ?_
  refine j_callVR (pc := 6) X (st := [])  (c_X2_get l D tA (a 3) (a 8) 30 8 (sB s) b 1 (by first | assumption | omega | decide) (by first | assumption | omega | decide) (by first | assumption | omega | decide) (by first | assumption | omega | decide) (by first | assumption | omega | decide) (by first | assumption | omega | decide)) cd_X2_get wm_X1_70 6 rfl rfl rfl [6, 7] rfl rfl ⟨Nat.le_of_ble_eq_true rfl, Nat.le_of_ble_eq_true rfl⟩ ⟨Nat.zero_le _, Nat.zero_le _⟩ rfl (Nat.le_of_ble_eq_true rfl) dX1_carryOver_6 ?_
  refine j_istore_n (pc := 9) X (lv' := [(2, .int (nI (tGet 8 (sB s) b 1))), (0, .ref (a 0)), (1, .int (nI b))]) dX1_carryOver_9 rfl (by decide) rfl ?_
  refine j_aload_n (pc := 10) X dX1_carryOver_10 rfl (q := 1) rfl ?_
  refine j_get (pc := 11) X (C := RX1) (T := TX1) (N := 9) wz_X1 0 rfl rfl 5 (by decide) wf_X1_49 rfl dX1_carryOver_11 ?_
  refine j_bipush (pc := 14) X (v := (nI 9)) dX1_carryOver_14 (by decide) ?_
  refine j_iadd (pc := 16) X (v := (nI ((sN s) + 9))) dX1_carryOver_16 (nI_add _ _) ?_
  refine j_sipush (pc := 17) X (v := (nI 199)) dX1_carryOver_17 (by decide) ?_
  refine j_mmin (pc := 20) X wm_X1_37 (Nat.le_of_ble_eq_true rfl) (Nat.le_of_ble_eq_true rfl) ⟨Nat.zero_le _, Nat.zero_le _⟩ (v := (nI (min ((sN s) + 9) 199))) (nI_min (by omega) (by omega)) dX1_carryOver_20 ?_
  refine j_istore_n (pc := 23) X (lv' := [(3, .int (nI (min ((sN s) + 9) 199))), (2, .int (nI (tGet 8 (sB s) b 1))), (0, .ref (a 0)), (1, .int (nI b))]) dX1_carryOver_23 rfl (by decide) rfl ?_
  refine j_aload_n (pc := 24) X dX1_carryOver_24 rfl (q := 2) rfl ?_
  refine j_get (pc := 25) X (C := RX1) (T := TX1) (N := 9) wz_X1 0 rfl rfl 5 (by decide) wf_X1_49 rfl dX1_carryOver_25 ?_
  refine j_iconst (pc := 28) X (v := (nI 1)) dX1_carryOver_28 (by decide) ?_
  refine j_iadd (pc := 29) X (v := (nI ((sN s) + 1))) dX1_carryOver_29 (nI_add _ _) ?_
  refine j_istore (pc := 30) X (lv' := [(4, .int (nI ((sN s) + 1))), (3, .int (nI (min ((sN s) + 9) 199))), (2, .int (nI (tGet 8 (sB s) b 1))), (0, .ref (a 0)), (1, .int (nI b))]) dX1_carryOver_30 (by decide) rfl ?_
  have L_32 : ∀ (fu : Nat) (x : Nat), sN s + 1 ≤ x → x ≤ min (sN s + 9) 199 + 1 → fre (sB s) (tGet 8 (sB s) b 1) (min (sN s + 9) 199 + 1 - x) x = fre (sB s) (tGet 8 (sB s) b 1) (min (sN s + 9) 199 - sN s) (sN s + 1) → min (sN s + 9) 199 + 1 - x < fu → J l D G 0 0 (stW tA a s) [(0, .ref (a 0)), (1, .int (nI b)), (2, .int (nI (tGet 8 (sB s) b 1))), (3, .int (nI (min (sN s + 9) 199))), (4, .int (nI x))] 32 [] := by
    intro fu
    induction fu with
    | zero => intro x hx1 hx2 hk hfu; exact absurd hfu (Nat.not_lt_zero _)
    | succ fu ih_32 =>
      intro x hx1 hx2 hk hfu
      refine j_iload (pc := 32) X dX1_carryOver_32 (q := 4) rfl ?_
      refine j_iload_n (pc := 34) X dX1_carryOver_34 rfl (q := 3) rfl ?_
      refine j_icmp_gt (pc := 35) X (tgt := 65) (P := (min (sN s + 9) 199) < x) dX1_carryOver_35 (by decide) (nI_ltI (by omega) (by omega)) (fun h35 => ?_) (fun h35 => ?_)
      · skip
        refine j_aload_n (pc := 65) X dX1_carryOver_65 rfl (q := 0) rfl ?_
        refine j_get (pc := 66) X (C := RX1) (T := TX1) (N := 9) wz_X1 0 rfl rfl 2 (by decide) wf_X1_23 rfl dX1_carryOver_66 ?_
        refine j_iload_n (pc := 69) X dX1_carryOver_69 rfl (q := 1) rfl ?_
        refine j_iconst (pc := 70) X (v := (nI 5)) dX1_carryOver_70 (by decide) ?_
        refine j_iconst (pc := 71) X (v := (nI 2)) dX1_carryOver_71 (by decide) ?_
        refine j_callV (pc := 72) X (st := []) (w' := (stW tA a (uB s (tSet 8 (sB s) b 5 2)))) (c_X2_set l D tA (a 3) (a 8) 30 8 (sB s) b 5 2 (by first | assumption | omega | decide) (by first | assumption | omega | decide) (by first | assumption | omega | decide) (by first | assumption | omega | decide) (by first | assumption | omega | decide) (by first | assumption | omega | decide)) cd_X2_set wm_X1_82 6 rfl rfl rfl [6, 7] rfl rfl (tb_fst.trans tb_fst.symm) rfl ⟨Nat.le_of_ble_eq_true rfl, Nat.le_of_ble_eq_true rfl⟩ ⟨Nat.zero_le _, Nat.zero_le _⟩ rfl (Nat.le_of_ble_eq_true rfl) dX1_carryOver_72 ?_
        exact j_endV (pc := 75) E dX1_carryOver_75 (congrArg (stW tA a) (by rw [cryS, ← hk, show min (sN s + 9) 199 + 1 - x = 0 by omega]; rfl))
      · skip
        refine j_aload_n (pc := 38) X dX1_carryOver_38 rfl (q := 0) rfl ?_
        refine j_iload_n (pc := 39) X dX1_carryOver_39 rfl (q := 2) rfl ?_
        refine j_iload (pc := 40) X dX1_carryOver_40 (q := 4) rfl ?_
        refine j_callVR (pc := 42) X (st := [])  (c_X1_bookingFor l D tA a s (tGet 8 (sB s) b 1) x hw (by omega) (by omega)) cd_X1_bookingFor wm_X1_92 0 rfl rfl rfl [0, 1, 2, 3, 4, 5, 6, 7, 8, 9] rfl rfl ⟨Nat.le_of_ble_eq_true rfl, Nat.le_of_ble_eq_true rfl⟩ ⟨Nat.zero_le _, Nat.zero_le _⟩ rfl (Nat.le_of_ble_eq_true rfl) dX1_carryOver_42 ?_
        refine j_bipush (pc := 45) X (v := (-5)) dX1_carryOver_45 (by decide) ?_
        refine j_icmp_ne (pc := 47) X (tgt := 59) (P := ¬ (bkF (sB s) (tGet 8 (sB s) b 1) x) = none) dX1_carryOver_47 (by decide) (not_congr (rO_none (fun b e => by have := bkF_lt e; omega))) (fun h47 => ?_) (fun h47 => ?_)
        · skip
          refine j_iinc (pc := 59) X (v := (nI (x + 1))) (lv' := [(4, .int (nI (x + 1))), (0, .ref (a 0)), (1, .int (nI b)), (2, .int (nI (tGet 8 (sB s) b 1))), (3, .int (nI (min (sN s + 9) 199)))]) dX1_carryOver_59 (q := 4) rfl (nI_add _ _) (by decide) rfl ?_
          refine j_goto (pc := 62) X (tgt := 32) dX1_carryOver_62 (by decide) ?_
          refine j_lv X (lv' := [(0, .ref (a 0)), (1, .int (nI b)), (2, .int (nI (tGet 8 (sB s) b 1))), (3, .int (nI (min (sN s + 9) 199))), (4, .int (nI (x + 1)))]) [1, 2, 3, 4, 0] rfl ?_
          exact ih_32 (x + 1) (by omega) (by omega) (by rw [← hk, show min (sN s + 9) 199 + 1 - x = (min (sN s + 9) 199 + 1 - (x + 1)) + 1 by omega, fre, if_neg h47]) (by omega)
        · skip
          refine j_aload_n (pc := 50) X dX1_carryOver_50 rfl (q := 0) rfl ?_
          refine j_iload_n (pc := 51) X dX1_carryOver_51 rfl (q := 1) rfl ?_
          refine j_iload_n (pc := 52) X dX1_carryOver_52 rfl (q := 2) rfl ?_
          refine j_iload (pc := 53) X dX1_carryOver_53 (q := 4) rfl ?_
          refine j_callV (pc := 55) X (st := []) (w' := (stW tA a (placeS s b (tGet 8 (sB s) b 1) x))) (c_X1_place l D tA a s b (tGet 8 (sB s) b 1) x (show (sB s).1 ≤ 30 by omega) hb (by omega)) cd_X1_place wm_X1_146 0 rfl rfl rfl [0, 1, 2, 3, 4, 5, 6, 7, 8, 9] rfl rfl (st_fst.trans st_fst.symm) rfl ⟨Nat.le_of_ble_eq_true rfl, Nat.le_of_ble_eq_true rfl⟩ ⟨Nat.zero_le _, Nat.zero_le _⟩ rfl (Nat.le_of_ble_eq_true rfl) dX1_carryOver_55 ?_
          exact j_endV (pc := 58) E dX1_carryOver_58 (congrArg (stW tA a) (by rw [cryS, ← hk, show min (sN s + 9) 199 + 1 - x = (min (sN s + 9) 199 + 1 - (x + 1)) + 1 by omega, fre, if_pos (Decidable.not_not.mp h47)]))
  refine j_lv X (lv' := [(0, .ref (a 0)), (1, .int (nI b)), (2, .int (nI (tGet 8 (sB s) b 1))), (3, .int (nI (min ((sN s) + 9) 199))), (4, .int (nI ((sN s) + 1)))]) [3, 4, 2, 1, 0] rfl ?_
  exact L_32 _ (sN s + 1) (Nat.le_refl _) (by omega) (by congr 1; omega) (Nat.lt_succ_self _)
theorem cd_X1_standBy : kCardV yX1_standBy cX1_standBy 3 none 1 := ⟨⟨wc_X1_standBy, wi_X1, by decide +kernel, by decide +kernel, rfl⟩, wk_X1_standBy, ws_X1_standBy⟩
set_option maxHeartbeats 4000000 in
set_option maxRecDepth 100000 in
theorem c_X1_standBy (l : Launch) (D : va_G) (tA : Nat → ClassId) (a : Nat → Nat) (s : Sg) (b : Nat) (hw : Wf s) (hb : b < (sB s).1) : Kx l D tA yX1_standBy cX1_standBy 3 none 4 93 [.ref (a 0), .int (nI b)] (stW tA a s) none (stW tA a (stbS s b)) := by
  refine kx_void rfl (Nat.le_of_ble_eq_true rfl) (fun G X E => ?_)
  show J l D G 0 0 (stW tA a s) [(0, .ref (a 0)), (1, .int (nI b))] 0 []
  have hn := hw.n
  have hb0 := hw.b hb
  have hcB := cau_B s b
  have hcw : Wf (cauS s b) := hw.cau
  refine j_aload_n (pc := 0) X dX1_standBy_0 rfl (q := 0) rfl ?_
  refine j_iload_n (pc := 1) X dX1_standBy_1 rfl (q := 1) rfl ?_
  refine j_callVR (pc := 2) X (st := [])  (c_X1_causerOf l D tA a s b (by first | assumption | omega | decide) (by first | assumption | omega | decide)) cd_X1_causerOf wm_X1_140 0 rfl rfl rfl [0, 1, 2, 3, 4, 5, 6, 7, 8, 9] rfl rfl ⟨Nat.le_of_ble_eq_true rfl, Nat.le_of_ble_eq_true rfl⟩ ⟨Nat.zero_le _, Nat.zero_le _⟩ rfl (Nat.le_of_ble_eq_true rfl) dX1_standBy_2 ?_
  refine j_istore_n (pc := 5) X (lv' := [(2, .int (rO (caus s b))), (0, .ref (a 0)), (1, .int (nI b))]) dX1_standBy_5 rfl (by decide) rfl ?_
  refine j_iload_n (pc := 6) X dX1_standBy_6 rfl (q := 0) rfl ?_
  refine j_bipush (pc := 7) X (v := (-5)) dX1_standBy_7 (by decide) ?_
  refine j_icmp_ne (pc := 9) X (tgt := 25) (P := ¬ (caus s b) = none) dX1_standBy_9 (by decide) (not_congr (rO_none (fun p e => by have := caus_lt hw hb e; omega))) (fun h9 => ?_) (fun h9 => ?_)
  · skip
    obtain ⟨p, hp⟩ := Option.ne_none_iff_exists'.mp h9
    rw [show rO (caus s b) = nI p from by rw [hp]; rfl]
    have hpl := caus_lt hw hb hp
    refine j_aload_n (pc := 25) X dX1_standBy_25 rfl (q := 1) rfl ?_
    refine j_get (pc := 26) X (C := RX1) (T := TX1) (N := 9) wz_X1 0 rfl rfl 1 (by decide) wf_X1_20 rfl dX1_standBy_26 ?_
    refine j_iload_n (pc := 29) X dX1_standBy_29 rfl (q := 0) rfl ?_
    refine j_iconst (pc := 30) X (v := (nI 1)) dX1_standBy_30 (by decide) ?_
    refine j_iconst (pc := 31) X (v := (nI 1)) dX1_standBy_31 (by decide) ?_
    refine j_callV (pc := 32) X (st := []) (w' := (stW tA a (uP s (tSet 2 (sP s) p 1 (tGet 2 (sP s) p 1 + 1))))) (c_X2_increase l D tA (a 2) (a 7) 8 2 (sP s) p 1 (nI 1) (tGet 2 (sP s) p 1 + 1) (by first | assumption | omega | decide) (by first | assumption | omega | decide) (by first | assumption | omega | decide) (by first | assumption | omega | decide) (by first | assumption | omega | decide) (by first | assumption | omega | decide) (nI_add _ _)) cd_X2_increase wm_X1_95 4 rfl rfl rfl [4, 5] rfl rfl (tb_fst.trans tb_fst.symm) rfl ⟨Nat.le_of_ble_eq_true rfl, Nat.le_of_ble_eq_true rfl⟩ ⟨Nat.zero_le _, Nat.zero_le _⟩ rfl (Nat.le_of_ble_eq_true rfl) dX1_standBy_32 ?_
    refine j_aload_n (pc := 35) X dX1_standBy_35 rfl (q := 1) rfl ?_
    refine j_iload_n (pc := 36) X dX1_standBy_36 rfl (q := 0) rfl ?_
    refine j_bipush (pc := 37) X (v := (nI 8)) dX1_standBy_37 (by decide) ?_
    refine j_callV (pc := 39) X (st := []) (w' := (stW tA a (payS (uP s (tSet 2 (sP s) p 1 (tGet 2 (sP s) p 1 + 1))) p 8))) (c_X1_pay l D tA a (uP s (tSet 2 (sP s) p 1 (tGet 2 (sP s) p 1 + 1))) p 8 (show (sP s).1 ≤ 8 by omega) (show p < (sP s).1 from hpl)) cd_X1_pay wm_X1_122 0 rfl rfl rfl [0, 1, 2, 3, 4, 5, 6, 7, 8, 9] rfl rfl (st_fst.trans st_fst.symm) rfl ⟨Nat.le_of_ble_eq_true rfl, Nat.le_of_ble_eq_true rfl⟩ ⟨Nat.zero_le _, Nat.zero_le _⟩ rfl (Nat.le_of_ble_eq_true rfl) dX1_standBy_39 ?_
    rw [show payS (uP s (tSet 2 (sP s) p 1 (tGet 2 (sP s) p 1 + 1))) p 8 = cauS s b from by rw [cauS, hp]]
    refine j_aload_n (pc := 42) X dX1_standBy_42 rfl (q := 1) rfl ?_
    refine j_get (pc := 43) X (C := RX1) (T := TX1) (N := 9) wz_X1 0 rfl rfl 2 (by decide) wf_X1_23 rfl dX1_standBy_43 ?_
    refine j_iload_n (pc := 46) X dX1_standBy_46 rfl (q := 2) rfl ?_
    refine j_bipush (pc := 47) X (v := (nI 7)) dX1_standBy_47 (by decide) ?_
    refine j_iconst (pc := 49) X (v := (nI 1)) dX1_standBy_49 (by decide) ?_
    refine j_callV (pc := 50) X (st := []) (w' := (stW tA a (uB (cauS s b) (tSet 8 (sB (cauS s b)) b 7 (tGet 8 (sB (cauS s b)) b 7 + 1))))) (c_X2_increase l D tA (a 3) (a 8) 30 8 (sB (cauS s b)) b 7 (nI 1) (tGet 8 (sB (cauS s b)) b 7 + 1) (by decide) (by decide) (show (sB (cauS s b)).1 ≤ 30 by rw [hcB.1]; omega) (show b < (sB (cauS s b)).1 by rw [hcB.1]; exact hb) (by decide) (by decide) (nI_add _ _)) cd_X2_increase wm_X1_95 6 rfl rfl rfl [6, 7] rfl rfl (tb_fst.trans tb_fst.symm) rfl ⟨Nat.le_of_ble_eq_true rfl, Nat.le_of_ble_eq_true rfl⟩ ⟨Nat.zero_le _, Nat.zero_le _⟩ rfl (Nat.le_of_ble_eq_true rfl) dX1_standBy_50 ?_
    refine j_aload_n (pc := 53) X dX1_standBy_53 rfl (q := 1) rfl ?_
    refine j_iload_n (pc := 54) X dX1_standBy_54 rfl (q := 2) rfl ?_
    refine j_callV (pc := 55) X (st := []) (w' := (stW tA a (cryS (uB (cauS s b) (tSet 8 (sB (cauS s b)) b 7 (tGet 8 (sB (cauS s b)) b 7 + 1))) b))) (c_X1_carryOver l D tA a (uB (cauS s b) (tSet 8 (sB (cauS s b)) b 7 (tGet 8 (sB (cauS s b)) b 7 + 1))) b (Wf.inc hcw) (show b < (sB (cauS s b)).1 by rw [hcB.1]; exact hb)) cd_X1_carryOver wm_X1_143 0 rfl rfl rfl [0, 1, 2, 3, 4, 5, 6, 7, 8, 9] rfl rfl (st_fst.trans st_fst.symm) rfl ⟨Nat.le_of_ble_eq_true rfl, Nat.le_of_ble_eq_true rfl⟩ ⟨Nat.zero_le _, Nat.zero_le _⟩ rfl (Nat.le_of_ble_eq_true rfl) dX1_standBy_55 ?_
    exact j_endV (pc := 58) E dX1_standBy_58 rfl
  · skip
    refine j_aload_n (pc := 12) X dX1_standBy_12 rfl (q := 1) rfl ?_
    refine j_dup (pc := 13) X dX1_standBy_13 rfl ?_
    refine j_get (pc := 14) X (C := RX1) (T := TX1) (N := 9) wz_X1 0 rfl rfl 8 (by decide) wf_X1_59 rfl dX1_standBy_14 ?_
    refine j_iconst (pc := 17) X (v := (nI 1)) dX1_standBy_17 (by decide) ?_
    refine j_iadd (pc := 18) X (v := (nI ((sX s) + 1))) dX1_standBy_18 (nI_add _ _) ?_
    refine j_put (pc := 19) X (C := RX1) (T := TX1) (N := 9) wz_X1 tyX1 tyX1_ok nmX1 0 rfl rfl 8 (by decide) wf_X1_59 rfl rfl rfl (Nat.le_of_ble_eq_true rfl) (w' := (stW tA a (uX s ((sX s) + 1)))) rfl dX1_standBy_19 ?_
    refine j_goto (pc := 22) X (tgt := 42) dX1_standBy_22 (by decide) ?_
    rw [show uX s (sX s + 1) = cauS s b from by rw [cauS, Decidable.not_not.mp h9]]
    refine j_aload_n (pc := 42) X dX1_standBy_42 rfl (q := 1) rfl ?_
    refine j_get (pc := 43) X (C := RX1) (T := TX1) (N := 9) wz_X1 0 rfl rfl 2 (by decide) wf_X1_23 rfl dX1_standBy_43 ?_
    refine j_iload_n (pc := 46) X dX1_standBy_46 rfl (q := 2) rfl ?_
    refine j_bipush (pc := 47) X (v := (nI 7)) dX1_standBy_47 (by decide) ?_
    refine j_iconst (pc := 49) X (v := (nI 1)) dX1_standBy_49 (by decide) ?_
    refine j_callV (pc := 50) X (st := []) (w' := (stW tA a (uB (cauS s b) (tSet 8 (sB (cauS s b)) b 7 (tGet 8 (sB (cauS s b)) b 7 + 1))))) (c_X2_increase l D tA (a 3) (a 8) 30 8 (sB (cauS s b)) b 7 (nI 1) (tGet 8 (sB (cauS s b)) b 7 + 1) (by decide) (by decide) (show (sB (cauS s b)).1 ≤ 30 by rw [hcB.1]; omega) (show b < (sB (cauS s b)).1 by rw [hcB.1]; exact hb) (by decide) (by decide) (nI_add _ _)) cd_X2_increase wm_X1_95 6 rfl rfl rfl [6, 7] rfl rfl (tb_fst.trans tb_fst.symm) rfl ⟨Nat.le_of_ble_eq_true rfl, Nat.le_of_ble_eq_true rfl⟩ ⟨Nat.zero_le _, Nat.zero_le _⟩ rfl (Nat.le_of_ble_eq_true rfl) dX1_standBy_50 ?_
    refine j_aload_n (pc := 53) X dX1_standBy_53 rfl (q := 1) rfl ?_
    refine j_iload_n (pc := 54) X dX1_standBy_54 rfl (q := 2) rfl ?_
    refine j_callV (pc := 55) X (st := []) (w' := (stW tA a (cryS (uB (cauS s b) (tSet 8 (sB (cauS s b)) b 7 (tGet 8 (sB (cauS s b)) b 7 + 1))) b))) (c_X1_carryOver l D tA a (uB (cauS s b) (tSet 8 (sB (cauS s b)) b 7 (tGet 8 (sB (cauS s b)) b 7 + 1))) b (Wf.inc hcw) (show b < (sB (cauS s b)).1 by rw [hcB.1]; exact hb)) cd_X1_carryOver wm_X1_143 0 rfl rfl rfl [0, 1, 2, 3, 4, 5, 6, 7, 8, 9] rfl rfl (st_fst.trans st_fst.symm) rfl ⟨Nat.le_of_ble_eq_true rfl, Nat.le_of_ble_eq_true rfl⟩ ⟨Nat.zero_le _, Nat.zero_le _⟩ rfl (Nat.le_of_ble_eq_true rfl) dX1_standBy_55 ?_
    exact j_endV (pc := 58) E dX1_standBy_58 rfl
theorem stp_skip {s2 : Sg} {k i : Nat} (h : ¬ (tGet 8 (sB s2) i 5 = 0 ∧ tGet 8 (sB s2) i 2 = sN s2)) : stpB (s2, k) i = (s2, k) := by
  unfold stpB; exact if_neg h
theorem stp_stb {s2 : Sg} {k i : Nat} (h : tGet 8 (sB s2) i 5 = 0 ∧ tGet 8 (sB s2) i 2 = sN s2) (hm : must s2 i = true) : stpB (s2, k) i = (stbS s2 i, k) := by
  unfold stpB; rw [if_pos h, if_pos hm]
theorem stp_lft {s2 : Sg} {k i : Nat} (h : tGet 8 (sB s2) i 5 = 0 ∧ tGet 8 (sB s2) i 2 = sN s2) (hm : ¬ must s2 i = true) : stpB (s2, k) i = (lftS s2 i, k + 1) := by
  unfold stpB; rw [if_pos h, if_neg hm]
theorem cd_X1_passHalfDay : kCardV yX1_passHalfDay cX1_passHalfDay 3 (some .int) 0 := ⟨⟨wc_X1_passHalfDay, wi_X1, by decide +kernel, by decide +kernel, rfl⟩, wk_X1_passHalfDay, ws_X1_passHalfDay⟩
set_option maxHeartbeats 4000000 in
set_option maxRecDepth 100000 in
theorem c_X1_passHalfDay (l : Launch) (D : va_G) (tA : Nat → ClassId) (a : Nat → Nat) (s : Sg)  (hw : Wf s) : Kx l D tA yX1_passHalfDay cX1_passHalfDay 3 (some .int) 5 117 [.ref (a 0)] (stW tA a s) (some (.int (nI ((psH s).2)))) (stW tA a ((psH s).1)) := by
  refine kx_int rfl (Nat.le_of_ble_eq_true rfl) (fun G X E => ?_)
  show J l D G 0 0 (stW tA a s) [(0, .ref (a 0))] 0 []
  have hn := hw.n
  have hw1 : Wf (clo 10 s (sN s)) := Wf.xclo 10 hw (sN s)
  have hn1 := hw1.n
  refine j_aload_n (pc := 0) X dX1_passHalfDay_0 rfl (q := 0) rfl ?_
  refine j_aload_n (pc := 1) X dX1_passHalfDay_1 rfl (q := 0) rfl ?_
  refine j_get (pc := 2) X (C := RX1) (T := TX1) (N := 9) wz_X1 0 rfl rfl 5 (by decide) wf_X1_49 rfl dX1_passHalfDay_2 ?_
  refine j_callV (pc := 5) X (st := []) (w' := (stW tA a (clo 10 s (sN s)))) (c_X1_closeMovesUpTo l D tA a s (sN s) (by first | assumption | omega | decide) (by first | assumption | omega | decide)) cd_X1_closeMovesUpTo wm_X1_125 0 rfl rfl rfl [0, 1, 2, 3, 4, 5, 6, 7, 8, 9] rfl rfl (st_fst.trans st_fst.symm) rfl ⟨Nat.le_of_ble_eq_true rfl, Nat.le_of_ble_eq_true rfl⟩ ⟨Nat.zero_le _, Nat.zero_le _⟩ rfl (Nat.le_of_ble_eq_true rfl) dX1_passHalfDay_5 ?_
  refine j_iconst (pc := 8) X (v := (nI 0)) dX1_passHalfDay_8 (by decide) ?_
  refine j_istore_n (pc := 9) X (lv' := [(1, .int (nI 0)), (0, .ref (a 0))]) dX1_passHalfDay_9 rfl (by decide) rfl ?_
  refine j_iconst (pc := 10) X (v := (nI 0)) dX1_passHalfDay_10 (by decide) ?_
  refine j_istore_n (pc := 11) X (lv' := [(2, .int (nI 0)), (1, .int (nI 0)), (0, .ref (a 0))]) dX1_passHalfDay_11 rfl (by decide) rfl ?_
  have L_12 : ∀ (fu : Nat) (i : Nat) (s2 : Sg) (k : Nat), i ≤ (sB (clo 10 s (sN s))).1 → (s2, k) = psB i (clo 10 s (sN s)) → (sB (clo 10 s (sN s))).1 - i < fu → J l D G 0 0 (stW tA a s2) [(0, .ref (a 0)), (1, .int (nI k)), (2, .int (nI i))] 12 [] := by
    intro fu
    induction fu with
    | zero => intro i s2 k hi hq hfu; exact absurd hfu (Nat.not_lt_zero _)
    | succ fu ih_12 =>
      intro i s2 k hi hq hfu
      have hw2 : Wf s2 := by have := Wf.xpsB hw1 i hi; rw [← hq] at this; exact this
      have hn2 := hw2.n
      have hB2 : (sB s2).1 = (sB (clo 10 s (sN s))).1 := by have := (psB_B (clo 10 s (sN s)) i).1; rw [← hq] at this; exact this
      refine j_iload_n (pc := 12) X dX1_passHalfDay_12 rfl (q := 2) rfl ?_
      refine j_aload_n (pc := 13) X dX1_passHalfDay_13 rfl (q := 0) rfl ?_
      refine j_get (pc := 14) X (C := RX1) (T := TX1) (N := 9) wz_X1 0 rfl rfl 2 (by decide) wf_X1_23 rfl dX1_passHalfDay_14 ?_
      refine j_callVR (pc := 17) X (st := [.int (nI i)])  (c_X2_size l D tA (a 3) (a 8) 30 8 (sB s2)  ) cd_X2_size wm_X1_66 6 rfl rfl rfl [6, 7] rfl rfl ⟨Nat.le_of_ble_eq_true rfl, Nat.le_of_ble_eq_true rfl⟩ ⟨Nat.zero_le _, Nat.zero_le _⟩ rfl (Nat.le_of_ble_eq_true rfl) dX1_passHalfDay_17 ?_
      refine j_icmp_ge (pc := 20) X (tgt := 80) (P := ((sB s2).1) ≤ i) dX1_passHalfDay_20 (by decide) (nI_leI (by omega) (by omega)) (fun h20 => ?_) (fun h20 => ?_)
      · skip
        have hC : psC s = (s2, k) := by rw [psC, hq, show i = (sB (clo 10 s (sN s))).1 by omega]
        refine j_aload_n (pc := 80) X dX1_passHalfDay_80 rfl (q := 0) rfl ?_
        refine j_dup (pc := 81) X dX1_passHalfDay_81 rfl ?_
        refine j_get (pc := 82) X (C := RX1) (T := TX1) (N := 9) wz_X1 0 rfl rfl 5 (by decide) wf_X1_49 rfl dX1_passHalfDay_82 ?_
        refine j_iconst (pc := 85) X (v := (nI 1)) dX1_passHalfDay_85 (by decide) ?_
        refine j_iadd (pc := 86) X (v := (nI ((sN s2) + 1))) dX1_passHalfDay_86 (nI_add _ _) ?_
        refine j_put (pc := 87) X (C := RX1) (T := TX1) (N := 9) wz_X1 tyX1 tyX1_ok nmX1 0 rfl rfl 5 (by decide) wf_X1_49 rfl rfl rfl (Nat.le_of_ble_eq_true rfl) (w' := (stW tA a (uN s2 ((sN s2) + 1)))) rfl dX1_passHalfDay_87 ?_
        refine j_iload_n (pc := 90) X dX1_passHalfDay_90 rfl (q := 1) rfl ?_
        exact j_endI (pc := 91) E dX1_passHalfDay_91 (by rw [psH, hC]) (congrArg (stW tA a) (by rw [psH, hC] <;> rfl))
      · skip
        refine j_aload_n (pc := 23) X dX1_passHalfDay_23 rfl (q := 0) rfl ?_
        refine j_iload_n (pc := 24) X dX1_passHalfDay_24 rfl (q := 2) rfl ?_
        have hb2 := hw2.b (show i < (sB s2).1 by omega)
        refine j_callVR (pc := 25) X (st := [])  (c_X1_isBooked l D tA a s2 i hw2 (by omega)) cd_X1_isBooked wm_X1_128 0 rfl rfl rfl [0, 1, 2, 3, 4, 5, 6, 7, 8, 9] rfl rfl ⟨Nat.le_of_ble_eq_true rfl, Nat.le_of_ble_eq_true rfl⟩ ⟨Nat.zero_le _, Nat.zero_le _⟩ rfl (Nat.le_of_ble_eq_true rfl) dX1_passHalfDay_25 ?_
        refine j_if_eq (pc := 28) X (tgt := 74) (P := (decide (tGet 8 (sB s2) i 5 = 0)) = false) dX1_passHalfDay_28 (by decide) (bI_0 _) (fun h28 => ?_) (fun h28 => ?_)
        · skip
          refine j_iinc (pc := 74) X (v := (nI (i + 1))) (lv' := [(2, .int (nI (i + 1))), (0, .ref (a 0)), (1, .int (nI k))]) dX1_passHalfDay_74 (q := 2) rfl (nI_add _ _) (by decide) rfl ?_
          refine j_goto (pc := 77) X (tgt := 12) dX1_passHalfDay_77 (by decide) ?_
          refine j_lv X (lv' := [(0, .ref (a 0)), (1, .int (nI k)), (2, .int (nI (i + 1)))]) [1, 2, 0] rfl ?_
          exact ih_12 (i + 1) s2 k (by omega) (by rw [psB, ← hq, stp_skip (fun q => absurd q.1 (by simpa using h28))]) (by omega)
        · skip
          refine j_aload_n (pc := 31) X dX1_passHalfDay_31 rfl (q := 0) rfl ?_
          refine j_get (pc := 32) X (C := RX1) (T := TX1) (N := 9) wz_X1 0 rfl rfl 2 (by decide) wf_X1_23 rfl dX1_passHalfDay_32 ?_
          refine j_iload_n (pc := 35) X dX1_passHalfDay_35 rfl (q := 2) rfl ?_
          refine j_iconst (pc := 36) X (v := (nI 2)) dX1_passHalfDay_36 (by decide) ?_
          refine j_callVR (pc := 37) X (st := [])  (c_X2_get l D tA (a 3) (a 8) 30 8 (sB s2) i 2 (by first | assumption | omega | decide) (by first | assumption | omega | decide) (by first | assumption | omega | decide) (by first | assumption | omega | decide) (by first | assumption | omega | decide) (by first | assumption | omega | decide)) cd_X2_get wm_X1_70 6 rfl rfl rfl [6, 7] rfl rfl ⟨Nat.le_of_ble_eq_true rfl, Nat.le_of_ble_eq_true rfl⟩ ⟨Nat.zero_le _, Nat.zero_le _⟩ rfl (Nat.le_of_ble_eq_true rfl) dX1_passHalfDay_37 ?_
          refine j_aload_n (pc := 40) X dX1_passHalfDay_40 rfl (q := 0) rfl ?_
          refine j_get (pc := 41) X (C := RX1) (T := TX1) (N := 9) wz_X1 0 rfl rfl 5 (by decide) wf_X1_49 rfl dX1_passHalfDay_41 ?_
          refine j_icmp_eq (pc := 44) X (tgt := 50) (P := (tGet 8 (sB s2) i 2) = (sN s2)) dX1_passHalfDay_44 (by decide) (nI_eq (by omega) (by omega)) (fun h44 => ?_) (fun h44 => ?_)
          · skip
            refine j_aload_n (pc := 50) X dX1_passHalfDay_50 rfl (q := 0) rfl ?_
            refine j_iload_n (pc := 51) X dX1_passHalfDay_51 rfl (q := 2) rfl ?_
            refine j_callVR (pc := 52) X (st := [])  (c_X1_mustStandBy l D tA a s2 i hw2 (by omega)) cd_X1_mustStandBy wm_X1_131 0 rfl rfl rfl [0, 1, 2, 3, 4, 5, 6, 7, 8, 9] rfl rfl ⟨Nat.le_of_ble_eq_true rfl, Nat.le_of_ble_eq_true rfl⟩ ⟨Nat.zero_le _, Nat.zero_le _⟩ rfl (Nat.le_of_ble_eq_true rfl) dX1_passHalfDay_52 ?_
            refine j_if_eq (pc := 55) X (tgt := 66) (P := (must s2 i) = false) dX1_passHalfDay_55 (by decide) (bI_0 _) (fun h55 => ?_) (fun h55 => ?_)
            · skip
              refine j_aload_n (pc := 66) X dX1_passHalfDay_66 rfl (q := 0) rfl ?_
              refine j_iload_n (pc := 67) X dX1_passHalfDay_67 rfl (q := 2) rfl ?_
              refine j_callV (pc := 68) X (st := []) (w' := (stW tA a (lftS s2 i))) (c_X1_lift l D tA a s2 i hw2 (by omega)) cd_X1_lift wm_X1_137 0 rfl rfl rfl [0, 1, 2, 3, 4, 5, 6, 7, 8, 9] rfl rfl (st_fst.trans st_fst.symm) rfl ⟨Nat.le_of_ble_eq_true rfl, Nat.le_of_ble_eq_true rfl⟩ ⟨Nat.zero_le _, Nat.zero_le _⟩ rfl (Nat.le_of_ble_eq_true rfl) dX1_passHalfDay_68 ?_
              refine j_iinc (pc := 71) X (v := (nI (k + 1))) (lv' := [(1, .int (nI (k + 1))), (0, .ref (a 0)), (2, .int (nI i))]) dX1_passHalfDay_71 (q := 1) rfl (nI_add _ _) (by decide) rfl ?_
              refine j_iinc (pc := 74) X (v := (nI (i + 1))) (lv' := [(2, .int (nI (i + 1))), (1, .int (nI (k + 1))), (0, .ref (a 0))]) dX1_passHalfDay_74 (q := 2) rfl (nI_add _ _) (by decide) rfl ?_
              refine j_goto (pc := 77) X (tgt := 12) dX1_passHalfDay_77 (by decide) ?_
              refine j_lv X (lv' := [(0, .ref (a 0)), (1, .int (nI (k + 1))), (2, .int (nI (i + 1)))]) [2, 1, 0] rfl ?_
              exact ih_12 (i + 1) (lftS s2 i) (k + 1) (by omega) (by rw [psB, ← hq, stp_lft ⟨by simpa using h28, h44⟩ (by rw [h55]; decide)]) (by omega)
            · skip
              refine j_aload_n (pc := 58) X dX1_passHalfDay_58 rfl (q := 0) rfl ?_
              refine j_iload_n (pc := 59) X dX1_passHalfDay_59 rfl (q := 2) rfl ?_
              refine j_callV (pc := 60) X (st := []) (w' := (stW tA a (stbS s2 i))) (c_X1_standBy l D tA a s2 i hw2 (by omega)) cd_X1_standBy wm_X1_134 0 rfl rfl rfl [0, 1, 2, 3, 4, 5, 6, 7, 8, 9] rfl rfl (st_fst.trans st_fst.symm) rfl ⟨Nat.le_of_ble_eq_true rfl, Nat.le_of_ble_eq_true rfl⟩ ⟨Nat.zero_le _, Nat.zero_le _⟩ rfl (Nat.le_of_ble_eq_true rfl) dX1_passHalfDay_60 ?_
              refine j_goto (pc := 63) X (tgt := 74) dX1_passHalfDay_63 (by decide) ?_
              refine j_iinc (pc := 74) X (v := (nI (i + 1))) (lv' := [(2, .int (nI (i + 1))), (0, .ref (a 0)), (1, .int (nI k))]) dX1_passHalfDay_74 (q := 2) rfl (nI_add _ _) (by decide) rfl ?_
              refine j_goto (pc := 77) X (tgt := 12) dX1_passHalfDay_77 (by decide) ?_
              refine j_lv X (lv' := [(0, .ref (a 0)), (1, .int (nI k)), (2, .int (nI (i + 1)))]) [1, 2, 0] rfl ?_
              exact ih_12 (i + 1) (stbS s2 i) k (by omega) (by rw [psB, ← hq, stp_stb ⟨by simpa using h28, h44⟩ (t5 h55)]) (by omega)
          · skip
            refine j_goto (pc := 47) X (tgt := 74) dX1_passHalfDay_47 (by decide) ?_
            refine j_iinc (pc := 74) X (v := (nI (i + 1))) (lv' := [(2, .int (nI (i + 1))), (0, .ref (a 0)), (1, .int (nI k))]) dX1_passHalfDay_74 (q := 2) rfl (nI_add _ _) (by decide) rfl ?_
            refine j_goto (pc := 77) X (tgt := 12) dX1_passHalfDay_77 (by decide) ?_
            refine j_lv X (lv' := [(0, .ref (a 0)), (1, .int (nI k)), (2, .int (nI (i + 1)))]) [1, 2, 0] rfl ?_
            exact ih_12 (i + 1) s2 k (by omega) (by rw [psB, ← hq, stp_skip (fun q => h44 q.2)]) (by omega)
  refine j_lv X (lv' := [(0, .ref (a 0)), (1, .int (nI 0)), (2, .int (nI 0))]) [2, 1, 0] rfl ?_
  exact L_12 _ 0 (clo 10 s (sN s)) 0 (Nat.zero_le _) rfl (Nat.lt_succ_self _)
end
section
section
variable {l : Launch} {D : va_G} {tA : Nat → ClassId} {G : kCx} {cc : ByteArray} {nL : Nat} {own : String} {fr lo n k : Nat} {w : va_W} {lv : List (Nat × Value)} {pc : Nat} {st : List Value}
theorem j_aald (X : kX D tA G cc nL own fr lo) (q0 : Nat) {a N i v : Nat} {f : Nat → Option Nat} (he : w[q0]? = some (a, .inl (tA 2, N, .inr (.inr (.inr (.inr f)))))) (hi : i < N) (hN : N < 65536) (hv : f i = some v) (hdg : decode cc pc = .ok (.aaload, 1)) (kk : J l D G n k w lv (pc + 1) (.ref v :: st)) : J l D G n k w lv pc (.int (nI i) :: .ref a :: st) :=
  fun H locs ls hP hD hS hl => va_aldq (D := D) (cl := vwCl) (ws := w) (tys := kTY tA) X.1 X.2.1 X.2.2.2.2.2.1.1 hP q0 2 he rfl (vp_in_nI hi (by omega)) hdg (by rw [nI_clamp (by omega), hv]; exact kk H locs ls hP hD hS hl)
theorem j_cast (X : kX D tA G cc nL own fr lo) (q0 : Nat) {a N i v : Nat} {f : Nat → Nat} (he : w[q0]? = some (a, .inl (tA 1, N, .inl (nF f)))) (hi : i < N) (hN : N < 65536) (hv : v < 65536) {w' : va_W} (hw : w.set q0 (a, .inl (tA 1, N, .inl (nF (va_up f i v)))) = w') (hdg : decode cc pc = .ok (.castore, 1)) (kk : J l D G n k w' lv (pc + 1) st) : J l D G n k w lv pc (.int (nI v) :: .int (nI i) :: .ref a :: st) :=
  fun H locs ls hP hD hS hl => va_cast (D := D) (cl := vwCl) (ws := w) (tys := kTY tA) X.1 X.2.1 X.2.2.2.2.2.1.1 hP hD hS q0 1 he rfl (vp_in_nI hi (by omega)) hdg (fun H1 locs1 hP1 hD1 hS1 => by
    have e : vp_nar .char (nI v) = nI v := by unfold vp_nar; rw [(pk_charN hv).1]
    rw [nI_clamp (by omega), e, upd_nF, hw] at hP1 hD1
    exact kk H1 locs1 ls hP1 hD1 hS1 hl)
end
/-- the ring of the latest states -/
abbrev Hs : Type := (Nat → Sg) × Nat × Nat
def hsW (tA : Nat → ClassId) (h : Nat → Nat) (d : Nat → Nat → Nat) (v : Hs) : va_W :=
  [(h 0, .inr (0, [.ref (h 1), .int (nI v.2.1), .int (nI v.2.2)])), (h 1, .inl (tA 2, 4, .inr (.inr (.inr (.inr (fun i => some (d i 0)))))))] ++ (stW tA (d 0) (v.1 0) ++ (stW tA (d 1) (v.1 1) ++ (stW tA (d 2) (v.1 2) ++ stW tA (d 3) (v.1 3))))
theorem hs_fst {tA : Nat → ClassId} {h : Nat → Nat} {d : Nat → Nat → Nat} {v : Hs} : (hsW tA h d v).map Prod.fst = [h 0, h 1] ++ (stA (d 0) ++ (stA (d 1) ++ (stA (d 2) ++ stA (d 3)))) := by
  show (_ ++ _ : va_W).map Prod.fst = _
  rw [List.map_append, List.map_append, List.map_append, List.map_append, st_fst, st_fst, st_fst, st_fst]
  rfl
theorem hs_flat {tA : Nat → ClassId} {h : Nat → Nat} {d : Nat → Nat → Nat} {v : Hs} {a : Nat → Nat} {s : Sg} : hsW tA h d v ++ stW tA a s = [(h 0, .inr (0, [.ref (h 1), .int (nI v.2.1), .int (nI v.2.2)])), (h 1, .inl (tA 2, 4, .inr (.inr (.inr (.inr (fun i => some (d i 0)))))))] ++ (stW tA (d 0) (v.1 0) ++ (stW tA (d 1) (v.1 1) ++ (stW tA (d 2) (v.1 2) ++ (stW tA (d 3) (v.1 3) ++ stW tA a s)))) := by
  simp only [hsW, List.append_assoc]
def hPush (v : Hs) (s : Sg) : Hs := (va_up v.1 v.2.1 s, (v.2.1 + 1) % 4, min (v.2.2 + 1) 4)
def hLast (v : Hs) : Nat := (v.2.1 + 4 - 1) % 4
def hPop (v : Hs) : Hs := (v.1, hLast v, v.2.2 - 1)
theorem cd_X1_copyFrom : kCardV yX1_copyFrom cX1_copyFrom 2 none 1 := ⟨⟨wc_X1_copyFrom, wi_X1, by decide +kernel, by decide +kernel, rfl⟩, wk_X1_copyFrom, ws_X1_copyFrom⟩
set_option maxHeartbeats 4000000 in
set_option maxRecDepth 100000 in
theorem c_X1_copyFrom (l : Launch) (D : va_G) (tA : Nat → ClassId) (a : Nat → Nat) (s : Sg) (b : Nat → Nat) (s2 : Sg) (hw : Wf s) (hw2 : Wf s2) : Kx l D tA yX1_copyFrom cX1_copyFrom 2 none 2 39 [.ref (a 0), .ref (b 0)] (stW tA a s ++ (stW tA b s2)) none (stW tA a s2 ++ (stW tA b s2)) := by
  refine kx_void rfl (Nat.le_of_ble_eq_true rfl) (fun G X E => ?_)
  show J l D G 0 0 (stW tA a s ++ (stW tA b s2)) [(0, .ref (a 0)), (1, .ref (b 0))] 0 []
  have hn := hw.n
  have hn2 := hw2.n
  refine j_aload_n (pc := 0) X dX1_copyFrom_0 rfl (q := 0) rfl ?_
  refine j_get (pc := 1) X (C := RX1) (T := TX1) (N := 9) wz_X1 0 rfl rfl 0 (by decide) wf_X1_14 rfl dX1_copyFrom_1 ?_
  refine j_aload_n (pc := 4) X dX1_copyFrom_4 rfl (q := 1) rfl ?_
  refine j_get (pc := 5) X (C := RX1) (T := TX1) (N := 9) wz_X1 10 rfl rfl 0 (by decide) wf_X1_14 rfl dX1_copyFrom_5 ?_
  refine j_callV (pc := 8) X (st := []) (w' := (stW tA a (uM s (sM s2)) ++ (stW tA b s2))) (c_X2_copyFrom l D tA (a 1) (a 6) 5 3 (sM s) (b 1) (b 6) (sM s2) (by decide) (by decide) (by first | assumption | omega | decide) (by first | assumption | omega | decide)) cd_X2_copyFrom wm_X1_33 2 rfl rfl rfl [2, 3, 12, 13] rfl rfl (fst_app (tb_fst.trans tb_fst.symm) rfl) rfl ⟨Nat.le_of_ble_eq_true rfl, Nat.le_of_ble_eq_true rfl⟩ ⟨Nat.zero_le _, Nat.zero_le _⟩ rfl (Nat.le_of_ble_eq_true rfl) dX1_copyFrom_8 ?_
  refine j_aload_n (pc := 11) X dX1_copyFrom_11 rfl (q := 0) rfl ?_
  refine j_get (pc := 12) X (C := RX1) (T := TX1) (N := 9) wz_X1 0 rfl rfl 1 (by decide) wf_X1_20 rfl dX1_copyFrom_12 ?_
  refine j_aload_n (pc := 15) X dX1_copyFrom_15 rfl (q := 1) rfl ?_
  refine j_get (pc := 16) X (C := RX1) (T := TX1) (N := 9) wz_X1 10 rfl rfl 1 (by decide) wf_X1_20 rfl dX1_copyFrom_16 ?_
  refine j_callV (pc := 19) X (st := []) (w' := (stW tA a (uP (uM s (sM s2)) (sP s2)) ++ (stW tA b s2))) (c_X2_copyFrom l D tA (a 2) (a 7) 8 2 (sP s) (b 2) (b 7) (sP s2) (by decide) (by decide) (by first | assumption | omega | decide) (by first | assumption | omega | decide)) cd_X2_copyFrom wm_X1_33 4 rfl rfl rfl [4, 5, 14, 15] rfl rfl (fst_app (tb_fst.trans tb_fst.symm) rfl) rfl ⟨Nat.le_of_ble_eq_true rfl, Nat.le_of_ble_eq_true rfl⟩ ⟨Nat.zero_le _, Nat.zero_le _⟩ rfl (Nat.le_of_ble_eq_true rfl) dX1_copyFrom_19 ?_
  refine j_aload_n (pc := 22) X dX1_copyFrom_22 rfl (q := 0) rfl ?_
  refine j_get (pc := 23) X (C := RX1) (T := TX1) (N := 9) wz_X1 0 rfl rfl 2 (by decide) wf_X1_23 rfl dX1_copyFrom_23 ?_
  refine j_aload_n (pc := 26) X dX1_copyFrom_26 rfl (q := 1) rfl ?_
  refine j_get (pc := 27) X (C := RX1) (T := TX1) (N := 9) wz_X1 10 rfl rfl 2 (by decide) wf_X1_23 rfl dX1_copyFrom_27 ?_
  refine j_callV (pc := 30) X (st := []) (w' := (stW tA a (uB (uP (uM s (sM s2)) (sP s2)) (sB s2)) ++ (stW tA b s2))) (c_X2_copyFrom l D tA (a 3) (a 8) 30 8 (sB s) (b 3) (b 8) (sB s2) (by decide) (by decide) (by first | assumption | omega | decide) (by first | assumption | omega | decide)) cd_X2_copyFrom wm_X1_33 6 rfl rfl rfl [6, 7, 16, 17] rfl rfl (fst_app (tb_fst.trans tb_fst.symm) rfl) rfl ⟨Nat.le_of_ble_eq_true rfl, Nat.le_of_ble_eq_true rfl⟩ ⟨Nat.zero_le _, Nat.zero_le _⟩ rfl (Nat.le_of_ble_eq_true rfl) dX1_copyFrom_30 ?_
  refine j_aload_n (pc := 33) X dX1_copyFrom_33 rfl (q := 0) rfl ?_
  refine j_get (pc := 34) X (C := RX1) (T := TX1) (N := 9) wz_X1 0 rfl rfl 3 (by decide) wf_X1_26 rfl dX1_copyFrom_34 ?_
  refine j_aload_n (pc := 37) X dX1_copyFrom_37 rfl (q := 1) rfl ?_
  refine j_get (pc := 38) X (C := RX1) (T := TX1) (N := 9) wz_X1 10 rfl rfl 3 (by decide) wf_X1_26 rfl dX1_copyFrom_38 ?_
  refine j_callV (pc := 41) X (st := []) (w' := (stW tA a (uV (uB (uP (uM s (sM s2)) (sP s2)) (sB s2)) (sV s2)) ++ (stW tA b s2))) (c_X2_copyFrom l D tA (a 4) (a 9) 10 5 (sV s) (b 4) (b 9) (sV s2) (by decide) (by decide) (by first | assumption | omega | decide) (by first | assumption | omega | decide)) cd_X2_copyFrom wm_X1_33 8 rfl rfl rfl [8, 9, 18, 19] rfl rfl (fst_app (tb_fst.trans tb_fst.symm) rfl) rfl ⟨Nat.le_of_ble_eq_true rfl, Nat.le_of_ble_eq_true rfl⟩ ⟨Nat.zero_le _, Nat.zero_le _⟩ rfl (Nat.le_of_ble_eq_true rfl) dX1_copyFrom_41 ?_
  refine j_aload_n (pc := 44) X dX1_copyFrom_44 rfl (q := 1) rfl ?_
  refine j_get (pc := 45) X (C := RX1) (T := TX1) (N := 9) wz_X1 10 rfl rfl 4 (by decide) wf_X1_29 rfl dX1_copyFrom_45 ?_
  refine j_iconst (pc := 48) X (v := (nI 0)) dX1_copyFrom_48 (by decide) ?_
  refine j_aload_n (pc := 49) X dX1_copyFrom_49 rfl (q := 0) rfl ?_
  refine j_get (pc := 50) X (C := RX1) (T := TX1) (N := 9) wz_X1 0 rfl rfl 4 (by decide) wf_X1_29 rfl dX1_copyFrom_50 ?_
  refine j_iconst (pc := 53) X (v := (nI 0)) dX1_copyFrom_53 (by decide) ?_
  refine j_aload_n (pc := 54) X dX1_copyFrom_54 rfl (q := 1) rfl ?_
  refine j_get (pc := 55) X (C := RX1) (T := TX1) (N := 9) wz_X1 10 rfl rfl 4 (by decide) wf_X1_29 rfl dX1_copyFrom_55 ?_
  refine j_alen (pc := 58) X 11 0 rfl rfl dX1_copyFrom_58 ?_
  refine j_aload_n (pc := 59) X dX1_copyFrom_59 rfl (q := 0) rfl ?_
  refine j_get (pc := 60) X (C := RX1) (T := TX1) (N := 9) wz_X1 0 rfl rfl 4 (by decide) wf_X1_29 rfl dX1_copyFrom_60 ?_
  refine j_alen (pc := 63) X 1 0 rfl rfl dX1_copyFrom_63 ?_
  refine j_mmin (pc := 64) X wm_X1_37 (Nat.le_of_ble_eq_true rfl) (Nat.le_of_ble_eq_true rfl) ⟨Nat.zero_le _, Nat.zero_le _⟩ (v := (nI 200)) (by decide +kernel) dX1_copyFrom_64 ?_
  refine j_copy (pc := 67) X 11 1 rfl rfl (by omega) wm_X1_43 (Nat.le_of_ble_eq_true rfl) (Nat.le_of_ble_eq_true rfl) (w' := (stW tA a (uW (uV (uB (uP (uM s (sM s2)) (sP s2)) (sB s2)) (sV s2)) (sW s2)) ++ (stW tA b s2))) rfl dX1_copyFrom_67 ?_
  refine j_aload_n (pc := 70) X dX1_copyFrom_70 rfl (q := 0) rfl ?_
  refine j_aload_n (pc := 71) X dX1_copyFrom_71 rfl (q := 1) rfl ?_
  refine j_get (pc := 72) X (C := RX1) (T := TX1) (N := 9) wz_X1 10 rfl rfl 5 (by decide) wf_X1_49 rfl dX1_copyFrom_72 ?_
  refine j_put (pc := 75) X (C := RX1) (T := TX1) (N := 9) wz_X1 tyX1 tyX1_ok nmX1 0 rfl rfl 5 (by decide) wf_X1_49 rfl rfl rfl (Nat.le_of_ble_eq_true rfl) (w' := (stW tA a (uN (uW (uV (uB (uP (uM s (sM s2)) (sP s2)) (sB s2)) (sV s2)) (sW s2)) (sN s2)) ++ (stW tA b s2))) rfl dX1_copyFrom_75 ?_
  refine j_aload_n (pc := 78) X dX1_copyFrom_78 rfl (q := 0) rfl ?_
  refine j_aload_n (pc := 79) X dX1_copyFrom_79 rfl (q := 1) rfl ?_
  refine j_get (pc := 80) X (C := RX1) (T := TX1) (N := 9) wz_X1 10 rfl rfl 6 (by decide) wf_X1_53 rfl dX1_copyFrom_80 ?_
  refine j_put (pc := 83) X (C := RX1) (T := TX1) (N := 9) wz_X1 tyX1 tyX1_ok nmX1 0 rfl rfl 6 (by decide) wf_X1_53 rfl rfl rfl (Nat.le_of_ble_eq_true rfl) (w' := (stW tA a (uD (uN (uW (uV (uB (uP (uM s (sM s2)) (sP s2)) (sB s2)) (sV s2)) (sW s2)) (sN s2)) (sD s2)) ++ (stW tA b s2))) rfl dX1_copyFrom_83 ?_
  refine j_aload_n (pc := 86) X dX1_copyFrom_86 rfl (q := 0) rfl ?_
  refine j_aload_n (pc := 87) X dX1_copyFrom_87 rfl (q := 1) rfl ?_
  refine j_get (pc := 88) X (C := RX1) (T := TX1) (N := 9) wz_X1 10 rfl rfl 7 (by decide) wf_X1_56 rfl dX1_copyFrom_88 ?_
  refine j_put (pc := 91) X (C := RX1) (T := TX1) (N := 9) wz_X1 tyX1 tyX1_ok nmX1 0 rfl rfl 7 (by decide) wf_X1_56 rfl rfl rfl (Nat.le_of_ble_eq_true rfl) (w' := (stW tA a (uF (uD (uN (uW (uV (uB (uP (uM s (sM s2)) (sP s2)) (sB s2)) (sV s2)) (sW s2)) (sN s2)) (sD s2)) (sF s2)) ++ (stW tA b s2))) rfl dX1_copyFrom_91 ?_
  refine j_aload_n (pc := 94) X dX1_copyFrom_94 rfl (q := 0) rfl ?_
  refine j_aload_n (pc := 95) X dX1_copyFrom_95 rfl (q := 1) rfl ?_
  refine j_get (pc := 96) X (C := RX1) (T := TX1) (N := 9) wz_X1 10 rfl rfl 8 (by decide) wf_X1_59 rfl dX1_copyFrom_96 ?_
  refine j_put (pc := 99) X (C := RX1) (T := TX1) (N := 9) wz_X1 tyX1 tyX1_ok nmX1 0 rfl rfl 8 (by decide) wf_X1_59 rfl rfl rfl (Nat.le_of_ble_eq_true rfl) (w' := (stW tA a (uX (uF (uD (uN (uW (uV (uB (uP (uM s (sM s2)) (sP s2)) (sB s2)) (sV s2)) (sW s2)) (sN s2)) (sD s2)) (sF s2)) (sX s2)) ++ (stW tA b s2))) rfl dX1_copyFrom_99 ?_
  exact j_endV (pc := 102) E dX1_copyFrom_102 rfl
theorem cd_X0_size : kCardV yX0_size cX0_size 1 (some .int) 0 := ⟨⟨wc_X0_size, wi_X0, by decide +kernel, by decide +kernel, rfl⟩, wk_X0_size, ws_X0_size⟩
set_option maxHeartbeats 4000000 in
set_option maxRecDepth 100000 in
theorem c_X0_size (l : Launch) (D : va_G) (tA : Nat → ClassId) (h : Nat → Nat) (d : Nat → Nat → Nat) (nx sz : Nat)  : Kx l D tA yX0_size cX0_size 1 (some .int) 0 0 [.ref (h 0)] ([(h 0, .inr (0, [.ref (h 1), .int (nI nx), .int (nI sz)])), (h 1, .inl (tA 2, 4, .inr (.inr (.inr (.inr (fun i => some (d i 0)))))))]) (some (.int (nI sz))) ([(h 0, .inr (0, [.ref (h 1), .int (nI nx), .int (nI sz)])), (h 1, .inl (tA 2, 4, .inr (.inr (.inr (.inr (fun i => some (d i 0)))))))]) := by
  refine kx_int rfl (Nat.le_of_ble_eq_true rfl) (fun G X E => ?_)
  show J l D G 0 0 ([(h 0, .inr (0, [.ref (h 1), .int (nI nx), .int (nI sz)])), (h 1, .inl (tA 2, 4, .inr (.inr (.inr (.inr (fun i => some (d i 0)))))))]) [(0, .ref (h 0))] 0 []
  refine j_aload_n (pc := 0) X dX0_size_0 rfl (q := 0) rfl ?_
  refine j_get (pc := 1) X (C := RX0) (T := TX0) (N := 3) wz_X0 0 rfl rfl 2 (by decide) wf_X0_18 rfl dX0_size_1 ?_
  exact j_endI (pc := 4) E dX0_size_4 rfl rfl
theorem cd_X0_stateAt : kCardV yX0_stateAt cX0_stateAt 2 (some (.object "BallastClub$State")) 1 := ⟨⟨wc_X0_stateAt, wi_X0, by decide +kernel, by decide +kernel, rfl⟩, wk_X0_stateAt, ws_X0_stateAt⟩
set_option maxHeartbeats 4000000 in
set_option maxRecDepth 100000 in
theorem c_X0_stateAt (l : Launch) (D : va_G) (tA : Nat → ClassId) (h : Nat → Nat) (d : Nat → Nat → Nat) (nx sz i : Nat) (hi : i < 4) : Kx l D tA yX0_stateAt cX0_stateAt 2 (some (.object "BallastClub$State")) 0 0 [.ref (h 0), .int (nI i)] ([(h 0, .inr (0, [.ref (h 1), .int (nI nx), .int (nI sz)])), (h 1, .inl (tA 2, 4, .inr (.inr (.inr (.inr (fun i => some (d i 0)))))))]) (some (.ref (d i 0))) ([(h 0, .inr (0, [.ref (h 1), .int (nI nx), .int (nI sz)])), (h 1, .inl (tA 2, 4, .inr (.inr (.inr (.inr (fun i => some (d i 0)))))))]) := by
  refine kx_ref rfl (Nat.le_of_ble_eq_true rfl) (fun G X E => ?_)
  show J l D G 0 0 ([(h 0, .inr (0, [.ref (h 1), .int (nI nx), .int (nI sz)])), (h 1, .inl (tA 2, 4, .inr (.inr (.inr (.inr (fun i => some (d i 0)))))))]) [(0, .ref (h 0)), (1, .int (nI i))] 0 []
  refine j_iload_n (pc := 0) X dX0_stateAt_0 rfl (q := 1) rfl ?_
  refine j_if_lt_f (pc := 1) X (tgt := 22) dX0_stateAt_1 (by decide) (nI_pos (by omega)) ?_
  refine j_iload_n (pc := 4) X dX0_stateAt_4 rfl (q := 1) rfl ?_
  refine j_aload_n (pc := 5) X dX0_stateAt_5 rfl (q := 0) rfl ?_
  refine j_get (pc := 6) X (C := RX0) (T := TX0) (N := 3) wz_X0 0 rfl rfl 0 (by decide) wf_X0_11 rfl dX0_stateAt_6 ?_
  refine j_alen (pc := 9) X 1 2 rfl rfl dX0_stateAt_9 ?_
  refine j_icmp_ge_f (pc := 10) X (tgt := 22) dX0_stateAt_10 (by decide) (nI_ge hi (by omega)) ?_
  refine j_aload_n (pc := 13) X dX0_stateAt_13 rfl (q := 0) rfl ?_
  refine j_get (pc := 14) X (C := RX0) (T := TX0) (N := 3) wz_X0 0 rfl rfl 0 (by decide) wf_X0_11 rfl dX0_stateAt_14 ?_
  refine j_iload_n (pc := 17) X dX0_stateAt_17 rfl (q := 1) rfl ?_
  refine j_aald (pc := 18) X 1 (i := i) rfl (by omega) (by omega) (v := (d i 0)) rfl dX0_stateAt_18 ?_
  refine j_goto (pc := 19) X (tgt := 23) dX0_stateAt_19 (by decide) ?_
  exact j_endA (pc := 23) E dX0_stateAt_23 rfl rfl
theorem cd_X0_push : kCardV yX0_push cX0_push 3 none 1 := ⟨⟨wc_X0_push, wi_X0, by decide +kernel, by decide +kernel, rfl⟩, wk_X0_push, ws_X0_push⟩
theorem cd_X0_popInto : kCardV yX0_popInto cX0_popInto 4 none 1 := ⟨⟨wc_X0_popInto, wi_X0, by decide +kernel, by decide +kernel, rfl⟩, wk_X0_popInto, ws_X0_popInto⟩
set_option maxHeartbeats 4000000 in
set_option maxRecDepth 100000 in
theorem c_X0_push_0 (l : Launch) (D : va_G) (tA : Nat → ClassId) (h : Nat → Nat) (d : Nat → Nat → Nat) (hs : Nat → Sg) (sz : Nat) (a : Nat → Nat) (s : Sg) (hsz : sz ≤ 4) (hh : ∀ i, Wf (hs i)) (hw : Wf s) : Kx l D tA yX0_push cX0_push 3 none 3 60 [.ref (h 0), .ref (a 0)] ([(h 0, .inr (0, [.ref (h 1), .int (nI 0), .int (nI sz)])), (h 1, .inl (tA 2, 4, .inr (.inr (.inr (.inr (fun i => some (d i 0)))))))] ++ (stW tA (d 0) (hs 0) ++ (stW tA (d 1) (hs 1) ++ (stW tA (d 2) (hs 2) ++ (stW tA (d 3) (hs 3) ++ (stW tA a s)))))) none ([(h 0, .inr (0, [.ref (h 1), .int (nI 1), .int (nI (min (sz + 1) 4))])), (h 1, .inl (tA 2, 4, .inr (.inr (.inr (.inr (fun i => some (d i 0)))))))] ++ (stW tA (d 0) s ++ (stW tA (d 1) (hs 1) ++ (stW tA (d 2) (hs 2) ++ (stW tA (d 3) (hs 3) ++ (stW tA a s)))))) := by
  refine kx_void rfl (Nat.le_of_ble_eq_true rfl) (fun G X E => ?_)
  show J l D G 0 0 ([(h 0, .inr (0, [.ref (h 1), .int (nI 0), .int (nI sz)])), (h 1, .inl (tA 2, 4, .inr (.inr (.inr (.inr (fun i => some (d i 0)))))))] ++ (stW tA (d 0) (hs 0) ++ (stW tA (d 1) (hs 1) ++ (stW tA (d 2) (hs 2) ++ (stW tA (d 3) (hs 3) ++ (stW tA a s)))))) [(0, .ref (h 0)), (1, .ref (a 0))] 0 []
  refine j_aload_n (pc := 0) X dX0_push_0 rfl (q := 0) rfl ?_
  refine j_aload_n (pc := 1) X dX0_push_1 rfl (q := 0) rfl ?_
  refine j_get (pc := 2) X (C := RX0) (T := TX0) (N := 3) wz_X0 0 rfl rfl 1 (by decide) wf_X0_22 rfl dX0_push_2 ?_
  refine j_callVR (pc := 5) X (st := [])  (c_X0_stateAt l D tA h d 0 sz 0 (by omega)) cd_X0_stateAt wm_X0_25 0 rfl rfl rfl [0, 1] rfl rfl ⟨Nat.le_of_ble_eq_true rfl, Nat.le_of_ble_eq_true rfl⟩ ⟨Nat.zero_le _, Nat.zero_le _⟩ rfl (Nat.le_of_ble_eq_true rfl) dX0_push_5 ?_
  refine j_astore_n (pc := 8) X (lv' := [(2, .ref ((d 0) 0)), (0, .ref (h 0)), (1, .ref (a 0))]) dX0_push_8 rfl (by decide) rfl ?_
  refine j_aload_n (pc := 9) X dX0_push_9 rfl (q := 0) rfl ?_
  refine j_ifnonnull (pc := 10) X (tgt := 14) dX0_push_10 (by decide) ?_
  refine j_aload_n (pc := 14) X dX0_push_14 rfl (q := 0) rfl ?_
  refine j_aload_n (pc := 15) X dX0_push_15 rfl (q := 2) rfl ?_
  refine j_callVB (pc := 16) X (st := []) (wr := ([(h 0, .inr (0, [.ref (h 1), .int (nI 0), .int (nI sz)])), (h 1, .inl (tA 2, 4, .inr (.inr (.inr (.inr (fun i => some (d i 0)))))))] ++ (stW tA (d 1) (hs 1) ++ (stW tA (d 2) (hs 2) ++ (stW tA (d 3) (hs 3)))))) (w' := ([(h 0, .inr (0, [.ref (h 1), .int (nI 0), .int (nI sz)])), (h 1, .inl (tA 2, 4, .inr (.inr (.inr (.inr (fun i => some (d i 0)))))))] ++ (stW tA (d 0) s ++ (stW tA (d 1) (hs 1) ++ (stW tA (d 2) (hs 2) ++ (stW tA (d 3) (hs 3) ++ (stW tA a s))))))) (c_X1_copyFrom l D tA (d 0) (hs 0) a s (hh 0) hw) cd_X1_copyFrom wm_X0_29 2 rfl rfl rfl [2, 3, 4, 5, 6, 7, 8, 9, 10, 11, 42, 43, 44, 45, 46, 47, 48, 49, 50, 51] rfl rfl [0, 1, 12, 13, 14, 15, 16, 17, 18, 19, 20, 21, 22, 23, 24, 25, 26, 27, 28, 29, 30, 31, 32, 33, 34, 35, 36, 37, 38, 39, 40, 41] rfl rfl (fst_app (st_fst.trans st_fst.symm) rfl) [20, 21, 0, 1, 2, 3, 4, 5, 6, 7, 8, 9, 22, 23, 24, 25, 26, 27, 28, 29, 30, 31, 32, 33, 34, 35, 36, 37, 38, 39, 40, 41, 42, 43, 44, 45, 46, 47, 48, 49, 50, 51, 10, 11, 12, 13, 14, 15, 16, 17, 18, 19] rfl rfl ⟨Nat.le_of_ble_eq_true rfl, Nat.le_of_ble_eq_true rfl⟩ ⟨Nat.zero_le _, Nat.zero_le _⟩ rfl (Nat.le_of_ble_eq_true rfl) dX0_push_16 ?_
  refine j_aload_n (pc := 19) X dX0_push_19 rfl (q := 1) rfl ?_
  refine j_aload_n (pc := 20) X dX0_push_20 rfl (q := 1) rfl ?_
  refine j_get (pc := 21) X (C := RX0) (T := TX0) (N := 3) wz_X0 0 rfl rfl 1 (by decide) wf_X0_22 rfl dX0_push_21 ?_
  refine j_iconst (pc := 24) X (v := (nI 1)) dX0_push_24 (by decide) ?_
  refine j_iadd (pc := 25) X (v := (nI 1)) dX0_push_25 (nI_add _ _) ?_
  refine j_iconst (pc := 26) X (v := (nI 4)) dX0_push_26 (by decide) ?_
  refine j_irem (pc := 27) X (v := (nI 1)) dX0_push_27 (by decide +kernel) (by decide +kernel) ?_
  refine j_put (pc := 28) X (C := RX0) (T := TX0) (N := 3) wz_X0 tyX0 tyX0_ok nmX0 0 rfl rfl 1 (by decide) wf_X0_22 rfl rfl rfl (Nat.le_of_ble_eq_true rfl) (w' := ([(h 0, .inr (0, [.ref (h 1), .int (nI 1), .int (nI sz)])), (h 1, .inl (tA 2, 4, .inr (.inr (.inr (.inr (fun i => some (d i 0)))))))] ++ (stW tA (d 0) s ++ (stW tA (d 1) (hs 1) ++ (stW tA (d 2) (hs 2) ++ (stW tA (d 3) (hs 3) ++ (stW tA a s))))))) rfl dX0_push_28 ?_
  refine j_aload_n (pc := 31) X dX0_push_31 rfl (q := 1) rfl ?_
  refine j_aload_n (pc := 32) X dX0_push_32 rfl (q := 1) rfl ?_
  refine j_get (pc := 33) X (C := RX0) (T := TX0) (N := 3) wz_X0 0 rfl rfl 2 (by decide) wf_X0_18 rfl dX0_push_33 ?_
  refine j_iconst (pc := 36) X (v := (nI 1)) dX0_push_36 (by decide) ?_
  refine j_iadd (pc := 37) X (v := (nI (sz + 1))) dX0_push_37 (nI_add _ _) ?_
  refine j_iconst (pc := 38) X (v := (nI 4)) dX0_push_38 (by decide) ?_
  refine j_mmin (pc := 39) X wm_X0_33 (Nat.le_of_ble_eq_true rfl) (Nat.le_of_ble_eq_true rfl) ⟨Nat.zero_le _, Nat.zero_le _⟩ (v := (nI (min (sz + 1) 4))) (nI_min (by omega) (by omega)) dX0_push_39 ?_
  refine j_put (pc := 42) X (C := RX0) (T := TX0) (N := 3) wz_X0 tyX0 tyX0_ok nmX0 0 rfl rfl 2 (by decide) wf_X0_18 rfl rfl rfl (Nat.le_of_ble_eq_true rfl) (w' := ([(h 0, .inr (0, [.ref (h 1), .int (nI 1), .int (nI (min (sz + 1) 4))])), (h 1, .inl (tA 2, 4, .inr (.inr (.inr (.inr (fun i => some (d i 0)))))))] ++ (stW tA (d 0) s ++ (stW tA (d 1) (hs 1) ++ (stW tA (d 2) (hs 2) ++ (stW tA (d 3) (hs 3) ++ (stW tA a s))))))) rfl dX0_push_42 ?_
  exact j_endV (pc := 45) E dX0_push_45 rfl
set_option maxHeartbeats 4000000 in
set_option maxRecDepth 100000 in
theorem c_X0_popInto_0 (l : Launch) (D : va_G) (tA : Nat → ClassId) (h : Nat → Nat) (d : Nat → Nat → Nat) (hs : Nat → Sg) (sz : Nat) (a : Nat → Nat) (s : Sg) (hsz : sz ≤ 4) (h0 : 1 ≤ sz) (hh : ∀ i, Wf (hs i)) (hw : Wf s) : Kx l D tA yX0_popInto cX0_popInto 4 none 3 60 [.ref (h 0), .ref (a 0)] ([(h 0, .inr (0, [.ref (h 1), .int (nI 0), .int (nI sz)])), (h 1, .inl (tA 2, 4, .inr (.inr (.inr (.inr (fun i => some (d i 0)))))))] ++ (stW tA (d 0) (hs 0) ++ (stW tA (d 1) (hs 1) ++ (stW tA (d 2) (hs 2) ++ (stW tA (d 3) (hs 3) ++ (stW tA a s)))))) none ([(h 0, .inr (0, [.ref (h 1), .int (nI 3), .int (nI (sz - 1))])), (h 1, .inl (tA 2, 4, .inr (.inr (.inr (.inr (fun i => some (d i 0)))))))] ++ (stW tA (d 0) (hs 0) ++ (stW tA (d 1) (hs 1) ++ (stW tA (d 2) (hs 2) ++ (stW tA (d 3) (hs 3) ++ (stW tA a (hs 3))))))) := by
  refine kx_void rfl (Nat.le_of_ble_eq_true rfl) (fun G X E => ?_)
  show J l D G 0 0 ([(h 0, .inr (0, [.ref (h 1), .int (nI 0), .int (nI sz)])), (h 1, .inl (tA 2, 4, .inr (.inr (.inr (.inr (fun i => some (d i 0)))))))] ++ (stW tA (d 0) (hs 0) ++ (stW tA (d 1) (hs 1) ++ (stW tA (d 2) (hs 2) ++ (stW tA (d 3) (hs 3) ++ (stW tA a s)))))) [(0, .ref (h 0)), (1, .ref (a 0))] 0 []
  refine j_aload_n (pc := 0) X dX0_popInto_0 rfl (q := 0) rfl ?_
  refine j_get (pc := 1) X (C := RX0) (T := TX0) (N := 3) wz_X0 0 rfl rfl 1 (by decide) wf_X0_22 rfl dX0_popInto_1 ?_
  refine j_iconst (pc := 4) X (v := (nI 4)) dX0_popInto_4 (by decide) ?_
  refine j_iadd (pc := 5) X (v := (nI 4)) dX0_popInto_5 (nI_add _ _) ?_
  refine j_iconst (pc := 6) X (v := (nI 1)) dX0_popInto_6 (by decide) ?_
  refine j_isub (pc := 7) X (v := (nI 3)) dX0_popInto_7 (pk_sub (by omega)) ?_
  refine j_iconst (pc := 8) X (v := (nI 4)) dX0_popInto_8 (by decide) ?_
  refine j_irem (pc := 9) X (v := (nI 3)) dX0_popInto_9 (by decide +kernel) (by decide +kernel) ?_
  refine j_istore_n (pc := 10) X (lv' := [(2, .int (nI 3)), (0, .ref (h 0)), (1, .ref (a 0))]) dX0_popInto_10 rfl (by decide) rfl ?_
  refine j_aload_n (pc := 11) X dX0_popInto_11 rfl (q := 1) rfl ?_
  refine j_iload_n (pc := 12) X dX0_popInto_12 rfl (q := 0) rfl ?_
  refine j_callVR (pc := 13) X (st := [])  (c_X0_stateAt l D tA h d 0 sz 3 (by omega)) cd_X0_stateAt wm_X0_25 0 rfl rfl rfl [0, 1] rfl rfl ⟨Nat.le_of_ble_eq_true rfl, Nat.le_of_ble_eq_true rfl⟩ ⟨Nat.zero_le _, Nat.zero_le _⟩ rfl (Nat.le_of_ble_eq_true rfl) dX0_popInto_13 ?_
  refine j_astore_n (pc := 16) X (lv' := [(3, .ref ((d 3) 0)), (2, .int (nI 3)), (0, .ref (h 0)), (1, .ref (a 0))]) dX0_popInto_16 rfl (by decide) rfl ?_
  refine j_aload_n (pc := 17) X dX0_popInto_17 rfl (q := 2) rfl ?_
  refine j_get (pc := 18) X (C := RX0) (T := TX0) (N := 3) wz_X0 0 rfl rfl 2 (by decide) wf_X0_18 rfl dX0_popInto_18 ?_
  refine j_if_eq_f (pc := 21) X (tgt := 28) dX0_popInto_21 (by decide) (nI_ne0 (by omega) (by omega)) ?_
  refine j_aload_n (pc := 24) X dX0_popInto_24 rfl (q := 0) rfl ?_
  refine j_ifnonnull (pc := 25) X (tgt := 29) dX0_popInto_25 (by decide) ?_
  refine j_aload_n (pc := 29) X dX0_popInto_29 rfl (q := 3) rfl ?_
  refine j_aload_n (pc := 30) X dX0_popInto_30 rfl (q := 0) rfl ?_
  refine j_callVB (pc := 31) X (st := []) (wr := ([(h 0, .inr (0, [.ref (h 1), .int (nI 0), .int (nI sz)])), (h 1, .inl (tA 2, 4, .inr (.inr (.inr (.inr (fun i => some (d i 0)))))))] ++ (stW tA (d 0) (hs 0) ++ (stW tA (d 1) (hs 1) ++ (stW tA (d 2) (hs 2)))))) (w' := ([(h 0, .inr (0, [.ref (h 1), .int (nI 0), .int (nI sz)])), (h 1, .inl (tA 2, 4, .inr (.inr (.inr (.inr (fun i => some (d i 0)))))))] ++ (stW tA (d 0) (hs 0) ++ (stW tA (d 1) (hs 1) ++ (stW tA (d 2) (hs 2) ++ (stW tA (d 3) (hs 3) ++ (stW tA a (hs 3)))))))) (c_X1_copyFrom l D tA a s (d 3) (hs 3) hw (hh 3)) cd_X1_copyFrom wm_X0_29 42 rfl rfl rfl [42, 43, 44, 45, 46, 47, 48, 49, 50, 51, 32, 33, 34, 35, 36, 37, 38, 39, 40, 41] rfl rfl [0, 1, 2, 3, 4, 5, 6, 7, 8, 9, 10, 11, 12, 13, 14, 15, 16, 17, 18, 19, 20, 21, 22, 23, 24, 25, 26, 27, 28, 29, 30, 31] rfl rfl (fst_app (st_fst.trans st_fst.symm) rfl) [20, 21, 22, 23, 24, 25, 26, 27, 28, 29, 30, 31, 32, 33, 34, 35, 36, 37, 38, 39, 40, 41, 42, 43, 44, 45, 46, 47, 48, 49, 50, 51, 10, 11, 12, 13, 14, 15, 16, 17, 18, 19, 0, 1, 2, 3, 4, 5, 6, 7, 8, 9] rfl rfl ⟨Nat.le_of_ble_eq_true rfl, Nat.le_of_ble_eq_true rfl⟩ ⟨Nat.zero_le _, Nat.zero_le _⟩ rfl (Nat.le_of_ble_eq_true rfl) dX0_popInto_31 ?_
  refine j_aload_n (pc := 34) X dX0_popInto_34 rfl (q := 2) rfl ?_
  refine j_iload_n (pc := 35) X dX0_popInto_35 rfl (q := 1) rfl ?_
  refine j_put (pc := 36) X (C := RX0) (T := TX0) (N := 3) wz_X0 tyX0 tyX0_ok nmX0 0 rfl rfl 1 (by decide) wf_X0_22 rfl rfl rfl (Nat.le_of_ble_eq_true rfl) (w' := ([(h 0, .inr (0, [.ref (h 1), .int (nI 3), .int (nI sz)])), (h 1, .inl (tA 2, 4, .inr (.inr (.inr (.inr (fun i => some (d i 0)))))))] ++ (stW tA (d 0) (hs 0) ++ (stW tA (d 1) (hs 1) ++ (stW tA (d 2) (hs 2) ++ (stW tA (d 3) (hs 3) ++ (stW tA a (hs 3)))))))) rfl dX0_popInto_36 ?_
  refine j_aload_n (pc := 39) X dX0_popInto_39 rfl (q := 2) rfl ?_
  refine j_dup (pc := 40) X dX0_popInto_40 rfl ?_
  refine j_get (pc := 41) X (C := RX0) (T := TX0) (N := 3) wz_X0 0 rfl rfl 2 (by decide) wf_X0_18 rfl dX0_popInto_41 ?_
  refine j_iconst (pc := 44) X (v := (nI 1)) dX0_popInto_44 (by decide) ?_
  refine j_isub (pc := 45) X (v := (nI (sz - 1))) dX0_popInto_45 (pk_sub (by omega)) ?_
  refine j_put (pc := 46) X (C := RX0) (T := TX0) (N := 3) wz_X0 tyX0 tyX0_ok nmX0 0 rfl rfl 2 (by decide) wf_X0_18 rfl rfl rfl (Nat.le_of_ble_eq_true rfl) (w' := ([(h 0, .inr (0, [.ref (h 1), .int (nI 3), .int (nI (sz - 1))])), (h 1, .inl (tA 2, 4, .inr (.inr (.inr (.inr (fun i => some (d i 0)))))))] ++ (stW tA (d 0) (hs 0) ++ (stW tA (d 1) (hs 1) ++ (stW tA (d 2) (hs 2) ++ (stW tA (d 3) (hs 3) ++ (stW tA a (hs 3)))))))) rfl dX0_popInto_46 ?_
  exact j_endV (pc := 49) E dX0_popInto_49 rfl
set_option maxHeartbeats 4000000 in
set_option maxRecDepth 100000 in
theorem c_X0_push_1 (l : Launch) (D : va_G) (tA : Nat → ClassId) (h : Nat → Nat) (d : Nat → Nat → Nat) (hs : Nat → Sg) (sz : Nat) (a : Nat → Nat) (s : Sg) (hsz : sz ≤ 4) (hh : ∀ i, Wf (hs i)) (hw : Wf s) : Kx l D tA yX0_push cX0_push 3 none 3 60 [.ref (h 0), .ref (a 0)] ([(h 0, .inr (0, [.ref (h 1), .int (nI 1), .int (nI sz)])), (h 1, .inl (tA 2, 4, .inr (.inr (.inr (.inr (fun i => some (d i 0)))))))] ++ (stW tA (d 0) (hs 0) ++ (stW tA (d 1) (hs 1) ++ (stW tA (d 2) (hs 2) ++ (stW tA (d 3) (hs 3) ++ (stW tA a s)))))) none ([(h 0, .inr (0, [.ref (h 1), .int (nI 2), .int (nI (min (sz + 1) 4))])), (h 1, .inl (tA 2, 4, .inr (.inr (.inr (.inr (fun i => some (d i 0)))))))] ++ (stW tA (d 0) (hs 0) ++ (stW tA (d 1) s ++ (stW tA (d 2) (hs 2) ++ (stW tA (d 3) (hs 3) ++ (stW tA a s)))))) := by
  refine kx_void rfl (Nat.le_of_ble_eq_true rfl) (fun G X E => ?_)
  show J l D G 0 0 ([(h 0, .inr (0, [.ref (h 1), .int (nI 1), .int (nI sz)])), (h 1, .inl (tA 2, 4, .inr (.inr (.inr (.inr (fun i => some (d i 0)))))))] ++ (stW tA (d 0) (hs 0) ++ (stW tA (d 1) (hs 1) ++ (stW tA (d 2) (hs 2) ++ (stW tA (d 3) (hs 3) ++ (stW tA a s)))))) [(0, .ref (h 0)), (1, .ref (a 0))] 0 []
  refine j_aload_n (pc := 0) X dX0_push_0 rfl (q := 0) rfl ?_
  refine j_aload_n (pc := 1) X dX0_push_1 rfl (q := 0) rfl ?_
  refine j_get (pc := 2) X (C := RX0) (T := TX0) (N := 3) wz_X0 0 rfl rfl 1 (by decide) wf_X0_22 rfl dX0_push_2 ?_
  refine j_callVR (pc := 5) X (st := [])  (c_X0_stateAt l D tA h d 1 sz 1 (by omega)) cd_X0_stateAt wm_X0_25 0 rfl rfl rfl [0, 1] rfl rfl ⟨Nat.le_of_ble_eq_true rfl, Nat.le_of_ble_eq_true rfl⟩ ⟨Nat.zero_le _, Nat.zero_le _⟩ rfl (Nat.le_of_ble_eq_true rfl) dX0_push_5 ?_
  refine j_astore_n (pc := 8) X (lv' := [(2, .ref ((d 1) 0)), (0, .ref (h 0)), (1, .ref (a 0))]) dX0_push_8 rfl (by decide) rfl ?_
  refine j_aload_n (pc := 9) X dX0_push_9 rfl (q := 0) rfl ?_
  refine j_ifnonnull (pc := 10) X (tgt := 14) dX0_push_10 (by decide) ?_
  refine j_aload_n (pc := 14) X dX0_push_14 rfl (q := 0) rfl ?_
  refine j_aload_n (pc := 15) X dX0_push_15 rfl (q := 2) rfl ?_
  refine j_callVB (pc := 16) X (st := []) (wr := ([(h 0, .inr (0, [.ref (h 1), .int (nI 1), .int (nI sz)])), (h 1, .inl (tA 2, 4, .inr (.inr (.inr (.inr (fun i => some (d i 0)))))))] ++ (stW tA (d 0) (hs 0) ++ (stW tA (d 2) (hs 2) ++ (stW tA (d 3) (hs 3)))))) (w' := ([(h 0, .inr (0, [.ref (h 1), .int (nI 1), .int (nI sz)])), (h 1, .inl (tA 2, 4, .inr (.inr (.inr (.inr (fun i => some (d i 0)))))))] ++ (stW tA (d 0) (hs 0) ++ (stW tA (d 1) s ++ (stW tA (d 2) (hs 2) ++ (stW tA (d 3) (hs 3) ++ (stW tA a s))))))) (c_X1_copyFrom l D tA (d 1) (hs 1) a s (hh 1) hw) cd_X1_copyFrom wm_X0_29 12 rfl rfl rfl [12, 13, 14, 15, 16, 17, 18, 19, 20, 21, 42, 43, 44, 45, 46, 47, 48, 49, 50, 51] rfl rfl [0, 1, 2, 3, 4, 5, 6, 7, 8, 9, 10, 11, 22, 23, 24, 25, 26, 27, 28, 29, 30, 31, 32, 33, 34, 35, 36, 37, 38, 39, 40, 41] rfl rfl (fst_app (st_fst.trans st_fst.symm) rfl) [20, 21, 22, 23, 24, 25, 26, 27, 28, 29, 30, 31, 0, 1, 2, 3, 4, 5, 6, 7, 8, 9, 32, 33, 34, 35, 36, 37, 38, 39, 40, 41, 42, 43, 44, 45, 46, 47, 48, 49, 50, 51, 10, 11, 12, 13, 14, 15, 16, 17, 18, 19] rfl rfl ⟨Nat.le_of_ble_eq_true rfl, Nat.le_of_ble_eq_true rfl⟩ ⟨Nat.zero_le _, Nat.zero_le _⟩ rfl (Nat.le_of_ble_eq_true rfl) dX0_push_16 ?_
  refine j_aload_n (pc := 19) X dX0_push_19 rfl (q := 1) rfl ?_
  refine j_aload_n (pc := 20) X dX0_push_20 rfl (q := 1) rfl ?_
  refine j_get (pc := 21) X (C := RX0) (T := TX0) (N := 3) wz_X0 0 rfl rfl 1 (by decide) wf_X0_22 rfl dX0_push_21 ?_
  refine j_iconst (pc := 24) X (v := (nI 1)) dX0_push_24 (by decide) ?_
  refine j_iadd (pc := 25) X (v := (nI 2)) dX0_push_25 (nI_add _ _) ?_
  refine j_iconst (pc := 26) X (v := (nI 4)) dX0_push_26 (by decide) ?_
  refine j_irem (pc := 27) X (v := (nI 2)) dX0_push_27 (by decide +kernel) (by decide +kernel) ?_
  refine j_put (pc := 28) X (C := RX0) (T := TX0) (N := 3) wz_X0 tyX0 tyX0_ok nmX0 0 rfl rfl 1 (by decide) wf_X0_22 rfl rfl rfl (Nat.le_of_ble_eq_true rfl) (w' := ([(h 0, .inr (0, [.ref (h 1), .int (nI 2), .int (nI sz)])), (h 1, .inl (tA 2, 4, .inr (.inr (.inr (.inr (fun i => some (d i 0)))))))] ++ (stW tA (d 0) (hs 0) ++ (stW tA (d 1) s ++ (stW tA (d 2) (hs 2) ++ (stW tA (d 3) (hs 3) ++ (stW tA a s))))))) rfl dX0_push_28 ?_
  refine j_aload_n (pc := 31) X dX0_push_31 rfl (q := 1) rfl ?_
  refine j_aload_n (pc := 32) X dX0_push_32 rfl (q := 1) rfl ?_
  refine j_get (pc := 33) X (C := RX0) (T := TX0) (N := 3) wz_X0 0 rfl rfl 2 (by decide) wf_X0_18 rfl dX0_push_33 ?_
  refine j_iconst (pc := 36) X (v := (nI 1)) dX0_push_36 (by decide) ?_
  refine j_iadd (pc := 37) X (v := (nI (sz + 1))) dX0_push_37 (nI_add _ _) ?_
  refine j_iconst (pc := 38) X (v := (nI 4)) dX0_push_38 (by decide) ?_
  refine j_mmin (pc := 39) X wm_X0_33 (Nat.le_of_ble_eq_true rfl) (Nat.le_of_ble_eq_true rfl) ⟨Nat.zero_le _, Nat.zero_le _⟩ (v := (nI (min (sz + 1) 4))) (nI_min (by omega) (by omega)) dX0_push_39 ?_
  refine j_put (pc := 42) X (C := RX0) (T := TX0) (N := 3) wz_X0 tyX0 tyX0_ok nmX0 0 rfl rfl 2 (by decide) wf_X0_18 rfl rfl rfl (Nat.le_of_ble_eq_true rfl) (w' := ([(h 0, .inr (0, [.ref (h 1), .int (nI 2), .int (nI (min (sz + 1) 4))])), (h 1, .inl (tA 2, 4, .inr (.inr (.inr (.inr (fun i => some (d i 0)))))))] ++ (stW tA (d 0) (hs 0) ++ (stW tA (d 1) s ++ (stW tA (d 2) (hs 2) ++ (stW tA (d 3) (hs 3) ++ (stW tA a s))))))) rfl dX0_push_42 ?_
  exact j_endV (pc := 45) E dX0_push_45 rfl
set_option maxHeartbeats 4000000 in
set_option maxRecDepth 100000 in
theorem c_X0_popInto_1 (l : Launch) (D : va_G) (tA : Nat → ClassId) (h : Nat → Nat) (d : Nat → Nat → Nat) (hs : Nat → Sg) (sz : Nat) (a : Nat → Nat) (s : Sg) (hsz : sz ≤ 4) (h0 : 1 ≤ sz) (hh : ∀ i, Wf (hs i)) (hw : Wf s) : Kx l D tA yX0_popInto cX0_popInto 4 none 3 60 [.ref (h 0), .ref (a 0)] ([(h 0, .inr (0, [.ref (h 1), .int (nI 1), .int (nI sz)])), (h 1, .inl (tA 2, 4, .inr (.inr (.inr (.inr (fun i => some (d i 0)))))))] ++ (stW tA (d 0) (hs 0) ++ (stW tA (d 1) (hs 1) ++ (stW tA (d 2) (hs 2) ++ (stW tA (d 3) (hs 3) ++ (stW tA a s)))))) none ([(h 0, .inr (0, [.ref (h 1), .int (nI 0), .int (nI (sz - 1))])), (h 1, .inl (tA 2, 4, .inr (.inr (.inr (.inr (fun i => some (d i 0)))))))] ++ (stW tA (d 0) (hs 0) ++ (stW tA (d 1) (hs 1) ++ (stW tA (d 2) (hs 2) ++ (stW tA (d 3) (hs 3) ++ (stW tA a (hs 0))))))) := by
  refine kx_void rfl (Nat.le_of_ble_eq_true rfl) (fun G X E => ?_)
  show J l D G 0 0 ([(h 0, .inr (0, [.ref (h 1), .int (nI 1), .int (nI sz)])), (h 1, .inl (tA 2, 4, .inr (.inr (.inr (.inr (fun i => some (d i 0)))))))] ++ (stW tA (d 0) (hs 0) ++ (stW tA (d 1) (hs 1) ++ (stW tA (d 2) (hs 2) ++ (stW tA (d 3) (hs 3) ++ (stW tA a s)))))) [(0, .ref (h 0)), (1, .ref (a 0))] 0 []
  refine j_aload_n (pc := 0) X dX0_popInto_0 rfl (q := 0) rfl ?_
  refine j_get (pc := 1) X (C := RX0) (T := TX0) (N := 3) wz_X0 0 rfl rfl 1 (by decide) wf_X0_22 rfl dX0_popInto_1 ?_
  refine j_iconst (pc := 4) X (v := (nI 4)) dX0_popInto_4 (by decide) ?_
  refine j_iadd (pc := 5) X (v := (nI 5)) dX0_popInto_5 (nI_add _ _) ?_
  refine j_iconst (pc := 6) X (v := (nI 1)) dX0_popInto_6 (by decide) ?_
  refine j_isub (pc := 7) X (v := (nI 4)) dX0_popInto_7 (pk_sub (by omega)) ?_
  refine j_iconst (pc := 8) X (v := (nI 4)) dX0_popInto_8 (by decide) ?_
  refine j_irem (pc := 9) X (v := (nI 0)) dX0_popInto_9 (by decide +kernel) (by decide +kernel) ?_
  refine j_istore_n (pc := 10) X (lv' := [(2, .int (nI 0)), (0, .ref (h 0)), (1, .ref (a 0))]) dX0_popInto_10 rfl (by decide) rfl ?_
  refine j_aload_n (pc := 11) X dX0_popInto_11 rfl (q := 1) rfl ?_
  refine j_iload_n (pc := 12) X dX0_popInto_12 rfl (q := 0) rfl ?_
  refine j_callVR (pc := 13) X (st := [])  (c_X0_stateAt l D tA h d 1 sz 0 (by omega)) cd_X0_stateAt wm_X0_25 0 rfl rfl rfl [0, 1] rfl rfl ⟨Nat.le_of_ble_eq_true rfl, Nat.le_of_ble_eq_true rfl⟩ ⟨Nat.zero_le _, Nat.zero_le _⟩ rfl (Nat.le_of_ble_eq_true rfl) dX0_popInto_13 ?_
  refine j_astore_n (pc := 16) X (lv' := [(3, .ref ((d 0) 0)), (2, .int (nI 0)), (0, .ref (h 0)), (1, .ref (a 0))]) dX0_popInto_16 rfl (by decide) rfl ?_
  refine j_aload_n (pc := 17) X dX0_popInto_17 rfl (q := 2) rfl ?_
  refine j_get (pc := 18) X (C := RX0) (T := TX0) (N := 3) wz_X0 0 rfl rfl 2 (by decide) wf_X0_18 rfl dX0_popInto_18 ?_
  refine j_if_eq_f (pc := 21) X (tgt := 28) dX0_popInto_21 (by decide) (nI_ne0 (by omega) (by omega)) ?_
  refine j_aload_n (pc := 24) X dX0_popInto_24 rfl (q := 0) rfl ?_
  refine j_ifnonnull (pc := 25) X (tgt := 29) dX0_popInto_25 (by decide) ?_
  refine j_aload_n (pc := 29) X dX0_popInto_29 rfl (q := 3) rfl ?_
  refine j_aload_n (pc := 30) X dX0_popInto_30 rfl (q := 0) rfl ?_
  refine j_callVB (pc := 31) X (st := []) (wr := ([(h 0, .inr (0, [.ref (h 1), .int (nI 1), .int (nI sz)])), (h 1, .inl (tA 2, 4, .inr (.inr (.inr (.inr (fun i => some (d i 0)))))))] ++ (stW tA (d 1) (hs 1) ++ (stW tA (d 2) (hs 2) ++ (stW tA (d 3) (hs 3)))))) (w' := ([(h 0, .inr (0, [.ref (h 1), .int (nI 1), .int (nI sz)])), (h 1, .inl (tA 2, 4, .inr (.inr (.inr (.inr (fun i => some (d i 0)))))))] ++ (stW tA (d 0) (hs 0) ++ (stW tA (d 1) (hs 1) ++ (stW tA (d 2) (hs 2) ++ (stW tA (d 3) (hs 3) ++ (stW tA a (hs 0)))))))) (c_X1_copyFrom l D tA a s (d 0) (hs 0) hw (hh 0)) cd_X1_copyFrom wm_X0_29 42 rfl rfl rfl [42, 43, 44, 45, 46, 47, 48, 49, 50, 51, 2, 3, 4, 5, 6, 7, 8, 9, 10, 11] rfl rfl [0, 1, 12, 13, 14, 15, 16, 17, 18, 19, 20, 21, 22, 23, 24, 25, 26, 27, 28, 29, 30, 31, 32, 33, 34, 35, 36, 37, 38, 39, 40, 41] rfl rfl (fst_app (st_fst.trans st_fst.symm) rfl) [20, 21, 10, 11, 12, 13, 14, 15, 16, 17, 18, 19, 22, 23, 24, 25, 26, 27, 28, 29, 30, 31, 32, 33, 34, 35, 36, 37, 38, 39, 40, 41, 42, 43, 44, 45, 46, 47, 48, 49, 50, 51, 0, 1, 2, 3, 4, 5, 6, 7, 8, 9] rfl rfl ⟨Nat.le_of_ble_eq_true rfl, Nat.le_of_ble_eq_true rfl⟩ ⟨Nat.zero_le _, Nat.zero_le _⟩ rfl (Nat.le_of_ble_eq_true rfl) dX0_popInto_31 ?_
  refine j_aload_n (pc := 34) X dX0_popInto_34 rfl (q := 2) rfl ?_
  refine j_iload_n (pc := 35) X dX0_popInto_35 rfl (q := 1) rfl ?_
  refine j_put (pc := 36) X (C := RX0) (T := TX0) (N := 3) wz_X0 tyX0 tyX0_ok nmX0 0 rfl rfl 1 (by decide) wf_X0_22 rfl rfl rfl (Nat.le_of_ble_eq_true rfl) (w' := ([(h 0, .inr (0, [.ref (h 1), .int (nI 0), .int (nI sz)])), (h 1, .inl (tA 2, 4, .inr (.inr (.inr (.inr (fun i => some (d i 0)))))))] ++ (stW tA (d 0) (hs 0) ++ (stW tA (d 1) (hs 1) ++ (stW tA (d 2) (hs 2) ++ (stW tA (d 3) (hs 3) ++ (stW tA a (hs 0)))))))) rfl dX0_popInto_36 ?_
  refine j_aload_n (pc := 39) X dX0_popInto_39 rfl (q := 2) rfl ?_
  refine j_dup (pc := 40) X dX0_popInto_40 rfl ?_
  refine j_get (pc := 41) X (C := RX0) (T := TX0) (N := 3) wz_X0 0 rfl rfl 2 (by decide) wf_X0_18 rfl dX0_popInto_41 ?_
  refine j_iconst (pc := 44) X (v := (nI 1)) dX0_popInto_44 (by decide) ?_
  refine j_isub (pc := 45) X (v := (nI (sz - 1))) dX0_popInto_45 (pk_sub (by omega)) ?_
  refine j_put (pc := 46) X (C := RX0) (T := TX0) (N := 3) wz_X0 tyX0 tyX0_ok nmX0 0 rfl rfl 2 (by decide) wf_X0_18 rfl rfl rfl (Nat.le_of_ble_eq_true rfl) (w' := ([(h 0, .inr (0, [.ref (h 1), .int (nI 0), .int (nI (sz - 1))])), (h 1, .inl (tA 2, 4, .inr (.inr (.inr (.inr (fun i => some (d i 0)))))))] ++ (stW tA (d 0) (hs 0) ++ (stW tA (d 1) (hs 1) ++ (stW tA (d 2) (hs 2) ++ (stW tA (d 3) (hs 3) ++ (stW tA a (hs 0)))))))) rfl dX0_popInto_46 ?_
  exact j_endV (pc := 49) E dX0_popInto_49 rfl
set_option maxHeartbeats 4000000 in
set_option maxRecDepth 100000 in
theorem c_X0_push_2 (l : Launch) (D : va_G) (tA : Nat → ClassId) (h : Nat → Nat) (d : Nat → Nat → Nat) (hs : Nat → Sg) (sz : Nat) (a : Nat → Nat) (s : Sg) (hsz : sz ≤ 4) (hh : ∀ i, Wf (hs i)) (hw : Wf s) : Kx l D tA yX0_push cX0_push 3 none 3 60 [.ref (h 0), .ref (a 0)] ([(h 0, .inr (0, [.ref (h 1), .int (nI 2), .int (nI sz)])), (h 1, .inl (tA 2, 4, .inr (.inr (.inr (.inr (fun i => some (d i 0)))))))] ++ (stW tA (d 0) (hs 0) ++ (stW tA (d 1) (hs 1) ++ (stW tA (d 2) (hs 2) ++ (stW tA (d 3) (hs 3) ++ (stW tA a s)))))) none ([(h 0, .inr (0, [.ref (h 1), .int (nI 3), .int (nI (min (sz + 1) 4))])), (h 1, .inl (tA 2, 4, .inr (.inr (.inr (.inr (fun i => some (d i 0)))))))] ++ (stW tA (d 0) (hs 0) ++ (stW tA (d 1) (hs 1) ++ (stW tA (d 2) s ++ (stW tA (d 3) (hs 3) ++ (stW tA a s)))))) := by
  refine kx_void rfl (Nat.le_of_ble_eq_true rfl) (fun G X E => ?_)
  show J l D G 0 0 ([(h 0, .inr (0, [.ref (h 1), .int (nI 2), .int (nI sz)])), (h 1, .inl (tA 2, 4, .inr (.inr (.inr (.inr (fun i => some (d i 0)))))))] ++ (stW tA (d 0) (hs 0) ++ (stW tA (d 1) (hs 1) ++ (stW tA (d 2) (hs 2) ++ (stW tA (d 3) (hs 3) ++ (stW tA a s)))))) [(0, .ref (h 0)), (1, .ref (a 0))] 0 []
  refine j_aload_n (pc := 0) X dX0_push_0 rfl (q := 0) rfl ?_
  refine j_aload_n (pc := 1) X dX0_push_1 rfl (q := 0) rfl ?_
  refine j_get (pc := 2) X (C := RX0) (T := TX0) (N := 3) wz_X0 0 rfl rfl 1 (by decide) wf_X0_22 rfl dX0_push_2 ?_
  refine j_callVR (pc := 5) X (st := [])  (c_X0_stateAt l D tA h d 2 sz 2 (by omega)) cd_X0_stateAt wm_X0_25 0 rfl rfl rfl [0, 1] rfl rfl ⟨Nat.le_of_ble_eq_true rfl, Nat.le_of_ble_eq_true rfl⟩ ⟨Nat.zero_le _, Nat.zero_le _⟩ rfl (Nat.le_of_ble_eq_true rfl) dX0_push_5 ?_
  refine j_astore_n (pc := 8) X (lv' := [(2, .ref ((d 2) 0)), (0, .ref (h 0)), (1, .ref (a 0))]) dX0_push_8 rfl (by decide) rfl ?_
  refine j_aload_n (pc := 9) X dX0_push_9 rfl (q := 0) rfl ?_
  refine j_ifnonnull (pc := 10) X (tgt := 14) dX0_push_10 (by decide) ?_
  refine j_aload_n (pc := 14) X dX0_push_14 rfl (q := 0) rfl ?_
  refine j_aload_n (pc := 15) X dX0_push_15 rfl (q := 2) rfl ?_
  refine j_callVB (pc := 16) X (st := []) (wr := ([(h 0, .inr (0, [.ref (h 1), .int (nI 2), .int (nI sz)])), (h 1, .inl (tA 2, 4, .inr (.inr (.inr (.inr (fun i => some (d i 0)))))))] ++ (stW tA (d 0) (hs 0) ++ (stW tA (d 1) (hs 1) ++ (stW tA (d 3) (hs 3)))))) (w' := ([(h 0, .inr (0, [.ref (h 1), .int (nI 2), .int (nI sz)])), (h 1, .inl (tA 2, 4, .inr (.inr (.inr (.inr (fun i => some (d i 0)))))))] ++ (stW tA (d 0) (hs 0) ++ (stW tA (d 1) (hs 1) ++ (stW tA (d 2) s ++ (stW tA (d 3) (hs 3) ++ (stW tA a s))))))) (c_X1_copyFrom l D tA (d 2) (hs 2) a s (hh 2) hw) cd_X1_copyFrom wm_X0_29 22 rfl rfl rfl [22, 23, 24, 25, 26, 27, 28, 29, 30, 31, 42, 43, 44, 45, 46, 47, 48, 49, 50, 51] rfl rfl [0, 1, 2, 3, 4, 5, 6, 7, 8, 9, 10, 11, 12, 13, 14, 15, 16, 17, 18, 19, 20, 21, 32, 33, 34, 35, 36, 37, 38, 39, 40, 41] rfl rfl (fst_app (st_fst.trans st_fst.symm) rfl) [20, 21, 22, 23, 24, 25, 26, 27, 28, 29, 30, 31, 32, 33, 34, 35, 36, 37, 38, 39, 40, 41, 0, 1, 2, 3, 4, 5, 6, 7, 8, 9, 42, 43, 44, 45, 46, 47, 48, 49, 50, 51, 10, 11, 12, 13, 14, 15, 16, 17, 18, 19] rfl rfl ⟨Nat.le_of_ble_eq_true rfl, Nat.le_of_ble_eq_true rfl⟩ ⟨Nat.zero_le _, Nat.zero_le _⟩ rfl (Nat.le_of_ble_eq_true rfl) dX0_push_16 ?_
  refine j_aload_n (pc := 19) X dX0_push_19 rfl (q := 1) rfl ?_
  refine j_aload_n (pc := 20) X dX0_push_20 rfl (q := 1) rfl ?_
  refine j_get (pc := 21) X (C := RX0) (T := TX0) (N := 3) wz_X0 0 rfl rfl 1 (by decide) wf_X0_22 rfl dX0_push_21 ?_
  refine j_iconst (pc := 24) X (v := (nI 1)) dX0_push_24 (by decide) ?_
  refine j_iadd (pc := 25) X (v := (nI 3)) dX0_push_25 (nI_add _ _) ?_
  refine j_iconst (pc := 26) X (v := (nI 4)) dX0_push_26 (by decide) ?_
  refine j_irem (pc := 27) X (v := (nI 3)) dX0_push_27 (by decide +kernel) (by decide +kernel) ?_
  refine j_put (pc := 28) X (C := RX0) (T := TX0) (N := 3) wz_X0 tyX0 tyX0_ok nmX0 0 rfl rfl 1 (by decide) wf_X0_22 rfl rfl rfl (Nat.le_of_ble_eq_true rfl) (w' := ([(h 0, .inr (0, [.ref (h 1), .int (nI 3), .int (nI sz)])), (h 1, .inl (tA 2, 4, .inr (.inr (.inr (.inr (fun i => some (d i 0)))))))] ++ (stW tA (d 0) (hs 0) ++ (stW tA (d 1) (hs 1) ++ (stW tA (d 2) s ++ (stW tA (d 3) (hs 3) ++ (stW tA a s))))))) rfl dX0_push_28 ?_
  refine j_aload_n (pc := 31) X dX0_push_31 rfl (q := 1) rfl ?_
  refine j_aload_n (pc := 32) X dX0_push_32 rfl (q := 1) rfl ?_
  refine j_get (pc := 33) X (C := RX0) (T := TX0) (N := 3) wz_X0 0 rfl rfl 2 (by decide) wf_X0_18 rfl dX0_push_33 ?_
  refine j_iconst (pc := 36) X (v := (nI 1)) dX0_push_36 (by decide) ?_
  refine j_iadd (pc := 37) X (v := (nI (sz + 1))) dX0_push_37 (nI_add _ _) ?_
  refine j_iconst (pc := 38) X (v := (nI 4)) dX0_push_38 (by decide) ?_
  refine j_mmin (pc := 39) X wm_X0_33 (Nat.le_of_ble_eq_true rfl) (Nat.le_of_ble_eq_true rfl) ⟨Nat.zero_le _, Nat.zero_le _⟩ (v := (nI (min (sz + 1) 4))) (nI_min (by omega) (by omega)) dX0_push_39 ?_
  refine j_put (pc := 42) X (C := RX0) (T := TX0) (N := 3) wz_X0 tyX0 tyX0_ok nmX0 0 rfl rfl 2 (by decide) wf_X0_18 rfl rfl rfl (Nat.le_of_ble_eq_true rfl) (w' := ([(h 0, .inr (0, [.ref (h 1), .int (nI 3), .int (nI (min (sz + 1) 4))])), (h 1, .inl (tA 2, 4, .inr (.inr (.inr (.inr (fun i => some (d i 0)))))))] ++ (stW tA (d 0) (hs 0) ++ (stW tA (d 1) (hs 1) ++ (stW tA (d 2) s ++ (stW tA (d 3) (hs 3) ++ (stW tA a s))))))) rfl dX0_push_42 ?_
  exact j_endV (pc := 45) E dX0_push_45 rfl
set_option maxHeartbeats 4000000 in
set_option maxRecDepth 100000 in
theorem c_X0_popInto_2 (l : Launch) (D : va_G) (tA : Nat → ClassId) (h : Nat → Nat) (d : Nat → Nat → Nat) (hs : Nat → Sg) (sz : Nat) (a : Nat → Nat) (s : Sg) (hsz : sz ≤ 4) (h0 : 1 ≤ sz) (hh : ∀ i, Wf (hs i)) (hw : Wf s) : Kx l D tA yX0_popInto cX0_popInto 4 none 3 60 [.ref (h 0), .ref (a 0)] ([(h 0, .inr (0, [.ref (h 1), .int (nI 2), .int (nI sz)])), (h 1, .inl (tA 2, 4, .inr (.inr (.inr (.inr (fun i => some (d i 0)))))))] ++ (stW tA (d 0) (hs 0) ++ (stW tA (d 1) (hs 1) ++ (stW tA (d 2) (hs 2) ++ (stW tA (d 3) (hs 3) ++ (stW tA a s)))))) none ([(h 0, .inr (0, [.ref (h 1), .int (nI 1), .int (nI (sz - 1))])), (h 1, .inl (tA 2, 4, .inr (.inr (.inr (.inr (fun i => some (d i 0)))))))] ++ (stW tA (d 0) (hs 0) ++ (stW tA (d 1) (hs 1) ++ (stW tA (d 2) (hs 2) ++ (stW tA (d 3) (hs 3) ++ (stW tA a (hs 1))))))) := by
  refine kx_void rfl (Nat.le_of_ble_eq_true rfl) (fun G X E => ?_)
  show J l D G 0 0 ([(h 0, .inr (0, [.ref (h 1), .int (nI 2), .int (nI sz)])), (h 1, .inl (tA 2, 4, .inr (.inr (.inr (.inr (fun i => some (d i 0)))))))] ++ (stW tA (d 0) (hs 0) ++ (stW tA (d 1) (hs 1) ++ (stW tA (d 2) (hs 2) ++ (stW tA (d 3) (hs 3) ++ (stW tA a s)))))) [(0, .ref (h 0)), (1, .ref (a 0))] 0 []
  refine j_aload_n (pc := 0) X dX0_popInto_0 rfl (q := 0) rfl ?_
  refine j_get (pc := 1) X (C := RX0) (T := TX0) (N := 3) wz_X0 0 rfl rfl 1 (by decide) wf_X0_22 rfl dX0_popInto_1 ?_
  refine j_iconst (pc := 4) X (v := (nI 4)) dX0_popInto_4 (by decide) ?_
  refine j_iadd (pc := 5) X (v := (nI 6)) dX0_popInto_5 (nI_add _ _) ?_
  refine j_iconst (pc := 6) X (v := (nI 1)) dX0_popInto_6 (by decide) ?_
  refine j_isub (pc := 7) X (v := (nI 5)) dX0_popInto_7 (pk_sub (by omega)) ?_
  refine j_iconst (pc := 8) X (v := (nI 4)) dX0_popInto_8 (by decide) ?_
  refine j_irem (pc := 9) X (v := (nI 1)) dX0_popInto_9 (by decide +kernel) (by decide +kernel) ?_
  refine j_istore_n (pc := 10) X (lv' := [(2, .int (nI 1)), (0, .ref (h 0)), (1, .ref (a 0))]) dX0_popInto_10 rfl (by decide) rfl ?_
  refine j_aload_n (pc := 11) X dX0_popInto_11 rfl (q := 1) rfl ?_
  refine j_iload_n (pc := 12) X dX0_popInto_12 rfl (q := 0) rfl ?_
  refine j_callVR (pc := 13) X (st := [])  (c_X0_stateAt l D tA h d 2 sz 1 (by omega)) cd_X0_stateAt wm_X0_25 0 rfl rfl rfl [0, 1] rfl rfl ⟨Nat.le_of_ble_eq_true rfl, Nat.le_of_ble_eq_true rfl⟩ ⟨Nat.zero_le _, Nat.zero_le _⟩ rfl (Nat.le_of_ble_eq_true rfl) dX0_popInto_13 ?_
  refine j_astore_n (pc := 16) X (lv' := [(3, .ref ((d 1) 0)), (2, .int (nI 1)), (0, .ref (h 0)), (1, .ref (a 0))]) dX0_popInto_16 rfl (by decide) rfl ?_
  refine j_aload_n (pc := 17) X dX0_popInto_17 rfl (q := 2) rfl ?_
  refine j_get (pc := 18) X (C := RX0) (T := TX0) (N := 3) wz_X0 0 rfl rfl 2 (by decide) wf_X0_18 rfl dX0_popInto_18 ?_
  refine j_if_eq_f (pc := 21) X (tgt := 28) dX0_popInto_21 (by decide) (nI_ne0 (by omega) (by omega)) ?_
  refine j_aload_n (pc := 24) X dX0_popInto_24 rfl (q := 0) rfl ?_
  refine j_ifnonnull (pc := 25) X (tgt := 29) dX0_popInto_25 (by decide) ?_
  refine j_aload_n (pc := 29) X dX0_popInto_29 rfl (q := 3) rfl ?_
  refine j_aload_n (pc := 30) X dX0_popInto_30 rfl (q := 0) rfl ?_
  refine j_callVB (pc := 31) X (st := []) (wr := ([(h 0, .inr (0, [.ref (h 1), .int (nI 2), .int (nI sz)])), (h 1, .inl (tA 2, 4, .inr (.inr (.inr (.inr (fun i => some (d i 0)))))))] ++ (stW tA (d 0) (hs 0) ++ (stW tA (d 2) (hs 2) ++ (stW tA (d 3) (hs 3)))))) (w' := ([(h 0, .inr (0, [.ref (h 1), .int (nI 2), .int (nI sz)])), (h 1, .inl (tA 2, 4, .inr (.inr (.inr (.inr (fun i => some (d i 0)))))))] ++ (stW tA (d 0) (hs 0) ++ (stW tA (d 1) (hs 1) ++ (stW tA (d 2) (hs 2) ++ (stW tA (d 3) (hs 3) ++ (stW tA a (hs 1)))))))) (c_X1_copyFrom l D tA a s (d 1) (hs 1) hw (hh 1)) cd_X1_copyFrom wm_X0_29 42 rfl rfl rfl [42, 43, 44, 45, 46, 47, 48, 49, 50, 51, 12, 13, 14, 15, 16, 17, 18, 19, 20, 21] rfl rfl [0, 1, 2, 3, 4, 5, 6, 7, 8, 9, 10, 11, 22, 23, 24, 25, 26, 27, 28, 29, 30, 31, 32, 33, 34, 35, 36, 37, 38, 39, 40, 41] rfl rfl (fst_app (st_fst.trans st_fst.symm) rfl) [20, 21, 22, 23, 24, 25, 26, 27, 28, 29, 30, 31, 10, 11, 12, 13, 14, 15, 16, 17, 18, 19, 32, 33, 34, 35, 36, 37, 38, 39, 40, 41, 42, 43, 44, 45, 46, 47, 48, 49, 50, 51, 0, 1, 2, 3, 4, 5, 6, 7, 8, 9] rfl rfl ⟨Nat.le_of_ble_eq_true rfl, Nat.le_of_ble_eq_true rfl⟩ ⟨Nat.zero_le _, Nat.zero_le _⟩ rfl (Nat.le_of_ble_eq_true rfl) dX0_popInto_31 ?_
  refine j_aload_n (pc := 34) X dX0_popInto_34 rfl (q := 2) rfl ?_
  refine j_iload_n (pc := 35) X dX0_popInto_35 rfl (q := 1) rfl ?_
  refine j_put (pc := 36) X (C := RX0) (T := TX0) (N := 3) wz_X0 tyX0 tyX0_ok nmX0 0 rfl rfl 1 (by decide) wf_X0_22 rfl rfl rfl (Nat.le_of_ble_eq_true rfl) (w' := ([(h 0, .inr (0, [.ref (h 1), .int (nI 1), .int (nI sz)])), (h 1, .inl (tA 2, 4, .inr (.inr (.inr (.inr (fun i => some (d i 0)))))))] ++ (stW tA (d 0) (hs 0) ++ (stW tA (d 1) (hs 1) ++ (stW tA (d 2) (hs 2) ++ (stW tA (d 3) (hs 3) ++ (stW tA a (hs 1)))))))) rfl dX0_popInto_36 ?_
  refine j_aload_n (pc := 39) X dX0_popInto_39 rfl (q := 2) rfl ?_
  refine j_dup (pc := 40) X dX0_popInto_40 rfl ?_
  refine j_get (pc := 41) X (C := RX0) (T := TX0) (N := 3) wz_X0 0 rfl rfl 2 (by decide) wf_X0_18 rfl dX0_popInto_41 ?_
  refine j_iconst (pc := 44) X (v := (nI 1)) dX0_popInto_44 (by decide) ?_
  refine j_isub (pc := 45) X (v := (nI (sz - 1))) dX0_popInto_45 (pk_sub (by omega)) ?_
  refine j_put (pc := 46) X (C := RX0) (T := TX0) (N := 3) wz_X0 tyX0 tyX0_ok nmX0 0 rfl rfl 2 (by decide) wf_X0_18 rfl rfl rfl (Nat.le_of_ble_eq_true rfl) (w' := ([(h 0, .inr (0, [.ref (h 1), .int (nI 1), .int (nI (sz - 1))])), (h 1, .inl (tA 2, 4, .inr (.inr (.inr (.inr (fun i => some (d i 0)))))))] ++ (stW tA (d 0) (hs 0) ++ (stW tA (d 1) (hs 1) ++ (stW tA (d 2) (hs 2) ++ (stW tA (d 3) (hs 3) ++ (stW tA a (hs 1)))))))) rfl dX0_popInto_46 ?_
  exact j_endV (pc := 49) E dX0_popInto_49 rfl
set_option maxHeartbeats 4000000 in
set_option maxRecDepth 100000 in
theorem c_X0_push_3 (l : Launch) (D : va_G) (tA : Nat → ClassId) (h : Nat → Nat) (d : Nat → Nat → Nat) (hs : Nat → Sg) (sz : Nat) (a : Nat → Nat) (s : Sg) (hsz : sz ≤ 4) (hh : ∀ i, Wf (hs i)) (hw : Wf s) : Kx l D tA yX0_push cX0_push 3 none 3 60 [.ref (h 0), .ref (a 0)] ([(h 0, .inr (0, [.ref (h 1), .int (nI 3), .int (nI sz)])), (h 1, .inl (tA 2, 4, .inr (.inr (.inr (.inr (fun i => some (d i 0)))))))] ++ (stW tA (d 0) (hs 0) ++ (stW tA (d 1) (hs 1) ++ (stW tA (d 2) (hs 2) ++ (stW tA (d 3) (hs 3) ++ (stW tA a s)))))) none ([(h 0, .inr (0, [.ref (h 1), .int (nI 0), .int (nI (min (sz + 1) 4))])), (h 1, .inl (tA 2, 4, .inr (.inr (.inr (.inr (fun i => some (d i 0)))))))] ++ (stW tA (d 0) (hs 0) ++ (stW tA (d 1) (hs 1) ++ (stW tA (d 2) (hs 2) ++ (stW tA (d 3) s ++ (stW tA a s)))))) := by
  refine kx_void rfl (Nat.le_of_ble_eq_true rfl) (fun G X E => ?_)
  show J l D G 0 0 ([(h 0, .inr (0, [.ref (h 1), .int (nI 3), .int (nI sz)])), (h 1, .inl (tA 2, 4, .inr (.inr (.inr (.inr (fun i => some (d i 0)))))))] ++ (stW tA (d 0) (hs 0) ++ (stW tA (d 1) (hs 1) ++ (stW tA (d 2) (hs 2) ++ (stW tA (d 3) (hs 3) ++ (stW tA a s)))))) [(0, .ref (h 0)), (1, .ref (a 0))] 0 []
  refine j_aload_n (pc := 0) X dX0_push_0 rfl (q := 0) rfl ?_
  refine j_aload_n (pc := 1) X dX0_push_1 rfl (q := 0) rfl ?_
  refine j_get (pc := 2) X (C := RX0) (T := TX0) (N := 3) wz_X0 0 rfl rfl 1 (by decide) wf_X0_22 rfl dX0_push_2 ?_
  refine j_callVR (pc := 5) X (st := [])  (c_X0_stateAt l D tA h d 3 sz 3 (by omega)) cd_X0_stateAt wm_X0_25 0 rfl rfl rfl [0, 1] rfl rfl ⟨Nat.le_of_ble_eq_true rfl, Nat.le_of_ble_eq_true rfl⟩ ⟨Nat.zero_le _, Nat.zero_le _⟩ rfl (Nat.le_of_ble_eq_true rfl) dX0_push_5 ?_
  refine j_astore_n (pc := 8) X (lv' := [(2, .ref ((d 3) 0)), (0, .ref (h 0)), (1, .ref (a 0))]) dX0_push_8 rfl (by decide) rfl ?_
  refine j_aload_n (pc := 9) X dX0_push_9 rfl (q := 0) rfl ?_
  refine j_ifnonnull (pc := 10) X (tgt := 14) dX0_push_10 (by decide) ?_
  refine j_aload_n (pc := 14) X dX0_push_14 rfl (q := 0) rfl ?_
  refine j_aload_n (pc := 15) X dX0_push_15 rfl (q := 2) rfl ?_
  refine j_callVB (pc := 16) X (st := []) (wr := ([(h 0, .inr (0, [.ref (h 1), .int (nI 3), .int (nI sz)])), (h 1, .inl (tA 2, 4, .inr (.inr (.inr (.inr (fun i => some (d i 0)))))))] ++ (stW tA (d 0) (hs 0) ++ (stW tA (d 1) (hs 1) ++ (stW tA (d 2) (hs 2)))))) (w' := ([(h 0, .inr (0, [.ref (h 1), .int (nI 3), .int (nI sz)])), (h 1, .inl (tA 2, 4, .inr (.inr (.inr (.inr (fun i => some (d i 0)))))))] ++ (stW tA (d 0) (hs 0) ++ (stW tA (d 1) (hs 1) ++ (stW tA (d 2) (hs 2) ++ (stW tA (d 3) s ++ (stW tA a s))))))) (c_X1_copyFrom l D tA (d 3) (hs 3) a s (hh 3) hw) cd_X1_copyFrom wm_X0_29 32 rfl rfl rfl [32, 33, 34, 35, 36, 37, 38, 39, 40, 41, 42, 43, 44, 45, 46, 47, 48, 49, 50, 51] rfl rfl [0, 1, 2, 3, 4, 5, 6, 7, 8, 9, 10, 11, 12, 13, 14, 15, 16, 17, 18, 19, 20, 21, 22, 23, 24, 25, 26, 27, 28, 29, 30, 31] rfl rfl (fst_app (st_fst.trans st_fst.symm) rfl) [20, 21, 22, 23, 24, 25, 26, 27, 28, 29, 30, 31, 32, 33, 34, 35, 36, 37, 38, 39, 40, 41, 42, 43, 44, 45, 46, 47, 48, 49, 50, 51, 0, 1, 2, 3, 4, 5, 6, 7, 8, 9, 10, 11, 12, 13, 14, 15, 16, 17, 18, 19] rfl rfl ⟨Nat.le_of_ble_eq_true rfl, Nat.le_of_ble_eq_true rfl⟩ ⟨Nat.zero_le _, Nat.zero_le _⟩ rfl (Nat.le_of_ble_eq_true rfl) dX0_push_16 ?_
  refine j_aload_n (pc := 19) X dX0_push_19 rfl (q := 1) rfl ?_
  refine j_aload_n (pc := 20) X dX0_push_20 rfl (q := 1) rfl ?_
  refine j_get (pc := 21) X (C := RX0) (T := TX0) (N := 3) wz_X0 0 rfl rfl 1 (by decide) wf_X0_22 rfl dX0_push_21 ?_
  refine j_iconst (pc := 24) X (v := (nI 1)) dX0_push_24 (by decide) ?_
  refine j_iadd (pc := 25) X (v := (nI 4)) dX0_push_25 (nI_add _ _) ?_
  refine j_iconst (pc := 26) X (v := (nI 4)) dX0_push_26 (by decide) ?_
  refine j_irem (pc := 27) X (v := (nI 0)) dX0_push_27 (by decide +kernel) (by decide +kernel) ?_
  refine j_put (pc := 28) X (C := RX0) (T := TX0) (N := 3) wz_X0 tyX0 tyX0_ok nmX0 0 rfl rfl 1 (by decide) wf_X0_22 rfl rfl rfl (Nat.le_of_ble_eq_true rfl) (w' := ([(h 0, .inr (0, [.ref (h 1), .int (nI 0), .int (nI sz)])), (h 1, .inl (tA 2, 4, .inr (.inr (.inr (.inr (fun i => some (d i 0)))))))] ++ (stW tA (d 0) (hs 0) ++ (stW tA (d 1) (hs 1) ++ (stW tA (d 2) (hs 2) ++ (stW tA (d 3) s ++ (stW tA a s))))))) rfl dX0_push_28 ?_
  refine j_aload_n (pc := 31) X dX0_push_31 rfl (q := 1) rfl ?_
  refine j_aload_n (pc := 32) X dX0_push_32 rfl (q := 1) rfl ?_
  refine j_get (pc := 33) X (C := RX0) (T := TX0) (N := 3) wz_X0 0 rfl rfl 2 (by decide) wf_X0_18 rfl dX0_push_33 ?_
  refine j_iconst (pc := 36) X (v := (nI 1)) dX0_push_36 (by decide) ?_
  refine j_iadd (pc := 37) X (v := (nI (sz + 1))) dX0_push_37 (nI_add _ _) ?_
  refine j_iconst (pc := 38) X (v := (nI 4)) dX0_push_38 (by decide) ?_
  refine j_mmin (pc := 39) X wm_X0_33 (Nat.le_of_ble_eq_true rfl) (Nat.le_of_ble_eq_true rfl) ⟨Nat.zero_le _, Nat.zero_le _⟩ (v := (nI (min (sz + 1) 4))) (nI_min (by omega) (by omega)) dX0_push_39 ?_
  refine j_put (pc := 42) X (C := RX0) (T := TX0) (N := 3) wz_X0 tyX0 tyX0_ok nmX0 0 rfl rfl 2 (by decide) wf_X0_18 rfl rfl rfl (Nat.le_of_ble_eq_true rfl) (w' := ([(h 0, .inr (0, [.ref (h 1), .int (nI 0), .int (nI (min (sz + 1) 4))])), (h 1, .inl (tA 2, 4, .inr (.inr (.inr (.inr (fun i => some (d i 0)))))))] ++ (stW tA (d 0) (hs 0) ++ (stW tA (d 1) (hs 1) ++ (stW tA (d 2) (hs 2) ++ (stW tA (d 3) s ++ (stW tA a s))))))) rfl dX0_push_42 ?_
  exact j_endV (pc := 45) E dX0_push_45 rfl
set_option maxHeartbeats 4000000 in
set_option maxRecDepth 100000 in
theorem c_X0_popInto_3 (l : Launch) (D : va_G) (tA : Nat → ClassId) (h : Nat → Nat) (d : Nat → Nat → Nat) (hs : Nat → Sg) (sz : Nat) (a : Nat → Nat) (s : Sg) (hsz : sz ≤ 4) (h0 : 1 ≤ sz) (hh : ∀ i, Wf (hs i)) (hw : Wf s) : Kx l D tA yX0_popInto cX0_popInto 4 none 3 60 [.ref (h 0), .ref (a 0)] ([(h 0, .inr (0, [.ref (h 1), .int (nI 3), .int (nI sz)])), (h 1, .inl (tA 2, 4, .inr (.inr (.inr (.inr (fun i => some (d i 0)))))))] ++ (stW tA (d 0) (hs 0) ++ (stW tA (d 1) (hs 1) ++ (stW tA (d 2) (hs 2) ++ (stW tA (d 3) (hs 3) ++ (stW tA a s)))))) none ([(h 0, .inr (0, [.ref (h 1), .int (nI 2), .int (nI (sz - 1))])), (h 1, .inl (tA 2, 4, .inr (.inr (.inr (.inr (fun i => some (d i 0)))))))] ++ (stW tA (d 0) (hs 0) ++ (stW tA (d 1) (hs 1) ++ (stW tA (d 2) (hs 2) ++ (stW tA (d 3) (hs 3) ++ (stW tA a (hs 2))))))) := by
  refine kx_void rfl (Nat.le_of_ble_eq_true rfl) (fun G X E => ?_)
  show J l D G 0 0 ([(h 0, .inr (0, [.ref (h 1), .int (nI 3), .int (nI sz)])), (h 1, .inl (tA 2, 4, .inr (.inr (.inr (.inr (fun i => some (d i 0)))))))] ++ (stW tA (d 0) (hs 0) ++ (stW tA (d 1) (hs 1) ++ (stW tA (d 2) (hs 2) ++ (stW tA (d 3) (hs 3) ++ (stW tA a s)))))) [(0, .ref (h 0)), (1, .ref (a 0))] 0 []
  refine j_aload_n (pc := 0) X dX0_popInto_0 rfl (q := 0) rfl ?_
  refine j_get (pc := 1) X (C := RX0) (T := TX0) (N := 3) wz_X0 0 rfl rfl 1 (by decide) wf_X0_22 rfl dX0_popInto_1 ?_
  refine j_iconst (pc := 4) X (v := (nI 4)) dX0_popInto_4 (by decide) ?_
  refine j_iadd (pc := 5) X (v := (nI 7)) dX0_popInto_5 (nI_add _ _) ?_
  refine j_iconst (pc := 6) X (v := (nI 1)) dX0_popInto_6 (by decide) ?_
  refine j_isub (pc := 7) X (v := (nI 6)) dX0_popInto_7 (pk_sub (by omega)) ?_
  refine j_iconst (pc := 8) X (v := (nI 4)) dX0_popInto_8 (by decide) ?_
  refine j_irem (pc := 9) X (v := (nI 2)) dX0_popInto_9 (by decide +kernel) (by decide +kernel) ?_
  refine j_istore_n (pc := 10) X (lv' := [(2, .int (nI 2)), (0, .ref (h 0)), (1, .ref (a 0))]) dX0_popInto_10 rfl (by decide) rfl ?_
  refine j_aload_n (pc := 11) X dX0_popInto_11 rfl (q := 1) rfl ?_
  refine j_iload_n (pc := 12) X dX0_popInto_12 rfl (q := 0) rfl ?_
  refine j_callVR (pc := 13) X (st := [])  (c_X0_stateAt l D tA h d 3 sz 2 (by omega)) cd_X0_stateAt wm_X0_25 0 rfl rfl rfl [0, 1] rfl rfl ⟨Nat.le_of_ble_eq_true rfl, Nat.le_of_ble_eq_true rfl⟩ ⟨Nat.zero_le _, Nat.zero_le _⟩ rfl (Nat.le_of_ble_eq_true rfl) dX0_popInto_13 ?_
  refine j_astore_n (pc := 16) X (lv' := [(3, .ref ((d 2) 0)), (2, .int (nI 2)), (0, .ref (h 0)), (1, .ref (a 0))]) dX0_popInto_16 rfl (by decide) rfl ?_
  refine j_aload_n (pc := 17) X dX0_popInto_17 rfl (q := 2) rfl ?_
  refine j_get (pc := 18) X (C := RX0) (T := TX0) (N := 3) wz_X0 0 rfl rfl 2 (by decide) wf_X0_18 rfl dX0_popInto_18 ?_
  refine j_if_eq_f (pc := 21) X (tgt := 28) dX0_popInto_21 (by decide) (nI_ne0 (by omega) (by omega)) ?_
  refine j_aload_n (pc := 24) X dX0_popInto_24 rfl (q := 0) rfl ?_
  refine j_ifnonnull (pc := 25) X (tgt := 29) dX0_popInto_25 (by decide) ?_
  refine j_aload_n (pc := 29) X dX0_popInto_29 rfl (q := 3) rfl ?_
  refine j_aload_n (pc := 30) X dX0_popInto_30 rfl (q := 0) rfl ?_
  refine j_callVB (pc := 31) X (st := []) (wr := ([(h 0, .inr (0, [.ref (h 1), .int (nI 3), .int (nI sz)])), (h 1, .inl (tA 2, 4, .inr (.inr (.inr (.inr (fun i => some (d i 0)))))))] ++ (stW tA (d 0) (hs 0) ++ (stW tA (d 1) (hs 1) ++ (stW tA (d 3) (hs 3)))))) (w' := ([(h 0, .inr (0, [.ref (h 1), .int (nI 3), .int (nI sz)])), (h 1, .inl (tA 2, 4, .inr (.inr (.inr (.inr (fun i => some (d i 0)))))))] ++ (stW tA (d 0) (hs 0) ++ (stW tA (d 1) (hs 1) ++ (stW tA (d 2) (hs 2) ++ (stW tA (d 3) (hs 3) ++ (stW tA a (hs 2)))))))) (c_X1_copyFrom l D tA a s (d 2) (hs 2) hw (hh 2)) cd_X1_copyFrom wm_X0_29 42 rfl rfl rfl [42, 43, 44, 45, 46, 47, 48, 49, 50, 51, 22, 23, 24, 25, 26, 27, 28, 29, 30, 31] rfl rfl [0, 1, 2, 3, 4, 5, 6, 7, 8, 9, 10, 11, 12, 13, 14, 15, 16, 17, 18, 19, 20, 21, 32, 33, 34, 35, 36, 37, 38, 39, 40, 41] rfl rfl (fst_app (st_fst.trans st_fst.symm) rfl) [20, 21, 22, 23, 24, 25, 26, 27, 28, 29, 30, 31, 32, 33, 34, 35, 36, 37, 38, 39, 40, 41, 10, 11, 12, 13, 14, 15, 16, 17, 18, 19, 42, 43, 44, 45, 46, 47, 48, 49, 50, 51, 0, 1, 2, 3, 4, 5, 6, 7, 8, 9] rfl rfl ⟨Nat.le_of_ble_eq_true rfl, Nat.le_of_ble_eq_true rfl⟩ ⟨Nat.zero_le _, Nat.zero_le _⟩ rfl (Nat.le_of_ble_eq_true rfl) dX0_popInto_31 ?_
  refine j_aload_n (pc := 34) X dX0_popInto_34 rfl (q := 2) rfl ?_
  refine j_iload_n (pc := 35) X dX0_popInto_35 rfl (q := 1) rfl ?_
  refine j_put (pc := 36) X (C := RX0) (T := TX0) (N := 3) wz_X0 tyX0 tyX0_ok nmX0 0 rfl rfl 1 (by decide) wf_X0_22 rfl rfl rfl (Nat.le_of_ble_eq_true rfl) (w' := ([(h 0, .inr (0, [.ref (h 1), .int (nI 2), .int (nI sz)])), (h 1, .inl (tA 2, 4, .inr (.inr (.inr (.inr (fun i => some (d i 0)))))))] ++ (stW tA (d 0) (hs 0) ++ (stW tA (d 1) (hs 1) ++ (stW tA (d 2) (hs 2) ++ (stW tA (d 3) (hs 3) ++ (stW tA a (hs 2)))))))) rfl dX0_popInto_36 ?_
  refine j_aload_n (pc := 39) X dX0_popInto_39 rfl (q := 2) rfl ?_
  refine j_dup (pc := 40) X dX0_popInto_40 rfl ?_
  refine j_get (pc := 41) X (C := RX0) (T := TX0) (N := 3) wz_X0 0 rfl rfl 2 (by decide) wf_X0_18 rfl dX0_popInto_41 ?_
  refine j_iconst (pc := 44) X (v := (nI 1)) dX0_popInto_44 (by decide) ?_
  refine j_isub (pc := 45) X (v := (nI (sz - 1))) dX0_popInto_45 (pk_sub (by omega)) ?_
  refine j_put (pc := 46) X (C := RX0) (T := TX0) (N := 3) wz_X0 tyX0 tyX0_ok nmX0 0 rfl rfl 2 (by decide) wf_X0_18 rfl rfl rfl (Nat.le_of_ble_eq_true rfl) (w' := ([(h 0, .inr (0, [.ref (h 1), .int (nI 2), .int (nI (sz - 1))])), (h 1, .inl (tA 2, 4, .inr (.inr (.inr (.inr (fun i => some (d i 0)))))))] ++ (stW tA (d 0) (hs 0) ++ (stW tA (d 1) (hs 1) ++ (stW tA (d 2) (hs 2) ++ (stW tA (d 3) (hs 3) ++ (stW tA a (hs 2)))))))) rfl dX0_popInto_46 ?_
  exact j_endV (pc := 49) E dX0_popInto_49 rfl
theorem c_X0_push (l : Launch) (D : va_G) (tA : Nat → ClassId) (h : Nat → Nat) (d : Nat → Nat → Nat) (v : Hs) (a : Nat → Nat) (s : Sg) (hnx : v.2.1 < 4) (hsz : v.2.2 ≤ 4) (hh : ∀ i, Wf (v.1 i)) (hw : Wf s) : Kx l D tA yX0_push cX0_push 3 none 3 60 [.ref (h 0), .ref (a 0)] (hsW tA h d v ++ stW tA a s) none (hsW tA h d (hPush v s) ++ stW tA a s) := by
  obtain ⟨hs, nx, sz⟩ := v
  have hnx : nx < 4 := hnx
  rcases (show nx = 0 ∨ nx = 1 ∨ nx = 2 ∨ nx = 3 by omega) with rfl | rfl | rfl | rfl
  · rw [show hPush (hs, 0, sz) s = (va_up hs 0 s, 1, min (sz + 1) 4) by simp [hPush], hs_flat, hs_flat]
    exact c_X0_push_0 l D tA h d hs sz a s hsz hh hw
  · rw [show hPush (hs, 1, sz) s = (va_up hs 1 s, 2, min (sz + 1) 4) by simp [hPush], hs_flat, hs_flat]
    exact c_X0_push_1 l D tA h d hs sz a s hsz hh hw
  · rw [show hPush (hs, 2, sz) s = (va_up hs 2 s, 3, min (sz + 1) 4) by simp [hPush], hs_flat, hs_flat]
    exact c_X0_push_2 l D tA h d hs sz a s hsz hh hw
  · rw [show hPush (hs, 3, sz) s = (va_up hs 3 s, 0, min (sz + 1) 4) by simp [hPush], hs_flat, hs_flat]
    exact c_X0_push_3 l D tA h d hs sz a s hsz hh hw
theorem c_X0_popInto (l : Launch) (D : va_G) (tA : Nat → ClassId) (h : Nat → Nat) (d : Nat → Nat → Nat) (v : Hs) (a : Nat → Nat) (s : Sg) (hnx : v.2.1 < 4) (hsz : v.2.2 ≤ 4) (h0 : 1 ≤ v.2.2) (hh : ∀ i, Wf (v.1 i)) (hw : Wf s) : Kx l D tA yX0_popInto cX0_popInto 4 none 3 60 [.ref (h 0), .ref (a 0)] (hsW tA h d v ++ stW tA a s) none (hsW tA h d (hPop v) ++ stW tA a (v.1 (hLast v))) := by
  obtain ⟨hs, nx, sz⟩ := v
  have hnx : nx < 4 := hnx
  rcases (show nx = 0 ∨ nx = 1 ∨ nx = 2 ∨ nx = 3 by omega) with rfl | rfl | rfl | rfl
  · rw [show hPop (hs, 0, sz) = (hs, 3, sz - 1) by simp [hPop, hLast], show hLast (hs, 0, sz) = 3 by simp [hLast], hs_flat, hs_flat]
    exact c_X0_popInto_0 l D tA h d hs sz a s hsz h0 hh hw
  · rw [show hPop (hs, 1, sz) = (hs, 0, sz - 1) by simp [hPop, hLast], show hLast (hs, 1, sz) = 0 by simp [hLast], hs_flat, hs_flat]
    exact c_X0_popInto_1 l D tA h d hs sz a s hsz h0 hh hw
  · rw [show hPop (hs, 2, sz) = (hs, 1, sz - 1) by simp [hPop, hLast], show hLast (hs, 2, sz) = 1 by simp [hLast], hs_flat, hs_flat]
    exact c_X0_popInto_2 l D tA h d hs sz a s hsz h0 hh hw
  · rw [show hPop (hs, 3, sz) = (hs, 2, sz - 1) by simp [hPop, hLast], show hLast (hs, 3, sz) = 2 by simp [hLast], hs_flat, hs_flat]
    exact c_X0_popInto_3 l D tA h d hs sz a s hsz h0 hh hw
end
section
theorem j_top {l : Launch} {D : va_G} {G : kCx} {n k : Nat} {w : va_W} {lv : List (Nat × Value)} {pc : Nat} {st : List Value} {v v' : Int32} (h : v = v') (kk : J l D G n k w lv pc (.int v' :: st)) : J l D G n k w lv pc (.int v :: st) := h ▸ kk
def txW (tA : Nat → ClassId) (x : Nat → Nat) (c : Nat → Nat) (len p : Nat) (t : Tb) : va_W :=
  [(x 0, .inr (3, [.ref (x 1), .int (nI len), .int (nI p), .ref (x 2)])), (x 1, .inl (tA 1, 60, .inl (nF c))), (x 2, .inr (2, [.ref (x 3), .int (nI 15), .int (nI 2), .int (nI t.1)])), (x 3, .inl (tA 0, 15 * 2, .inl (nF t.2)))]
theorem tx_fst {tA : Nat → ClassId} {x : Nat → Nat} {c : Nat → Nat} {len p : Nat} {t : Tb} : (txW tA x c len p t).map Prod.fst = [x 0, x 1, x 2, x 3] := rfl
theorem cd_X3_length : kCardV yX3_length cX3_length 1 (some .int) 0 := ⟨⟨wc_X3_length, wi_X3, by decide +kernel, by decide +kernel, rfl⟩, wk_X3_length, ws_X3_length⟩
set_option maxHeartbeats 4000000 in
set_option maxRecDepth 100000 in
theorem c_X3_length (l : Launch) (D : va_G) (tA : Nat → ClassId) (x : Nat → Nat) (c : Nat → Nat) (len p : Nat) (t : Tb)   : Kx l D tA yX3_length cX3_length 1 (some .int) 0 0 [.ref (x 0)] (txW tA x c len p t) (some (.int (nI len))) (txW tA x c len p t) := by
  refine kx_int rfl (Nat.le_of_ble_eq_true rfl) (fun G X E => ?_)
  show J l D G 0 0 (txW tA x c len p t) [(0, .ref (x 0))] 0 []
  refine j_aload_n (pc := 0) X dX3_length_0 rfl (q := 0) rfl ?_
  refine j_get (pc := 1) X (C := RX3) (T := TX3) (N := 4) wz_X3 0 rfl rfl 1 (by decide) wf_X3_24 rfl dX3_length_1 ?_
  exact j_endI (pc := 4) E dX3_length_4 rfl rfl
end
section
abbrev Rs : Type := Int32 × Option Sg
abbrev tn (x : Int32) : Nat := x.toNatClampNeg
def aS (s : Sg) (o : Option Sg) : Sg := match o with
  | none => s
  | some s' => s'
def aH (v : Hs) (s : Sg) (o : Option Sg) : Hs := match o with
  | none => v
  | some _ => hPush v s
def oAddMachine (s : Sg) (st bl : Int32) : Rs :=
  if isW st (nI 10) (nI 200) = true ∧ isW bl (nI 0) (nI 12) = true then
    (if (sM s).1 < 5 then (nI (sM s).1, some (pMach s (tn st) (tn bl))) else (-3, none)) else (-2, none)
def oAddMember (s : Sg) : Rs := if (sP s).1 < 8 then (nI (sP s).1, some (uP s (tAdd 2 (sP s)))) else (-3, none)
def oSetWind (s : Sg) (h w : Int32) : Rs :=
  if toCome s h = true then
    (if isW w (nI 0) (nI 99) = true then
      (if sW s (tn h) = tn w then (-5, none) else (nI (sW s (tn h)), some (uW s (va_up (sW s) (tn h) (tn w))))) else (-2, none)) else (-1, none)
def oBook (s : Sg) (p m h ld r : Int32) : Rs :=
  if inR p (sP s).1 = true ∧ inR m (sM s).1 = true ∧ toCome s h = true then
    (if isLft ld r = true then
      (if canT s (tn m) (tn h) (tn ld) (tn r) = true then
        (if (sB s).1 < 30 then (nI (sB s).1, some (placeS (pBook s (tn p) (tn ld) (tn r)) (sB s).1 (tn m) (tn h))) else (-3, none)) else (-4, none)) else (-2, none)) else (-1, none)
def coin (s : Sg) (b : Nat) : Nat := if tGet 8 (sB s) b 2 = sN s then 4 else 0
def canS (s : Sg) (b : Nat) : Sg := uB (payS s (tGet 8 (sB s) b 0) (coin s b)) (tSet 8 (sB s) b 5 3)
def oCancel (s : Sg) (b : Int32) : Rs :=
  if inR b (sB s).1 = true then
    (if tGet 8 (sB s) (tn b) 5 = 0 then (nI (coin s (tn b)), some (canS s (tn b))) else (-4, none)) else (-1, none)
def swpS (s : Sg) (b c : Nat) : Sg := placeS (placeS s b (tGet 8 (sB s) c 1) (tGet 8 (sB s) c 2)) c (tGet 8 (sB s) b 1) (tGet 8 (sB s) b 2)
def oSwap (s : Sg) (b c : Int32) : Rs :=
  if inR b (sB s).1 = true ∧ inR c (sB s).1 = true then
    (if tn b = tn c then (-2, none) else
      (if tGet 8 (sB s) (tn b) 5 = 0 ∧ tGet 8 (sB s) (tn c) 5 = 0 then
        (if brsB s (tGet 8 (sB s) (tn c) 1) (tn b) = true ∧ brsB s (tGet 8 (sB s) (tn b) 1) (tn c) = true then
          (nI (tGet 8 (sB s) (tn c) 2), some (swpS s (tn b) (tn c))) else (-4, none)) else (-4, none))) else (-1, none)
def oOrder (s : Sg) (p fr to mu h : Int32) : Rs :=
  if inR p (sP s).1 = true ∧ inR fr (sM s).1 = true ∧ inR to (sM s).1 = true ∧ toCome s h = true then
    (if isW mu (nI 1) (nI 12) = true ∧ ¬ tn fr = tn to then
      (if (sV s).1 < 10 then (nI (sV s).1, some (pMove s (tn p) (tn fr) (tn to) (tn mu) (tn h))) else (-3, none)) else (-2, none)) else (-1, none)
def oTakeBack (s : Sg) (v : Int32) : Rs :=
  if inR v (sV s).1 = true then (nI ((sV s).1 - 1), some (uV s (tDel 5 (sV s) (tn v)))) else (-1, none)
def pasN : Nat → Sg → Sg × Nat
  | 0, s => (s, 0)
  | n + 1, s => ((psH (pasN n s).1).1, (pasN n s).2 + (psH (pasN n s).1).2)
def oPass (s : Sg) (n : Int32) : Rs :=
  if isW n (nI 1) (nI 20) = true then
    (if sN s + tn n < 200 then (nI (pasN (tn n) s).2, some (pasN (tn n) s).1) else (-4, none)) else (-2, none)
def oRestore (s b : Sg) (k : Bool) : Rs := if k = true then (nI (sN b), some b) else (-5, none)
def oBears (s : Sg) (m r : Int32) : Int32 :=
  if inR m (sM s).1 = true then (if isRad r = true then nI (brn (sM s) (tn m) (tn r)) else (-2)) else (-1)
def oWill (s : Sg) (m r h : Int32) : Rs :=
  if inR m (sM s).1 = true ∧ toCome s h = true then
    (if isRad r = true then (nI (brn (sM (clo 10 s (tn h))) (tn m) (tn r)), some (clo 10 s (tn h))) else (-2, none)) else (-1, none)
def oLimit (ld r : Int32) : Int32 := if isLft ld r = true then nI (limN (tn ld) (tn r)) else (-2)
def cB (s : Sg) (c v st : Nat) : Nat := cntN (fun r => decide (tGet 8 (sB s) r c = v ∧ tGet 8 (sB s) r 5 = st)) (sB s).1
def cS (s : Sg) (st : Nat) : Nat := cntN (fun r => decide (tGet 8 (sB s) r 5 = st)) (sB s).1
def cV (s : Sg) (c v : Nat) : Nat := cntN (fun r => decide (tGet 5 (sV s) r c = v)) (sV s).1
def oMachine (s : Sg) (m w : Int32) : Int32 :=
  if inR m (sM s).1 = true then
    (if w.toInt = 0 then nI (tGet 3 (sM s) (tn m) 0) else if w.toInt = 1 then nI (tGet 3 (sM s) (tn m) 1) else if w.toInt = 2 then nI (cB s 1 (tn m) 0)
     else if w.toInt = 3 then nI (cV s 1 (tn m)) else if w.toInt = 4 then nI (cV s 2 (tn m)) else if w.toInt = 5 then nI (tGet 3 (sM s) (tn m) 2) else if w.toInt = 6 then nI (cB s 1 (tn m) 1) else (-2)) else (-1)
def oMember (s : Sg) (p w : Int32) : Int32 :=
  if inR p (sP s).1 = true then
    (if w.toInt = 0 then nI (tGet 2 (sP s) (tn p) 0) else if w.toInt = 1 then nI (cB s 0 (tn p) 0) else if w.toInt = 2 then nI (cB s 0 (tn p) 1)
     else if w.toInt = 3 then nI (cB s 0 (tn p) 2) else if w.toInt = 4 then nI (cB s 0 (tn p) 3) else if w.toInt = 5 then nI (tGet 2 (sP s) (tn p) 1) else if w.toInt = 6 then nI (cV s 0 (tn p)) else (-2)) else (-1)
def oBooking (s : Sg) (b w : Int32) : Int32 :=
  if inR b (sB s).1 = true then
    (if w.toInt = 8 then nI (limO (sB s) (tn b)) else if isW w (nI 0) (nI 7) = true then nI (tGet 8 (sB s) (tn b) (tn w)) else (-2)) else (-1)
def oMove (s : Sg) (v w : Int32) : Int32 :=
  if inR v (sV s).1 = true then (if isW w (nI 0) (nI 4) = true then nI (tGet 5 (sV s) (tn v) (tn w)) else (-2)) else (-1)
def oBookedAt (s : Sg) (m h : Int32) : Int32 := if inR m (sM s).1 = true ∧ inR h 200 = true then rO (bkF (sB s) (tn m) (tn h)) else (-1)
def oMachineFor (s : Sg) (h ld r : Int32) : Int32 :=
  if toCome s h = true then (if isLft ld r = true then rO (fndN (fun m => canT s m (tn h) (tn ld) (tn r)) (sM s).1) else (-2)) else (-1)
def fatN (s : Sg) (b : Nat) : Nat := if must s b = true then (if caus s b = none then 2 else 1) else 0
def oFate (s : Sg) (b : Int32) : Rs :=
  if inR b (sB s).1 = true then
    (if tGet 8 (sB s) (tn b) 5 = 0 then (nI (fatN (clo 10 s (tGet 8 (sB s) (tn b) 2)) (tn b)), some (clo 10 s (tGet 8 (sB s) (tn b) 2))) else (-4, none)) else (-1, none)
def oWind (s : Sg) (h : Int32) : Int32 := if inR h 200 = true then nI (sW s (tn h)) else (-1)
def oCount (s : Sg) (sz len : Nat) (w : Int32) : Int32 :=
  if w.toInt = 0 then nI (sN s) else if w.toInt = 1 then nI (sM s).1 else if w.toInt = 2 then nI (sP s).1 else if w.toInt = 3 then nI (sB s).1
  else if w.toInt = 4 then nI (cS s 0) else if w.toInt = 5 then nI (cS s 1) else if w.toInt = 6 then nI (cS s 2) else if w.toInt = 7 then nI (cS s 3)
  else if w.toInt = 8 then nI (sV s).1 else if w.toInt = 9 then nI (sD s) else if w.toInt = 10 then nI (sF s)
  else if w.toInt = 11 then nI (sumN (fun r => tGet 2 (sP s) r 0) (sP s).1) else if w.toInt = 12 then nI (sumN (fun r => tGet 2 (sP s) r 1) (sP s).1)
  else if w.toInt = 13 then nI (sX s) else if w.toInt = 14 then nI (sumN (fun r => tGet 3 (sM s) r 1) (sM s).1) else if w.toInt = 15 then nI sz else if w.toInt = 16 then nI len else (-2)
theorem isW_t {x : Int32} {a b : Nat} (ha : a < 2 ^ 31) (hb : b < 2 ^ 31) (h : isW x (nI a) (nI b) = true) : ∃ k : Nat, (a ≤ k ∧ k ≤ b) ∧ x = nI k := by
  simp only [isW, nI_toInt ha, nI_toInt hb, decide_eq_true_eq] at h
  obtain ⟨k, hk, e⟩ := i_in (x := x) (n := b + 1) (by omega) (by omega)
  subst e
  rw [nI_toInt (by omega)] at h
  exact ⟨k, by omega, rfl⟩
theorem toCome_t {s : Sg} {x : Int32} (h : toCome s x = true) : ∃ k : Nat, (sN s ≤ k ∧ k < 200) ∧ x = nI k := by
  simp only [toCome, decide_eq_true_eq] at h
  obtain ⟨k, hk, e⟩ := i_in (x := x) (n := 200) (by omega) (by omega)
  subst e
  rw [nI_toInt (by omega)] at h
  exact ⟨k, by omega, rfl⟩
theorem isRad_t {x : Int32} (h : isRad x = true) : ∃ k : Nat, (2 ≤ k ∧ k ≤ 60) ∧ x = nI k := by
  simp only [isRad, decide_eq_true_eq] at h
  obtain ⟨k, hk, e⟩ := i_in (x := x) (n := 61) (by omega) (by omega)
  subst e
  rw [nI_toInt (by omega)] at h
  exact ⟨k, by omega, rfl⟩
theorem isLft_t {x r : Int32} (h : isLft x r = true) : ∃ k j : Nat, (1 ≤ k ∧ k ≤ 2000 ∧ 2 ≤ j ∧ j ≤ 60) ∧ x = nI k ∧ r = nI j := by
  simp only [isLft, decide_eq_true_eq] at h
  obtain ⟨k, hk, e⟩ := i_in (x := x) (n := 2001) (by omega) (by omega)
  obtain ⟨j, hj, e2⟩ := i_in (x := r) (n := 61) (by omega) (by omega)
  subst e e2
  rw [nI_toInt (by omega), nI_toInt (by omega)] at h
  exact ⟨k, j, by omega, rfl, rfl⟩
theorem tn_nI {k : Nat} (h : k < 2 ^ 31) : tn (nI k) = k := nI_clamp h
theorem nf5 {x : Bool} (h : x = false) : ¬ x = true := by rw [h]; decide
theorem nI_m100 (f : Nat) : nI 4294967196 - nI f = (-100) - nI f := by
  have e : nI 4294967196 = (-100) := by decide +kernel
  rw [e]
end
section
def clW (c : Nat) (a b f h x : Nat → Nat) (k : Bool) : va_W := [(c, .inr (4, [.ref (a 0), .ref (b 0), .ref (f 0), .ref (h 0), .ref (x 0), .int (bI k)]))]
theorem cd_X4_addMachine : kCardV yX4_addMachine cX4_addMachine 3 (some .int) 2 := ⟨⟨wc_X4_addMachine, wi_X4, by decide +kernel, by decide +kernel, rfl⟩, wk_X4_addMachine, ws_X4_addMachine⟩
set_option maxHeartbeats 4000000 in
set_option maxRecDepth 100000 in
theorem c_X4_addMachine (l : Launch) (D : va_G) (tA : Nat → ClassId) (c : Nat) (a b f h x : Nat → Nat) (k : Bool) (s : Sg) (d : Nat → Nat → Nat) (v : Hs) (st0 bl0 : Int32) (hw : Wf s) (hnx : v.2.1 < 4) (hsz : v.2.2 ≤ 4) (hh : ∀ i, Wf (v.1 i)) : Kx l D tA yX4_addMachine cX4_addMachine 3 (some .int) 4 82 [.ref c, .int st0, .int bl0] (clW c a b f h x k ++ (stW tA a s ++ (hsW tA h d v))) (some (.int ((oAddMachine s st0 bl0).1))) (clW c a b f h x k ++ (stW tA a (aS s (oAddMachine s st0 bl0).2) ++ (hsW tA h d (aH v s (oAddMachine s st0 bl0).2)))) := by
  refine kx_int rfl (Nat.le_of_ble_eq_true rfl) (fun G X E => ?_)
  show J l D G 0 0 (clW c a b f h x k ++ (stW tA a s ++ (hsW tA h d v))) [(0, .ref c), (1, .int st0), (2, .int bl0)] 0 []
  have hn := hw.n
  refine j_iload_n (pc := 0) X dX4_addMachine_0 rfl (q := 1) rfl ?_
  refine j_bipush (pc := 1) X (v := (nI 10)) dX4_addMachine_1 (by decide) ?_
  refine j_sipush (pc := 3) X (v := (nI 200)) dX4_addMachine_3 (by decide) ?_
  refine j_callSR (pc := 6) X (st := [])  (c_X4_isWithin l D tA st0 (nI 10) (nI 200) ) cd_X4_isWithin wm_X4_40 rfl [] rfl rfl ⟨Nat.le_of_ble_eq_true rfl, Nat.le_of_ble_eq_true rfl⟩ ⟨Nat.zero_le _, Nat.zero_le _⟩ rfl (Nat.le_of_ble_eq_true rfl) dX4_addMachine_6 ?_
  refine j_if_eq (pc := 9) X (tgt := 22) (P := (isW st0 (nI 10) (nI 200)) = false) dX4_addMachine_9 (by decide) (bI_0 _) (fun h9 => ?_) (fun h9 => ?_)
  · skip
    have h9 := nf5 h9
    refine j_bipush (pc := 22) X (v := (-2)) dX4_addMachine_22 (by decide) ?_
    have e : oAddMachine s st0 bl0 = ((-2), none) := by unfold oAddMachine; rw [if_neg (fun q => h9 q.1)] <;> rfl
    exact j_endI (pc := 24) E dX4_addMachine_24 (by rw [e]) (by rw [e]; rfl)
  · skip
    have h9 := t5 h9
    obtain ⟨st9, hc9, rfl⟩ := isW_t (by omega) (by omega) h9
    have est9 : tn (nI st9) = st9 := tn_nI (by omega)
    refine j_iload_n (pc := 12) X dX4_addMachine_12 rfl (q := 2) rfl ?_
    refine j_iconst (pc := 13) X (v := (nI 0)) dX4_addMachine_13 (by decide) ?_
    refine j_bipush (pc := 14) X (v := (nI 12)) dX4_addMachine_14 (by decide) ?_
    refine j_callSR (pc := 16) X (st := [])  (c_X4_isWithin l D tA bl0 (nI 0) (nI 12) ) cd_X4_isWithin wm_X4_40 rfl [] rfl rfl ⟨Nat.le_of_ble_eq_true rfl, Nat.le_of_ble_eq_true rfl⟩ ⟨Nat.zero_le _, Nat.zero_le _⟩ rfl (Nat.le_of_ble_eq_true rfl) dX4_addMachine_16 ?_
    refine j_if_ne (pc := 19) X (tgt := 25) (P := (isW bl0 (nI 0) (nI 12)) = true) dX4_addMachine_19 (by decide) (bI_n0 _) (fun h19 => ?_) (fun h19 => ?_)
    · skip
      skip
      obtain ⟨bl9, hc19, rfl⟩ := isW_t (by omega) (by omega) h19
      have ebl9 : tn (nI bl9) = bl9 := tn_nI (by omega)
      refine j_aload_n (pc := 25) X dX4_addMachine_25 rfl (q := 0) rfl ?_
      refine j_get (pc := 26) X (C := RX4) (T := TX4) (N := 6) wz_X4 0 rfl rfl 0 (by decide) wf_X4_12 rfl dX4_addMachine_26 ?_
      refine j_get (pc := 29) X (C := RX1) (T := TX1) (N := 9) wz_X1 1 rfl rfl 0 (by decide) wf_X4_44 rfl dX4_addMachine_29 ?_
      refine j_callVR (pc := 32) X (st := [])  (c_X2_isFull l D tA (a 1) (a 6) 5 3 (sM s)  (by first | assumption | omega | decide) (by first | assumption | omega | decide) (by first | assumption | omega | decide)) cd_X2_isFull wm_X4_48 3 rfl rfl rfl [3, 4] rfl rfl ⟨Nat.le_of_ble_eq_true rfl, Nat.le_of_ble_eq_true rfl⟩ ⟨Nat.zero_le _, Nat.zero_le _⟩ rfl (Nat.le_of_ble_eq_true rfl) dX4_addMachine_32 ?_
      refine j_if_eq (pc := 35) X (tgt := 41) (P := (decide (5 ≤ (sM s).1)) = false) dX4_addMachine_35 (by decide) (bI_0 _) (fun h35 => ?_) (fun h35 => ?_)
      · skip
        have h35 := nf5 h35
        have h35 : (sM s).1 < 5 := by simpa using h35
        refine j_aload_n (pc := 41) X dX4_addMachine_41 rfl (q := 0) rfl ?_
        refine j_get (pc := 42) X (C := RX4) (T := TX4) (N := 6) wz_X4 0 rfl rfl 3 (by decide) wf_X4_25 rfl dX4_addMachine_42 ?_
        refine j_aload_n (pc := 45) X dX4_addMachine_45 rfl (q := 0) rfl ?_
        refine j_get (pc := 46) X (C := RX4) (T := TX4) (N := 6) wz_X4 0 rfl rfl 0 (by decide) wf_X4_12 rfl dX4_addMachine_46 ?_
        refine j_callVB (pc := 49) X (st := []) (wr := (clW c a b f h x k)) (w' := (clW c a b f h x k ++ (stW tA a s ++ (hsW tA h d (hPush v s))))) (c_X0_push l D tA h d v a s hnx hsz hh hw) cd_X0_push wm_X4_54 11 rfl rfl rfl [11, 12, 13, 14, 15, 16, 17, 18, 19, 20, 21, 22, 23, 24, 25, 26, 27, 28, 29, 30, 31, 32, 33, 34, 35, 36, 37, 38, 39, 40, 41, 42, 43, 44, 45, 46, 47, 48, 49, 50, 51, 52, 1, 2, 3, 4, 5, 6, 7, 8, 9, 10] rfl rfl [0] rfl rfl (fst_app (hs_fst.trans hs_fst.symm) (st_fst.trans st_fst.symm)) [52, 42, 43, 44, 45, 46, 47, 48, 49, 50, 51, 0, 1, 2, 3, 4, 5, 6, 7, 8, 9, 10, 11, 12, 13, 14, 15, 16, 17, 18, 19, 20, 21, 22, 23, 24, 25, 26, 27, 28, 29, 30, 31, 32, 33, 34, 35, 36, 37, 38, 39, 40, 41] rfl rfl ⟨Nat.le_of_ble_eq_true rfl, Nat.le_of_ble_eq_true rfl⟩ ⟨Nat.zero_le _, Nat.zero_le _⟩ rfl (Nat.le_of_ble_eq_true rfl) dX4_addMachine_49 ?_
        refine j_aload_n (pc := 52) X dX4_addMachine_52 rfl (q := 0) rfl ?_
        refine j_get (pc := 53) X (C := RX4) (T := TX4) (N := 6) wz_X4 0 rfl rfl 0 (by decide) wf_X4_12 rfl dX4_addMachine_53 ?_
        refine j_iload_n (pc := 56) X dX4_addMachine_56 rfl (q := 1) rfl ?_
        refine j_iload_n (pc := 57) X dX4_addMachine_57 rfl (q := 2) rfl ?_
        refine j_callVB (pc := 58) X (st := []) (wr := (clW c a b f h x k ++ (hsW tA h d (hPush v s)))) (w' := (clW c a b f h x k ++ (stW tA a (pMach s st9 bl9) ++ (hsW tA h d (hPush v s))))) (c_X1_putMachine l D tA a s st9 bl9 (by first | assumption | omega | decide)) cd_X1_putMachine wm_X4_58 1 rfl rfl rfl [1, 2, 3, 4, 5, 6, 7, 8, 9, 10] rfl rfl [0, 11, 12, 13, 14, 15, 16, 17, 18, 19, 20, 21, 22, 23, 24, 25, 26, 27, 28, 29, 30, 31, 32, 33, 34, 35, 36, 37, 38, 39, 40, 41, 42, 43, 44, 45, 46, 47, 48, 49, 50, 51, 52] rfl rfl (st_fst.trans st_fst.symm) [10, 0, 1, 2, 3, 4, 5, 6, 7, 8, 9, 11, 12, 13, 14, 15, 16, 17, 18, 19, 20, 21, 22, 23, 24, 25, 26, 27, 28, 29, 30, 31, 32, 33, 34, 35, 36, 37, 38, 39, 40, 41, 42, 43, 44, 45, 46, 47, 48, 49, 50, 51, 52] rfl rfl ⟨Nat.le_of_ble_eq_true rfl, Nat.le_of_ble_eq_true rfl⟩ ⟨Nat.zero_le _, Nat.zero_le _⟩ rfl (Nat.le_of_ble_eq_true rfl) dX4_addMachine_58 ?_
        have e : oAddMachine s (nI st9) (nI bl9) = ((nI ((sM s).1)), (some (pMach s st9 bl9))) := by unfold oAddMachine; simp only [est9, ebl9]; rw [if_pos ⟨h9, h19⟩, if_pos h35] <;> rfl
        exact j_endI (pc := 61) E dX4_addMachine_61 (by rw [e]) (by rw [e]; rfl)
      · skip
        have h35 := t5 h35
        have h35 : ¬ (sM s).1 < 5 := by simpa using h35
        refine j_bipush (pc := 38) X (v := (-3)) dX4_addMachine_38 (by decide) ?_
        have e : oAddMachine s (nI st9) (nI bl9) = ((-3), none) := by unfold oAddMachine; simp only [est9, ebl9]; rw [if_pos ⟨h9, h19⟩, if_neg h35] <;> rfl
        exact j_endI (pc := 40) E dX4_addMachine_40 (by rw [e]) (by rw [e]; rfl)
    · skip
      skip
      refine j_bipush (pc := 22) X (v := (-2)) dX4_addMachine_22 (by decide) ?_
      have e : oAddMachine s (nI st9) bl0 = ((-2), none) := by unfold oAddMachine; simp only [est9]; rw [if_neg (fun q => h19 q.2)] <;> rfl
      exact j_endI (pc := 24) E dX4_addMachine_24 (by rw [e]) (by rw [e]; rfl)
theorem cd_X4_addMember : kCardV yX4_addMember cX4_addMember 1 (some .int) 0 := ⟨⟨wc_X4_addMember, wi_X4, by decide +kernel, by decide +kernel, rfl⟩, wk_X4_addMember, ws_X4_addMember⟩
set_option maxHeartbeats 4000000 in
set_option maxRecDepth 100000 in
theorem c_X4_addMember (l : Launch) (D : va_G) (tA : Nat → ClassId) (c : Nat) (a b f h x : Nat → Nat) (k : Bool) (s : Sg) (d : Nat → Nat → Nat) (v : Hs) (hw : Wf s) (hnx : v.2.1 < 4) (hsz : v.2.2 ≤ 4) (hh : ∀ i, Wf (v.1 i)) : Kx l D tA yX4_addMember cX4_addMember 1 (some .int) 4 82 [.ref c] (clW c a b f h x k ++ (stW tA a s ++ (hsW tA h d v))) (some (.int ((oAddMember s ).1))) (clW c a b f h x k ++ (stW tA a (aS s (oAddMember s ).2) ++ (hsW tA h d (aH v s (oAddMember s ).2)))) := by
  refine kx_int rfl (Nat.le_of_ble_eq_true rfl) (fun G X E => ?_)
  show J l D G 0 0 (clW c a b f h x k ++ (stW tA a s ++ (hsW tA h d v))) [(0, .ref c)] 0 []
  have hn := hw.n
  refine j_aload_n (pc := 0) X dX4_addMember_0 rfl (q := 0) rfl ?_
  refine j_get (pc := 1) X (C := RX4) (T := TX4) (N := 6) wz_X4 0 rfl rfl 0 (by decide) wf_X4_12 rfl dX4_addMember_1 ?_
  refine j_get (pc := 4) X (C := RX1) (T := TX1) (N := 9) wz_X1 1 rfl rfl 1 (by decide) wf_X4_62 rfl dX4_addMember_4 ?_
  refine j_callVR (pc := 7) X (st := [])  (c_X2_isFull l D tA (a 2) (a 7) 8 2 (sP s)  (by first | assumption | omega | decide) (by first | assumption | omega | decide) (by first | assumption | omega | decide)) cd_X2_isFull wm_X4_48 5 rfl rfl rfl [5, 6] rfl rfl ⟨Nat.le_of_ble_eq_true rfl, Nat.le_of_ble_eq_true rfl⟩ ⟨Nat.zero_le _, Nat.zero_le _⟩ rfl (Nat.le_of_ble_eq_true rfl) dX4_addMember_7 ?_
  refine j_if_eq (pc := 10) X (tgt := 16) (P := (decide (8 ≤ (sP s).1)) = false) dX4_addMember_10 (by decide) (bI_0 _) (fun h10 => ?_) (fun h10 => ?_)
  · skip
    have h10 := nf5 h10
    have h10 : (sP s).1 < 8 := by simpa using h10
    refine j_aload_n (pc := 16) X dX4_addMember_16 rfl (q := 0) rfl ?_
    refine j_get (pc := 17) X (C := RX4) (T := TX4) (N := 6) wz_X4 0 rfl rfl 3 (by decide) wf_X4_25 rfl dX4_addMember_17 ?_
    refine j_aload_n (pc := 20) X dX4_addMember_20 rfl (q := 0) rfl ?_
    refine j_get (pc := 21) X (C := RX4) (T := TX4) (N := 6) wz_X4 0 rfl rfl 0 (by decide) wf_X4_12 rfl dX4_addMember_21 ?_
    refine j_callVB (pc := 24) X (st := []) (wr := (clW c a b f h x k)) (w' := (clW c a b f h x k ++ (stW tA a s ++ (hsW tA h d (hPush v s))))) (c_X0_push l D tA h d v a s hnx hsz hh hw) cd_X0_push wm_X4_54 11 rfl rfl rfl [11, 12, 13, 14, 15, 16, 17, 18, 19, 20, 21, 22, 23, 24, 25, 26, 27, 28, 29, 30, 31, 32, 33, 34, 35, 36, 37, 38, 39, 40, 41, 42, 43, 44, 45, 46, 47, 48, 49, 50, 51, 52, 1, 2, 3, 4, 5, 6, 7, 8, 9, 10] rfl rfl [0] rfl rfl (fst_app (hs_fst.trans hs_fst.symm) (st_fst.trans st_fst.symm)) [52, 42, 43, 44, 45, 46, 47, 48, 49, 50, 51, 0, 1, 2, 3, 4, 5, 6, 7, 8, 9, 10, 11, 12, 13, 14, 15, 16, 17, 18, 19, 20, 21, 22, 23, 24, 25, 26, 27, 28, 29, 30, 31, 32, 33, 34, 35, 36, 37, 38, 39, 40, 41] rfl rfl ⟨Nat.le_of_ble_eq_true rfl, Nat.le_of_ble_eq_true rfl⟩ ⟨Nat.zero_le _, Nat.zero_le _⟩ rfl (Nat.le_of_ble_eq_true rfl) dX4_addMember_24 ?_
    refine j_aload_n (pc := 27) X dX4_addMember_27 rfl (q := 0) rfl ?_
    refine j_get (pc := 28) X (C := RX4) (T := TX4) (N := 6) wz_X4 0 rfl rfl 0 (by decide) wf_X4_12 rfl dX4_addMember_28 ?_
    refine j_get (pc := 31) X (C := RX1) (T := TX1) (N := 9) wz_X1 1 rfl rfl 1 (by decide) wf_X4_62 rfl dX4_addMember_31 ?_
    refine j_callV (pc := 34) X (st := []) (w' := (clW c a b f h x k ++ (stW tA a (uP s (tAdd 2 (sP s))) ++ (hsW tA h d (hPush v s))))) (c_X2_addRow l D tA (a 2) (a 7) 8 2 (sP s)  (by first | assumption | omega | decide) (by first | assumption | omega | decide) (by first | assumption | omega | decide) (by first | assumption | omega | decide) (by first | assumption | omega | decide)) cd_X2_addRow wm_X4_65 5 rfl rfl rfl [5, 6] rfl rfl (tb_fst.trans tb_fst.symm) rfl ⟨Nat.le_of_ble_eq_true rfl, Nat.le_of_ble_eq_true rfl⟩ ⟨Nat.zero_le _, Nat.zero_le _⟩ rfl (Nat.le_of_ble_eq_true rfl) dX4_addMember_34 ?_
    have e : oAddMember s  = ((nI ((sP s).1)), (some (uP s (tAdd 2 (sP s))))) := by unfold oAddMember; rw [if_pos h10] <;> rfl
    exact j_endI (pc := 37) E dX4_addMember_37 (by rw [e]) (by rw [e]; rfl)
  · skip
    have h10 := t5 h10
    have h10 : ¬ (sP s).1 < 8 := by simpa using h10
    refine j_bipush (pc := 13) X (v := (-3)) dX4_addMember_13 (by decide) ?_
    have e : oAddMember s  = ((-3), none) := by unfold oAddMember; rw [if_neg h10] <;> rfl
    exact j_endI (pc := 15) E dX4_addMember_15 (by rw [e]) (by rw [e]; rfl)
theorem cd_X4_setWind : kCardV yX4_setWind cX4_setWind 4 (some .int) 2 := ⟨⟨wc_X4_setWind, wi_X4, by decide +kernel, by decide +kernel, rfl⟩, wk_X4_setWind, ws_X4_setWind⟩
set_option maxHeartbeats 4000000 in
set_option maxRecDepth 100000 in
theorem c_X4_setWind (l : Launch) (D : va_G) (tA : Nat → ClassId) (c : Nat) (a b f h x : Nat → Nat) (k : Bool) (s : Sg) (d : Nat → Nat → Nat) (v : Hs) (t0 w0 : Int32) (hw : Wf s) (hnx : v.2.1 < 4) (hsz : v.2.2 ≤ 4) (hh : ∀ i, Wf (v.1 i)) : Kx l D tA yX4_setWind cX4_setWind 4 (some .int) 4 82 [.ref c, .int t0, .int w0] (clW c a b f h x k ++ (stW tA a s ++ (hsW tA h d v))) (some (.int ((oSetWind s t0 w0).1))) (clW c a b f h x k ++ (stW tA a (aS s (oSetWind s t0 w0).2) ++ (hsW tA h d (aH v s (oSetWind s t0 w0).2)))) := by
  refine kx_int rfl (Nat.le_of_ble_eq_true rfl) (fun G X E => ?_)
  show J l D G 0 0 (clW c a b f h x k ++ (stW tA a s ++ (hsW tA h d v))) [(0, .ref c), (1, .int t0), (2, .int w0)] 0 []
  have hn := hw.n
  refine j_aload_n (pc := 0) X dX4_setWind_0 rfl (q := 0) rfl ?_
  refine j_get (pc := 1) X (C := RX4) (T := TX4) (N := 6) wz_X4 0 rfl rfl 0 (by decide) wf_X4_12 rfl dX4_setWind_1 ?_
  refine j_iload_n (pc := 4) X dX4_setWind_4 rfl (q := 1) rfl ?_
  refine j_callVR (pc := 5) X (st := [])  (c_X1_isToCome l D tA a s t0 (by first | assumption | omega | decide)) cd_X1_isToCome wm_X4_69 1 rfl rfl rfl [1, 2, 3, 4, 5, 6, 7, 8, 9, 10] rfl rfl ⟨Nat.le_of_ble_eq_true rfl, Nat.le_of_ble_eq_true rfl⟩ ⟨Nat.zero_le _, Nat.zero_le _⟩ rfl (Nat.le_of_ble_eq_true rfl) dX4_setWind_5 ?_
  refine j_if_ne (pc := 8) X (tgt := 13) (P := (toCome s t0) = true) dX4_setWind_8 (by decide) (bI_n0 _) (fun h8 => ?_) (fun h8 => ?_)
  · skip
    skip
    obtain ⟨tt, hc8, rfl⟩ := toCome_t h8
    have ett : tn (nI tt) = tt := tn_nI (by omega)
    refine j_iload_n (pc := 13) X dX4_setWind_13 rfl (q := 2) rfl ?_
    refine j_iconst (pc := 14) X (v := (nI 0)) dX4_setWind_14 (by decide) ?_
    refine j_bipush (pc := 15) X (v := (nI 99)) dX4_setWind_15 (by decide) ?_
    refine j_callSR (pc := 17) X (st := [])  (c_X4_isWithin l D tA w0 (nI 0) (nI 99) ) cd_X4_isWithin wm_X4_40 rfl [] rfl rfl ⟨Nat.le_of_ble_eq_true rfl, Nat.le_of_ble_eq_true rfl⟩ ⟨Nat.zero_le _, Nat.zero_le _⟩ rfl (Nat.le_of_ble_eq_true rfl) dX4_setWind_17 ?_
    refine j_if_ne (pc := 20) X (tgt := 26) (P := (isW w0 (nI 0) (nI 99)) = true) dX4_setWind_20 (by decide) (bI_n0 _) (fun h20 => ?_) (fun h20 => ?_)
    · skip
      skip
      obtain ⟨ww, hc20, rfl⟩ := isW_t (by omega) (by omega) h20
      have eww : tn (nI ww) = ww := tn_nI (by omega)
      refine j_aload_n (pc := 26) X dX4_setWind_26 rfl (q := 0) rfl ?_
      refine j_get (pc := 27) X (C := RX4) (T := TX4) (N := 6) wz_X4 0 rfl rfl 0 (by decide) wf_X4_12 rfl dX4_setWind_27 ?_
      refine j_iload_n (pc := 30) X dX4_setWind_30 rfl (q := 1) rfl ?_
      refine j_callVR (pc := 31) X (st := [])  (c_X1_windAt l D tA a s tt hc8.2) cd_X1_windAt wm_X4_73 1 rfl rfl rfl [1, 2, 3, 4, 5, 6, 7, 8, 9, 10] rfl rfl ⟨Nat.le_of_ble_eq_true rfl, Nat.le_of_ble_eq_true rfl⟩ ⟨Nat.zero_le _, Nat.zero_le _⟩ rfl (Nat.le_of_ble_eq_true rfl) dX4_setWind_31 ?_
      have hwv := hw.w hc8.2
      refine j_istore_n (pc := 34) X (lv' := [(3, .int (nI ((sW s) tt))), (0, .ref c), (1, .int (nI tt)), (2, .int (nI ww))]) dX4_setWind_34 rfl (by decide) rfl ?_
      refine j_iload_n (pc := 35) X dX4_setWind_35 rfl (q := 0) rfl ?_
      refine j_iload_n (pc := 36) X dX4_setWind_36 rfl (q := 3) rfl ?_
      refine j_icmp_ne (pc := 37) X (tgt := 43) (P := ¬ ((sW s) tt) = ww) dX4_setWind_37 (by decide) (not_congr (nI_eq (by omega) (by omega))) (fun h37 => ?_) (fun h37 => ?_)
      · skip
        refine j_aload_n (pc := 43) X dX4_setWind_43 rfl (q := 1) rfl ?_
        refine j_get (pc := 44) X (C := RX4) (T := TX4) (N := 6) wz_X4 0 rfl rfl 3 (by decide) wf_X4_25 rfl dX4_setWind_44 ?_
        refine j_aload_n (pc := 47) X dX4_setWind_47 rfl (q := 1) rfl ?_
        refine j_get (pc := 48) X (C := RX4) (T := TX4) (N := 6) wz_X4 0 rfl rfl 0 (by decide) wf_X4_12 rfl dX4_setWind_48 ?_
        refine j_callVB (pc := 51) X (st := []) (wr := (clW c a b f h x k)) (w' := (clW c a b f h x k ++ (stW tA a s ++ (hsW tA h d (hPush v s))))) (c_X0_push l D tA h d v a s hnx hsz hh hw) cd_X0_push wm_X4_54 11 rfl rfl rfl [11, 12, 13, 14, 15, 16, 17, 18, 19, 20, 21, 22, 23, 24, 25, 26, 27, 28, 29, 30, 31, 32, 33, 34, 35, 36, 37, 38, 39, 40, 41, 42, 43, 44, 45, 46, 47, 48, 49, 50, 51, 52, 1, 2, 3, 4, 5, 6, 7, 8, 9, 10] rfl rfl [0] rfl rfl (fst_app (hs_fst.trans hs_fst.symm) (st_fst.trans st_fst.symm)) [52, 42, 43, 44, 45, 46, 47, 48, 49, 50, 51, 0, 1, 2, 3, 4, 5, 6, 7, 8, 9, 10, 11, 12, 13, 14, 15, 16, 17, 18, 19, 20, 21, 22, 23, 24, 25, 26, 27, 28, 29, 30, 31, 32, 33, 34, 35, 36, 37, 38, 39, 40, 41] rfl rfl ⟨Nat.le_of_ble_eq_true rfl, Nat.le_of_ble_eq_true rfl⟩ ⟨Nat.zero_le _, Nat.zero_le _⟩ rfl (Nat.le_of_ble_eq_true rfl) dX4_setWind_51 ?_
        refine j_aload_n (pc := 54) X dX4_setWind_54 rfl (q := 1) rfl ?_
        refine j_get (pc := 55) X (C := RX4) (T := TX4) (N := 6) wz_X4 0 rfl rfl 0 (by decide) wf_X4_12 rfl dX4_setWind_55 ?_
        refine j_iload_n (pc := 58) X dX4_setWind_58 rfl (q := 2) rfl ?_
        refine j_iload_n (pc := 59) X dX4_setWind_59 rfl (q := 3) rfl ?_
        refine j_callVB (pc := 60) X (st := []) (wr := (clW c a b f h x k ++ (hsW tA h d (hPush v s)))) (w' := (clW c a b f h x k ++ (stW tA a (uW s (va_up (sW s) tt ww)) ++ (hsW tA h d (hPush v s))))) (c_X1_tellWind l D tA a s tt ww hc8.2) cd_X1_tellWind wm_X4_77 1 rfl rfl rfl [1, 2, 3, 4, 5, 6, 7, 8, 9, 10] rfl rfl [0, 11, 12, 13, 14, 15, 16, 17, 18, 19, 20, 21, 22, 23, 24, 25, 26, 27, 28, 29, 30, 31, 32, 33, 34, 35, 36, 37, 38, 39, 40, 41, 42, 43, 44, 45, 46, 47, 48, 49, 50, 51, 52] rfl rfl (st_fst.trans st_fst.symm) [10, 0, 1, 2, 3, 4, 5, 6, 7, 8, 9, 11, 12, 13, 14, 15, 16, 17, 18, 19, 20, 21, 22, 23, 24, 25, 26, 27, 28, 29, 30, 31, 32, 33, 34, 35, 36, 37, 38, 39, 40, 41, 42, 43, 44, 45, 46, 47, 48, 49, 50, 51, 52] rfl rfl ⟨Nat.le_of_ble_eq_true rfl, Nat.le_of_ble_eq_true rfl⟩ ⟨Nat.zero_le _, Nat.zero_le _⟩ rfl (Nat.le_of_ble_eq_true rfl) dX4_setWind_60 ?_
        refine j_iload_n (pc := 63) X dX4_setWind_63 rfl (q := 0) rfl ?_
        have e : oSetWind s (nI tt) (nI ww) = ((nI ((sW s) tt)), (some (uW s (va_up (sW s) tt ww)))) := by unfold oSetWind; simp only [ett, eww]; rw [if_pos h8, if_pos h20, if_neg h37] <;> rfl
        exact j_endI (pc := 64) E dX4_setWind_64 (by rw [e]) (by rw [e]; rfl)
      · skip
        refine j_bipush (pc := 40) X (v := (-5)) dX4_setWind_40 (by decide) ?_
        have e : oSetWind s (nI tt) (nI ww) = ((-5), none) := by unfold oSetWind; simp only [ett, eww]; rw [if_pos h8, if_pos h20, if_pos (Decidable.not_not.mp h37)] <;> rfl
        exact j_endI (pc := 42) E dX4_setWind_42 (by rw [e]) (by rw [e]; rfl)
    · skip
      skip
      refine j_bipush (pc := 23) X (v := (-2)) dX4_setWind_23 (by decide) ?_
      have e : oSetWind s (nI tt) w0 = ((-2), none) := by unfold oSetWind; simp only [ett]; rw [if_pos h8, if_neg h20] <;> rfl
      exact j_endI (pc := 25) E dX4_setWind_25 (by rw [e]) (by rw [e]; rfl)
  · skip
    skip
    refine j_iconst (pc := 11) X (v := (-1)) dX4_setWind_11 (by decide) ?_
    have e : oSetWind s t0 w0 = ((-1), none) := by unfold oSetWind; rw [if_neg h8] <;> rfl
    exact j_endI (pc := 12) E dX4_setWind_12 (by rw [e]) (by rw [e]; rfl)
theorem cd_X4_book : kCardV yX4_book cX4_book 7 (some .int) 5 := ⟨⟨wc_X4_book, wi_X4, by decide +kernel, by decide +kernel, rfl⟩, wk_X4_book, ws_X4_book⟩
set_option maxHeartbeats 4000000 in
set_option maxRecDepth 100000 in
theorem c_X4_book (l : Launch) (D : va_G) (tA : Nat → ClassId) (c : Nat) (a b f h x : Nat → Nat) (k : Bool) (s : Sg) (d : Nat → Nat → Nat) (v : Hs) (p0 m0 t0 l0 r0 : Int32) (hw : Wf s) (hnx : v.2.1 < 4) (hsz : v.2.2 ≤ 4) (hh : ∀ i, Wf (v.1 i)) : Kx l D tA yX4_book cX4_book 7 (some .int) 4 82 [.ref c, .int p0, .int m0, .int t0, .int l0, .int r0] (clW c a b f h x k ++ (stW tA a s ++ (hsW tA h d v))) (some (.int ((oBook s p0 m0 t0 l0 r0).1))) (clW c a b f h x k ++ (stW tA a (aS s (oBook s p0 m0 t0 l0 r0).2) ++ (hsW tA h d (aH v s (oBook s p0 m0 t0 l0 r0).2)))) := by
  refine kx_int rfl (Nat.le_of_ble_eq_true rfl) (fun G X E => ?_)
  show J l D G 0 0 (clW c a b f h x k ++ (stW tA a s ++ (hsW tA h d v))) [(0, .ref c), (1, .int p0), (2, .int m0), (3, .int t0), (4, .int l0), (5, .int r0)] 0 []
  have hn := hw.n
  refine j_aload_n (pc := 0) X dX4_book_0 rfl (q := 0) rfl ?_
  refine j_get (pc := 1) X (C := RX4) (T := TX4) (N := 6) wz_X4 0 rfl rfl 0 (by decide) wf_X4_12 rfl dX4_book_1 ?_
  refine j_get (pc := 4) X (C := RX1) (T := TX1) (N := 9) wz_X1 1 rfl rfl 1 (by decide) wf_X4_62 rfl dX4_book_4 ?_
  refine j_iload_n (pc := 7) X dX4_book_7 rfl (q := 1) rfl ?_
  refine j_callVR (pc := 8) X (st := [])  (c_X2_has l D tA (a 2) (a 7) 8 2 (sP s) p0 (by first | assumption | omega | decide) (by first | assumption | omega | decide) (by first | assumption | omega | decide)) cd_X2_has wm_X4_81 5 rfl rfl rfl [5, 6] rfl rfl ⟨Nat.le_of_ble_eq_true rfl, Nat.le_of_ble_eq_true rfl⟩ ⟨Nat.zero_le _, Nat.zero_le _⟩ rfl (Nat.le_of_ble_eq_true rfl) dX4_book_8 ?_
  refine j_if_eq (pc := 11) X (tgt := 39) (P := (inR p0 (sP s).1) = false) dX4_book_11 (by decide) (bI_0 _) (fun h11 => ?_) (fun h11 => ?_)
  · skip
    have h11 := nf5 h11
    refine j_iconst (pc := 39) X (v := (-1)) dX4_book_39 (by decide) ?_
    have e : oBook s p0 m0 t0 l0 r0 = ((-1), none) := by unfold oBook; rw [if_neg (fun q => h11 q.1)] <;> rfl
    exact j_endI (pc := 40) E dX4_book_40 (by rw [e]) (by rw [e]; rfl)
  · skip
    have h11 := t5 h11
    obtain ⟨pp, hc11, rfl⟩ := inR_t h11
    have epp : tn (nI pp) = pp := tn_nI (by omega)
    refine j_aload_n (pc := 14) X dX4_book_14 rfl (q := 0) rfl ?_
    refine j_get (pc := 15) X (C := RX4) (T := TX4) (N := 6) wz_X4 0 rfl rfl 0 (by decide) wf_X4_12 rfl dX4_book_15 ?_
    refine j_get (pc := 18) X (C := RX1) (T := TX1) (N := 9) wz_X1 1 rfl rfl 0 (by decide) wf_X4_44 rfl dX4_book_18 ?_
    refine j_iload_n (pc := 21) X dX4_book_21 rfl (q := 2) rfl ?_
    refine j_callVR (pc := 22) X (st := [])  (c_X2_has l D tA (a 1) (a 6) 5 3 (sM s) m0 (by first | assumption | omega | decide) (by first | assumption | omega | decide) (by first | assumption | omega | decide)) cd_X2_has wm_X4_81 3 rfl rfl rfl [3, 4] rfl rfl ⟨Nat.le_of_ble_eq_true rfl, Nat.le_of_ble_eq_true rfl⟩ ⟨Nat.zero_le _, Nat.zero_le _⟩ rfl (Nat.le_of_ble_eq_true rfl) dX4_book_22 ?_
    refine j_if_eq (pc := 25) X (tgt := 39) (P := (inR m0 (sM s).1) = false) dX4_book_25 (by decide) (bI_0 _) (fun h25 => ?_) (fun h25 => ?_)
    · skip
      have h25 := nf5 h25
      refine j_iconst (pc := 39) X (v := (-1)) dX4_book_39 (by decide) ?_
      have e : oBook s (nI pp) m0 t0 l0 r0 = ((-1), none) := by unfold oBook; simp only [epp]; rw [if_neg (fun q => h25 q.2.1)] <;> rfl
      exact j_endI (pc := 40) E dX4_book_40 (by rw [e]) (by rw [e]; rfl)
    · skip
      have h25 := t5 h25
      obtain ⟨mm, hc25, rfl⟩ := inR_t h25
      have emm : tn (nI mm) = mm := tn_nI (by omega)
      refine j_aload_n (pc := 28) X dX4_book_28 rfl (q := 0) rfl ?_
      refine j_get (pc := 29) X (C := RX4) (T := TX4) (N := 6) wz_X4 0 rfl rfl 0 (by decide) wf_X4_12 rfl dX4_book_29 ?_
      refine j_iload_n (pc := 32) X dX4_book_32 rfl (q := 3) rfl ?_
      refine j_callVR (pc := 33) X (st := [])  (c_X1_isToCome l D tA a s t0 (by first | assumption | omega | decide)) cd_X1_isToCome wm_X4_69 1 rfl rfl rfl [1, 2, 3, 4, 5, 6, 7, 8, 9, 10] rfl rfl ⟨Nat.le_of_ble_eq_true rfl, Nat.le_of_ble_eq_true rfl⟩ ⟨Nat.zero_le _, Nat.zero_le _⟩ rfl (Nat.le_of_ble_eq_true rfl) dX4_book_33 ?_
      refine j_if_ne (pc := 36) X (tgt := 41) (P := (toCome s t0) = true) dX4_book_36 (by decide) (bI_n0 _) (fun h36 => ?_) (fun h36 => ?_)
      · skip
        skip
        obtain ⟨tt, hc36, rfl⟩ := toCome_t h36
        have ett : tn (nI tt) = tt := tn_nI (by omega)
        refine j_iload (pc := 41) X dX4_book_41 (q := 4) rfl ?_
        refine j_iload (pc := 43) X dX4_book_43 (q := 5) rfl ?_
        refine j_callSR (pc := 45) X (st := [])  (c_X4_isLift l D tA l0 r0 ) cd_X4_isLift wm_X4_84 rfl [] rfl rfl ⟨Nat.le_of_ble_eq_true rfl, Nat.le_of_ble_eq_true rfl⟩ ⟨Nat.zero_le _, Nat.zero_le _⟩ rfl (Nat.le_of_ble_eq_true rfl) dX4_book_45 ?_
        refine j_if_ne (pc := 48) X (tgt := 54) (P := (isLft l0 r0) = true) dX4_book_48 (by decide) (bI_n0 _) (fun h48 => ?_) (fun h48 => ?_)
        · skip
          skip
          obtain ⟨ll, rr, hc48, rfl, rfl⟩ := isLft_t h48
          have ell : tn (nI ll) = ll := tn_nI (by omega)
          have err : tn (nI rr) = rr := tn_nI (by omega)
          refine j_aload_n (pc := 54) X dX4_book_54 rfl (q := 0) rfl ?_
          refine j_get (pc := 55) X (C := RX4) (T := TX4) (N := 6) wz_X4 0 rfl rfl 0 (by decide) wf_X4_12 rfl dX4_book_55 ?_
          refine j_iload_n (pc := 58) X dX4_book_58 rfl (q := 2) rfl ?_
          refine j_iload_n (pc := 59) X dX4_book_59 rfl (q := 3) rfl ?_
          refine j_iload (pc := 60) X dX4_book_60 (q := 4) rfl ?_
          refine j_iload (pc := 62) X dX4_book_62 (q := 5) rfl ?_
          refine j_callVR (pc := 64) X (st := [])  (c_X1_canTake l D tA a s mm tt ll rr hw hc25 (by omega) (by omega) (by omega)) cd_X1_canTake wm_X4_88 1 rfl rfl rfl [1, 2, 3, 4, 5, 6, 7, 8, 9, 10] rfl rfl ⟨Nat.le_of_ble_eq_true rfl, Nat.le_of_ble_eq_true rfl⟩ ⟨Nat.zero_le _, Nat.zero_le _⟩ rfl (Nat.le_of_ble_eq_true rfl) dX4_book_64 ?_
          refine j_if_ne (pc := 67) X (tgt := 73) (P := (canT s mm tt ll rr) = true) dX4_book_67 (by decide) (bI_n0 _) (fun h67 => ?_) (fun h67 => ?_)
          · skip
            skip
            refine j_aload_n (pc := 73) X dX4_book_73 rfl (q := 0) rfl ?_
            refine j_get (pc := 74) X (C := RX4) (T := TX4) (N := 6) wz_X4 0 rfl rfl 0 (by decide) wf_X4_12 rfl dX4_book_74 ?_
            refine j_get (pc := 77) X (C := RX1) (T := TX1) (N := 9) wz_X1 1 rfl rfl 2 (by decide) wf_X4_92 rfl dX4_book_77 ?_
            refine j_callVR (pc := 80) X (st := [])  (c_X2_isFull l D tA (a 3) (a 8) 30 8 (sB s)  (by first | assumption | omega | decide) (by first | assumption | omega | decide) (by first | assumption | omega | decide)) cd_X2_isFull wm_X4_48 7 rfl rfl rfl [7, 8] rfl rfl ⟨Nat.le_of_ble_eq_true rfl, Nat.le_of_ble_eq_true rfl⟩ ⟨Nat.zero_le _, Nat.zero_le _⟩ rfl (Nat.le_of_ble_eq_true rfl) dX4_book_80 ?_
            refine j_if_eq (pc := 83) X (tgt := 89) (P := (decide (30 ≤ (sB s).1)) = false) dX4_book_83 (by decide) (bI_0 _) (fun h83 => ?_) (fun h83 => ?_)
            · skip
              have h83 := nf5 h83
              have h83 : (sB s).1 < 30 := by simpa using h83
              refine j_aload_n (pc := 89) X dX4_book_89 rfl (q := 0) rfl ?_
              refine j_get (pc := 90) X (C := RX4) (T := TX4) (N := 6) wz_X4 0 rfl rfl 3 (by decide) wf_X4_25 rfl dX4_book_90 ?_
              refine j_aload_n (pc := 93) X dX4_book_93 rfl (q := 0) rfl ?_
              refine j_get (pc := 94) X (C := RX4) (T := TX4) (N := 6) wz_X4 0 rfl rfl 0 (by decide) wf_X4_12 rfl dX4_book_94 ?_
              refine j_callVB (pc := 97) X (st := []) (wr := (clW c a b f h x k)) (w' := (clW c a b f h x k ++ (stW tA a s ++ (hsW tA h d (hPush v s))))) (c_X0_push l D tA h d v a s hnx hsz hh hw) cd_X0_push wm_X4_54 11 rfl rfl rfl [11, 12, 13, 14, 15, 16, 17, 18, 19, 20, 21, 22, 23, 24, 25, 26, 27, 28, 29, 30, 31, 32, 33, 34, 35, 36, 37, 38, 39, 40, 41, 42, 43, 44, 45, 46, 47, 48, 49, 50, 51, 52, 1, 2, 3, 4, 5, 6, 7, 8, 9, 10] rfl rfl [0] rfl rfl (fst_app (hs_fst.trans hs_fst.symm) (st_fst.trans st_fst.symm)) [52, 42, 43, 44, 45, 46, 47, 48, 49, 50, 51, 0, 1, 2, 3, 4, 5, 6, 7, 8, 9, 10, 11, 12, 13, 14, 15, 16, 17, 18, 19, 20, 21, 22, 23, 24, 25, 26, 27, 28, 29, 30, 31, 32, 33, 34, 35, 36, 37, 38, 39, 40, 41] rfl rfl ⟨Nat.le_of_ble_eq_true rfl, Nat.le_of_ble_eq_true rfl⟩ ⟨Nat.zero_le _, Nat.zero_le _⟩ rfl (Nat.le_of_ble_eq_true rfl) dX4_book_97 ?_
              refine j_aload_n (pc := 100) X dX4_book_100 rfl (q := 0) rfl ?_
              refine j_get (pc := 101) X (C := RX4) (T := TX4) (N := 6) wz_X4 0 rfl rfl 0 (by decide) wf_X4_12 rfl dX4_book_101 ?_
              refine j_iload_n (pc := 104) X dX4_book_104 rfl (q := 1) rfl ?_
              refine j_iload (pc := 105) X dX4_book_105 (q := 4) rfl ?_
              refine j_iload (pc := 107) X dX4_book_107 (q := 5) rfl ?_
              refine j_callVB (pc := 109) X (st := []) (wr := (clW c a b f h x k ++ (hsW tA h d (hPush v s)))) (w' := (clW c a b f h x k ++ (stW tA a (pBook s pp ll rr) ++ (hsW tA h d (hPush v s))))) (c_X1_putBooking l D tA a s pp ll rr (by first | assumption | omega | decide)) cd_X1_putBooking wm_X4_95 1 rfl rfl rfl [1, 2, 3, 4, 5, 6, 7, 8, 9, 10] rfl rfl [0, 11, 12, 13, 14, 15, 16, 17, 18, 19, 20, 21, 22, 23, 24, 25, 26, 27, 28, 29, 30, 31, 32, 33, 34, 35, 36, 37, 38, 39, 40, 41, 42, 43, 44, 45, 46, 47, 48, 49, 50, 51, 52] rfl rfl (st_fst.trans st_fst.symm) [10, 0, 1, 2, 3, 4, 5, 6, 7, 8, 9, 11, 12, 13, 14, 15, 16, 17, 18, 19, 20, 21, 22, 23, 24, 25, 26, 27, 28, 29, 30, 31, 32, 33, 34, 35, 36, 37, 38, 39, 40, 41, 42, 43, 44, 45, 46, 47, 48, 49, 50, 51, 52] rfl rfl ⟨Nat.le_of_ble_eq_true rfl, Nat.le_of_ble_eq_true rfl⟩ ⟨Nat.zero_le _, Nat.zero_le _⟩ rfl (Nat.le_of_ble_eq_true rfl) dX4_book_109 ?_
              refine j_istore (pc := 112) X (lv' := [(6, .int (nI ((sB s).1))), (0, .ref c), (1, .int (nI pp)), (2, .int (nI mm)), (3, .int (nI tt)), (4, .int (nI ll)), (5, .int (nI rr))]) dX4_book_112 (by decide) rfl ?_
              refine j_aload_n (pc := 114) X dX4_book_114 rfl (q := 1) rfl ?_
              refine j_get (pc := 115) X (C := RX4) (T := TX4) (N := 6) wz_X4 0 rfl rfl 0 (by decide) wf_X4_12 rfl dX4_book_115 ?_
              refine j_iload (pc := 118) X dX4_book_118 (q := 0) rfl ?_
              refine j_iload_n (pc := 120) X dX4_book_120 rfl (q := 3) rfl ?_
              refine j_iload_n (pc := 121) X dX4_book_121 rfl (q := 4) rfl ?_
              refine j_callVB (pc := 122) X (st := []) (wr := (clW c a b f h x k ++ (hsW tA h d (hPush v s)))) (w' := (clW c a b f h x k ++ (stW tA a (placeS (pBook s pp ll rr) ((sB s).1) mm tt) ++ (hsW tA h d (hPush v s))))) (c_X1_place l D tA a (pBook s pp ll rr) ((sB s).1) mm tt (show (sB s).1 + 1 ≤ 30 by omega) (show (sB s).1 < (sB s).1 + 1 by omega) hc36.2) cd_X1_place wm_X4_99 1 rfl rfl rfl [1, 2, 3, 4, 5, 6, 7, 8, 9, 10] rfl rfl [0, 11, 12, 13, 14, 15, 16, 17, 18, 19, 20, 21, 22, 23, 24, 25, 26, 27, 28, 29, 30, 31, 32, 33, 34, 35, 36, 37, 38, 39, 40, 41, 42, 43, 44, 45, 46, 47, 48, 49, 50, 51, 52] rfl rfl (st_fst.trans st_fst.symm) [10, 0, 1, 2, 3, 4, 5, 6, 7, 8, 9, 11, 12, 13, 14, 15, 16, 17, 18, 19, 20, 21, 22, 23, 24, 25, 26, 27, 28, 29, 30, 31, 32, 33, 34, 35, 36, 37, 38, 39, 40, 41, 42, 43, 44, 45, 46, 47, 48, 49, 50, 51, 52] rfl rfl ⟨Nat.le_of_ble_eq_true rfl, Nat.le_of_ble_eq_true rfl⟩ ⟨Nat.zero_le _, Nat.zero_le _⟩ rfl (Nat.le_of_ble_eq_true rfl) dX4_book_122 ?_
              refine j_iload (pc := 125) X dX4_book_125 (q := 0) rfl ?_
              have e : oBook s (nI pp) (nI mm) (nI tt) (nI ll) (nI rr) = ((nI ((sB s).1)), (some (placeS (pBook s pp ll rr) ((sB s).1) mm tt))) := by unfold oBook; simp only [epp, emm, ett, ell, err]; rw [if_pos ⟨h11, h25, h36⟩, if_pos h48, if_pos h67, if_pos h83] <;> rfl
              exact j_endI (pc := 127) E dX4_book_127 (by rw [e]) (by rw [e]; rfl)
            · skip
              have h83 := t5 h83
              have h83 : ¬ (sB s).1 < 30 := by simpa using h83
              refine j_bipush (pc := 86) X (v := (-3)) dX4_book_86 (by decide) ?_
              have e : oBook s (nI pp) (nI mm) (nI tt) (nI ll) (nI rr) = ((-3), none) := by unfold oBook; simp only [epp, emm, ett, ell, err]; rw [if_pos ⟨h11, h25, h36⟩, if_pos h48, if_pos h67, if_neg h83] <;> rfl
              exact j_endI (pc := 88) E dX4_book_88 (by rw [e]) (by rw [e]; rfl)
          · skip
            skip
            refine j_bipush (pc := 70) X (v := (-4)) dX4_book_70 (by decide) ?_
            have e : oBook s (nI pp) (nI mm) (nI tt) (nI ll) (nI rr) = ((-4), none) := by unfold oBook; simp only [epp, emm, ett, ell, err]; rw [if_pos ⟨h11, h25, h36⟩, if_pos h48, if_neg h67] <;> rfl
            exact j_endI (pc := 72) E dX4_book_72 (by rw [e]) (by rw [e]; rfl)
        · skip
          skip
          refine j_bipush (pc := 51) X (v := (-2)) dX4_book_51 (by decide) ?_
          have e : oBook s (nI pp) (nI mm) (nI tt) l0 r0 = ((-2), none) := by unfold oBook; simp only [epp, emm, ett]; rw [if_pos ⟨h11, h25, h36⟩, if_neg h48] <;> rfl
          exact j_endI (pc := 53) E dX4_book_53 (by rw [e]) (by rw [e]; rfl)
      · skip
        skip
        refine j_iconst (pc := 39) X (v := (-1)) dX4_book_39 (by decide) ?_
        have e : oBook s (nI pp) (nI mm) t0 l0 r0 = ((-1), none) := by unfold oBook; simp only [epp, emm]; rw [if_neg (fun q => h36 q.2.2)] <;> rfl
        exact j_endI (pc := 40) E dX4_book_40 (by rw [e]) (by rw [e]; rfl)
theorem cd_X4_cancel : kCardV yX4_cancel cX4_cancel 3 (some .int) 1 := ⟨⟨wc_X4_cancel, wi_X4, by decide +kernel, by decide +kernel, rfl⟩, wk_X4_cancel, ws_X4_cancel⟩
set_option maxHeartbeats 4000000 in
set_option maxRecDepth 100000 in
theorem c_X4_cancel (l : Launch) (D : va_G) (tA : Nat → ClassId) (c : Nat) (a b f h x : Nat → Nat) (k : Bool) (s : Sg) (d : Nat → Nat → Nat) (v : Hs) (b0 : Int32) (hw : Wf s) (hnx : v.2.1 < 4) (hsz : v.2.2 ≤ 4) (hh : ∀ i, Wf (v.1 i)) : Kx l D tA yX4_cancel cX4_cancel 3 (some .int) 4 82 [.ref c, .int b0] (clW c a b f h x k ++ (stW tA a s ++ (hsW tA h d v))) (some (.int ((oCancel s b0).1))) (clW c a b f h x k ++ (stW tA a (aS s (oCancel s b0).2) ++ (hsW tA h d (aH v s (oCancel s b0).2)))) := by
  refine kx_int rfl (Nat.le_of_ble_eq_true rfl) (fun G X E => ?_)
  show J l D G 0 0 (clW c a b f h x k ++ (stW tA a s ++ (hsW tA h d v))) [(0, .ref c), (1, .int b0)] 0 []
  have hn := hw.n
  refine j_aload_n (pc := 0) X dX4_cancel_0 rfl (q := 0) rfl ?_
  refine j_get (pc := 1) X (C := RX4) (T := TX4) (N := 6) wz_X4 0 rfl rfl 0 (by decide) wf_X4_12 rfl dX4_cancel_1 ?_
  refine j_get (pc := 4) X (C := RX1) (T := TX1) (N := 9) wz_X1 1 rfl rfl 2 (by decide) wf_X4_92 rfl dX4_cancel_4 ?_
  refine j_iload_n (pc := 7) X dX4_cancel_7 rfl (q := 1) rfl ?_
  refine j_callVR (pc := 8) X (st := [])  (c_X2_has l D tA (a 3) (a 8) 30 8 (sB s) b0 (by first | assumption | omega | decide) (by first | assumption | omega | decide) (by first | assumption | omega | decide)) cd_X2_has wm_X4_81 7 rfl rfl rfl [7, 8] rfl rfl ⟨Nat.le_of_ble_eq_true rfl, Nat.le_of_ble_eq_true rfl⟩ ⟨Nat.zero_le _, Nat.zero_le _⟩ rfl (Nat.le_of_ble_eq_true rfl) dX4_cancel_8 ?_
  refine j_if_ne (pc := 11) X (tgt := 16) (P := (inR b0 (sB s).1) = true) dX4_cancel_11 (by decide) (bI_n0 _) (fun h11 => ?_) (fun h11 => ?_)
  · skip
    skip
    obtain ⟨bb, hc11, rfl⟩ := inR_t h11
    have ebb : tn (nI bb) = bb := tn_nI (by omega)
    have hb0 := hw.b hc11
    refine j_aload_n (pc := 16) X dX4_cancel_16 rfl (q := 0) rfl ?_
    refine j_get (pc := 17) X (C := RX4) (T := TX4) (N := 6) wz_X4 0 rfl rfl 0 (by decide) wf_X4_12 rfl dX4_cancel_17 ?_
    refine j_iload_n (pc := 20) X dX4_cancel_20 rfl (q := 1) rfl ?_
    refine j_callVR (pc := 21) X (st := [])  (c_X1_isBooked l D tA a s bb (by first | assumption | omega | decide) (by first | assumption | omega | decide)) cd_X1_isBooked wm_X4_103 1 rfl rfl rfl [1, 2, 3, 4, 5, 6, 7, 8, 9, 10] rfl rfl ⟨Nat.le_of_ble_eq_true rfl, Nat.le_of_ble_eq_true rfl⟩ ⟨Nat.zero_le _, Nat.zero_le _⟩ rfl (Nat.le_of_ble_eq_true rfl) dX4_cancel_21 ?_
    refine j_if_ne (pc := 24) X (tgt := 30) (P := (decide (tGet 8 (sB s) bb 5 = 0)) = true) dX4_cancel_24 (by decide) (bI_n0 _) (fun h24 => ?_) (fun h24 => ?_)
    · skip
      skip
      have h24 : tGet 8 (sB s) bb 5 = 0 := by simpa using h24
      refine j_aload_n (pc := 30) X dX4_cancel_30 rfl (q := 0) rfl ?_
      refine j_get (pc := 31) X (C := RX4) (T := TX4) (N := 6) wz_X4 0 rfl rfl 3 (by decide) wf_X4_25 rfl dX4_cancel_31 ?_
      refine j_aload_n (pc := 34) X dX4_cancel_34 rfl (q := 0) rfl ?_
      refine j_get (pc := 35) X (C := RX4) (T := TX4) (N := 6) wz_X4 0 rfl rfl 0 (by decide) wf_X4_12 rfl dX4_cancel_35 ?_
      refine j_callVB (pc := 38) X (st := []) (wr := (clW c a b f h x k)) (w' := (clW c a b f h x k ++ (stW tA a s ++ (hsW tA h d (hPush v s))))) (c_X0_push l D tA h d v a s hnx hsz hh hw) cd_X0_push wm_X4_54 11 rfl rfl rfl [11, 12, 13, 14, 15, 16, 17, 18, 19, 20, 21, 22, 23, 24, 25, 26, 27, 28, 29, 30, 31, 32, 33, 34, 35, 36, 37, 38, 39, 40, 41, 42, 43, 44, 45, 46, 47, 48, 49, 50, 51, 52, 1, 2, 3, 4, 5, 6, 7, 8, 9, 10] rfl rfl [0] rfl rfl (fst_app (hs_fst.trans hs_fst.symm) (st_fst.trans st_fst.symm)) [52, 42, 43, 44, 45, 46, 47, 48, 49, 50, 51, 0, 1, 2, 3, 4, 5, 6, 7, 8, 9, 10, 11, 12, 13, 14, 15, 16, 17, 18, 19, 20, 21, 22, 23, 24, 25, 26, 27, 28, 29, 30, 31, 32, 33, 34, 35, 36, 37, 38, 39, 40, 41] rfl rfl ⟨Nat.le_of_ble_eq_true rfl, Nat.le_of_ble_eq_true rfl⟩ ⟨Nat.zero_le _, Nat.zero_le _⟩ rfl (Nat.le_of_ble_eq_true rfl) dX4_cancel_38 ?_
      refine j_aload_n (pc := 41) X dX4_cancel_41 rfl (q := 0) rfl ?_
      refine j_get (pc := 42) X (C := RX4) (T := TX4) (N := 6) wz_X4 0 rfl rfl 0 (by decide) wf_X4_12 rfl dX4_cancel_42 ?_
      refine j_get (pc := 45) X (C := RX1) (T := TX1) (N := 9) wz_X1 1 rfl rfl 2 (by decide) wf_X4_92 rfl dX4_cancel_45 ?_
      refine j_iload_n (pc := 48) X dX4_cancel_48 rfl (q := 1) rfl ?_
      refine j_iconst (pc := 49) X (v := (nI 2)) dX4_cancel_49 (by decide) ?_
      refine j_callVR (pc := 50) X (st := [])  (c_X2_get l D tA (a 3) (a 8) 30 8 (sB s) bb 2 (by first | assumption | omega | decide) (by first | assumption | omega | decide) (by first | assumption | omega | decide) (by first | assumption | omega | decide) (by first | assumption | omega | decide) (by first | assumption | omega | decide)) cd_X2_get wm_X4_106 7 rfl rfl rfl [7, 8] rfl rfl ⟨Nat.le_of_ble_eq_true rfl, Nat.le_of_ble_eq_true rfl⟩ ⟨Nat.zero_le _, Nat.zero_le _⟩ rfl (Nat.le_of_ble_eq_true rfl) dX4_cancel_50 ?_
      refine j_aload_n (pc := 53) X dX4_cancel_53 rfl (q := 0) rfl ?_
      refine j_get (pc := 54) X (C := RX4) (T := TX4) (N := 6) wz_X4 0 rfl rfl 0 (by decide) wf_X4_12 rfl dX4_cancel_54 ?_
      refine j_get (pc := 57) X (C := RX1) (T := TX1) (N := 9) wz_X1 1 rfl rfl 5 (by decide) wf_X4_109 rfl dX4_cancel_57 ?_
      refine j_icmp_ne (pc := 60) X (tgt := 67) (P := ¬ (tGet 8 (sB s) bb 2) = (sN s)) dX4_cancel_60 (by decide) (not_congr (nI_eq (by omega) (by omega))) (fun h60 => ?_) (fun h60 => ?_)
      · skip
        refine j_iconst (pc := 67) X (v := (nI 0)) dX4_cancel_67 (by decide) ?_
        refine j_top (v' := nI (coin s bb)) (by rw [coin, if_neg h60]) ?_
        refine j_istore_n (pc := 68) X (lv' := [(2, .int (nI (coin s bb))), (0, .ref c), (1, .int (nI bb))]) dX4_cancel_68 rfl (by decide) rfl ?_
        refine j_aload_n (pc := 69) X dX4_cancel_69 rfl (q := 1) rfl ?_
        refine j_get (pc := 70) X (C := RX4) (T := TX4) (N := 6) wz_X4 0 rfl rfl 0 (by decide) wf_X4_12 rfl dX4_cancel_70 ?_
        refine j_aload_n (pc := 73) X dX4_cancel_73 rfl (q := 1) rfl ?_
        refine j_get (pc := 74) X (C := RX4) (T := TX4) (N := 6) wz_X4 0 rfl rfl 0 (by decide) wf_X4_12 rfl dX4_cancel_74 ?_
        refine j_get (pc := 77) X (C := RX1) (T := TX1) (N := 9) wz_X1 1 rfl rfl 2 (by decide) wf_X4_92 rfl dX4_cancel_77 ?_
        refine j_iload_n (pc := 80) X dX4_cancel_80 rfl (q := 2) rfl ?_
        refine j_iconst (pc := 81) X (v := (nI 0)) dX4_cancel_81 (by decide) ?_
        refine j_callVR (pc := 82) X (st := [.ref (a 0)])  (c_X2_get l D tA (a 3) (a 8) 30 8 (sB s) bb 0 (by first | assumption | omega | decide) (by first | assumption | omega | decide) (by first | assumption | omega | decide) (by first | assumption | omega | decide) (by first | assumption | omega | decide) (by first | assumption | omega | decide)) cd_X2_get wm_X4_106 7 rfl rfl rfl [7, 8] rfl rfl ⟨Nat.le_of_ble_eq_true rfl, Nat.le_of_ble_eq_true rfl⟩ ⟨Nat.zero_le _, Nat.zero_le _⟩ rfl (Nat.le_of_ble_eq_true rfl) dX4_cancel_82 ?_
        refine j_iload_n (pc := 85) X dX4_cancel_85 rfl (q := 0) rfl ?_
        refine j_callVB (pc := 86) X (st := []) (wr := (clW c a b f h x k ++ (hsW tA h d (hPush v s)))) (w' := (clW c a b f h x k ++ (stW tA a (payS s (tGet 8 (sB s) bb 0) (coin s bb)) ++ (hsW tA h d (hPush v s))))) (c_X1_pay l D tA a s (tGet 8 (sB s) bb 0) (coin s bb) (by omega) hb0.1) cd_X1_pay wm_X4_113 1 rfl rfl rfl [1, 2, 3, 4, 5, 6, 7, 8, 9, 10] rfl rfl [0, 11, 12, 13, 14, 15, 16, 17, 18, 19, 20, 21, 22, 23, 24, 25, 26, 27, 28, 29, 30, 31, 32, 33, 34, 35, 36, 37, 38, 39, 40, 41, 42, 43, 44, 45, 46, 47, 48, 49, 50, 51, 52] rfl rfl (st_fst.trans st_fst.symm) [10, 0, 1, 2, 3, 4, 5, 6, 7, 8, 9, 11, 12, 13, 14, 15, 16, 17, 18, 19, 20, 21, 22, 23, 24, 25, 26, 27, 28, 29, 30, 31, 32, 33, 34, 35, 36, 37, 38, 39, 40, 41, 42, 43, 44, 45, 46, 47, 48, 49, 50, 51, 52] rfl rfl ⟨Nat.le_of_ble_eq_true rfl, Nat.le_of_ble_eq_true rfl⟩ ⟨Nat.zero_le _, Nat.zero_le _⟩ rfl (Nat.le_of_ble_eq_true rfl) dX4_cancel_86 ?_
        refine j_aload_n (pc := 89) X dX4_cancel_89 rfl (q := 1) rfl ?_
        refine j_get (pc := 90) X (C := RX4) (T := TX4) (N := 6) wz_X4 0 rfl rfl 0 (by decide) wf_X4_12 rfl dX4_cancel_90 ?_
        refine j_get (pc := 93) X (C := RX1) (T := TX1) (N := 9) wz_X1 1 rfl rfl 2 (by decide) wf_X4_92 rfl dX4_cancel_93 ?_
        refine j_iload_n (pc := 96) X dX4_cancel_96 rfl (q := 2) rfl ?_
        refine j_iconst (pc := 97) X (v := (nI 5)) dX4_cancel_97 (by decide) ?_
        refine j_iconst (pc := 98) X (v := (nI 3)) dX4_cancel_98 (by decide) ?_
        refine j_callV (pc := 99) X (st := []) (w' := (clW c a b f h x k ++ (stW tA a (uB (payS s (tGet 8 (sB s) bb 0) (coin s bb)) (tSet 8 (sB (payS s (tGet 8 (sB s) bb 0) (coin s bb))) bb 5 3)) ++ (hsW tA h d (hPush v s))))) (c_X2_set l D tA (a 3) (a 8) 30 8 (sB (payS s (tGet 8 (sB s) bb 0) (coin s bb))) bb 5 3 (by decide) (by decide) (show (sB s).1 ≤ 30 by omega) (show bb < (sB s).1 from hc11) (by decide) (by decide)) cd_X2_set wm_X4_116 7 rfl rfl rfl [7, 8] rfl rfl (tb_fst.trans tb_fst.symm) rfl ⟨Nat.le_of_ble_eq_true rfl, Nat.le_of_ble_eq_true rfl⟩ ⟨Nat.zero_le _, Nat.zero_le _⟩ rfl (Nat.le_of_ble_eq_true rfl) dX4_cancel_99 ?_
        refine j_iload_n (pc := 102) X dX4_cancel_102 rfl (q := 0) rfl ?_
        have e : oCancel s (nI bb) = ((nI (coin s bb)), (some (uB (payS s (tGet 8 (sB s) bb 0) (coin s bb)) (tSet 8 (sB (payS s (tGet 8 (sB s) bb 0) (coin s bb))) bb 5 3)))) := by unfold oCancel; simp only [ebb]; rw [if_pos h11, if_pos h24] <;> rfl
        exact j_endI (pc := 103) E dX4_cancel_103 (by rw [e]) (by rw [e]; rfl)
      · skip
        refine j_iconst (pc := 63) X (v := (nI 4)) dX4_cancel_63 (by decide) ?_
        refine j_goto (pc := 64) X (tgt := 68) dX4_cancel_64 (by decide) ?_
        refine j_top (v' := nI (coin s bb)) (by rw [coin, if_pos (Decidable.not_not.mp h60)]) ?_
        refine j_istore_n (pc := 68) X (lv' := [(2, .int (nI (coin s bb))), (0, .ref c), (1, .int (nI bb))]) dX4_cancel_68 rfl (by decide) rfl ?_
        refine j_aload_n (pc := 69) X dX4_cancel_69 rfl (q := 1) rfl ?_
        refine j_get (pc := 70) X (C := RX4) (T := TX4) (N := 6) wz_X4 0 rfl rfl 0 (by decide) wf_X4_12 rfl dX4_cancel_70 ?_
        refine j_aload_n (pc := 73) X dX4_cancel_73 rfl (q := 1) rfl ?_
        refine j_get (pc := 74) X (C := RX4) (T := TX4) (N := 6) wz_X4 0 rfl rfl 0 (by decide) wf_X4_12 rfl dX4_cancel_74 ?_
        refine j_get (pc := 77) X (C := RX1) (T := TX1) (N := 9) wz_X1 1 rfl rfl 2 (by decide) wf_X4_92 rfl dX4_cancel_77 ?_
        refine j_iload_n (pc := 80) X dX4_cancel_80 rfl (q := 2) rfl ?_
        refine j_iconst (pc := 81) X (v := (nI 0)) dX4_cancel_81 (by decide) ?_
        refine j_callVR (pc := 82) X (st := [.ref (a 0)])  (c_X2_get l D tA (a 3) (a 8) 30 8 (sB s) bb 0 (by first | assumption | omega | decide) (by first | assumption | omega | decide) (by first | assumption | omega | decide) (by first | assumption | omega | decide) (by first | assumption | omega | decide) (by first | assumption | omega | decide)) cd_X2_get wm_X4_106 7 rfl rfl rfl [7, 8] rfl rfl ⟨Nat.le_of_ble_eq_true rfl, Nat.le_of_ble_eq_true rfl⟩ ⟨Nat.zero_le _, Nat.zero_le _⟩ rfl (Nat.le_of_ble_eq_true rfl) dX4_cancel_82 ?_
        refine j_iload_n (pc := 85) X dX4_cancel_85 rfl (q := 0) rfl ?_
        refine j_callVB (pc := 86) X (st := []) (wr := (clW c a b f h x k ++ (hsW tA h d (hPush v s)))) (w' := (clW c a b f h x k ++ (stW tA a (payS s (tGet 8 (sB s) bb 0) (coin s bb)) ++ (hsW tA h d (hPush v s))))) (c_X1_pay l D tA a s (tGet 8 (sB s) bb 0) (coin s bb) (by omega) hb0.1) cd_X1_pay wm_X4_113 1 rfl rfl rfl [1, 2, 3, 4, 5, 6, 7, 8, 9, 10] rfl rfl [0, 11, 12, 13, 14, 15, 16, 17, 18, 19, 20, 21, 22, 23, 24, 25, 26, 27, 28, 29, 30, 31, 32, 33, 34, 35, 36, 37, 38, 39, 40, 41, 42, 43, 44, 45, 46, 47, 48, 49, 50, 51, 52] rfl rfl (st_fst.trans st_fst.symm) [10, 0, 1, 2, 3, 4, 5, 6, 7, 8, 9, 11, 12, 13, 14, 15, 16, 17, 18, 19, 20, 21, 22, 23, 24, 25, 26, 27, 28, 29, 30, 31, 32, 33, 34, 35, 36, 37, 38, 39, 40, 41, 42, 43, 44, 45, 46, 47, 48, 49, 50, 51, 52] rfl rfl ⟨Nat.le_of_ble_eq_true rfl, Nat.le_of_ble_eq_true rfl⟩ ⟨Nat.zero_le _, Nat.zero_le _⟩ rfl (Nat.le_of_ble_eq_true rfl) dX4_cancel_86 ?_
        refine j_aload_n (pc := 89) X dX4_cancel_89 rfl (q := 1) rfl ?_
        refine j_get (pc := 90) X (C := RX4) (T := TX4) (N := 6) wz_X4 0 rfl rfl 0 (by decide) wf_X4_12 rfl dX4_cancel_90 ?_
        refine j_get (pc := 93) X (C := RX1) (T := TX1) (N := 9) wz_X1 1 rfl rfl 2 (by decide) wf_X4_92 rfl dX4_cancel_93 ?_
        refine j_iload_n (pc := 96) X dX4_cancel_96 rfl (q := 2) rfl ?_
        refine j_iconst (pc := 97) X (v := (nI 5)) dX4_cancel_97 (by decide) ?_
        refine j_iconst (pc := 98) X (v := (nI 3)) dX4_cancel_98 (by decide) ?_
        refine j_callV (pc := 99) X (st := []) (w' := (clW c a b f h x k ++ (stW tA a (uB (payS s (tGet 8 (sB s) bb 0) (coin s bb)) (tSet 8 (sB (payS s (tGet 8 (sB s) bb 0) (coin s bb))) bb 5 3)) ++ (hsW tA h d (hPush v s))))) (c_X2_set l D tA (a 3) (a 8) 30 8 (sB (payS s (tGet 8 (sB s) bb 0) (coin s bb))) bb 5 3 (by decide) (by decide) (show (sB s).1 ≤ 30 by omega) (show bb < (sB s).1 from hc11) (by decide) (by decide)) cd_X2_set wm_X4_116 7 rfl rfl rfl [7, 8] rfl rfl (tb_fst.trans tb_fst.symm) rfl ⟨Nat.le_of_ble_eq_true rfl, Nat.le_of_ble_eq_true rfl⟩ ⟨Nat.zero_le _, Nat.zero_le _⟩ rfl (Nat.le_of_ble_eq_true rfl) dX4_cancel_99 ?_
        refine j_iload_n (pc := 102) X dX4_cancel_102 rfl (q := 0) rfl ?_
        have e : oCancel s (nI bb) = ((nI (coin s bb)), (some (uB (payS s (tGet 8 (sB s) bb 0) (coin s bb)) (tSet 8 (sB (payS s (tGet 8 (sB s) bb 0) (coin s bb))) bb 5 3)))) := by unfold oCancel; simp only [ebb]; rw [if_pos h11, if_pos h24] <;> rfl
        exact j_endI (pc := 103) E dX4_cancel_103 (by rw [e]) (by rw [e]; rfl)
    · skip
      skip
      have h24 : ¬ tGet 8 (sB s) bb 5 = 0 := by simpa using h24
      refine j_bipush (pc := 27) X (v := (-4)) dX4_cancel_27 (by decide) ?_
      have e : oCancel s (nI bb) = ((-4), none) := by unfold oCancel; simp only [ebb]; rw [if_pos h11, if_neg h24] <;> rfl
      exact j_endI (pc := 29) E dX4_cancel_29 (by rw [e]) (by rw [e]; rfl)
  · skip
    skip
    refine j_iconst (pc := 14) X (v := (-1)) dX4_cancel_14 (by decide) ?_
    have e : oCancel s b0 = ((-1), none) := by unfold oCancel; rw [if_neg h11] <;> rfl
    exact j_endI (pc := 15) E dX4_cancel_15 (by rw [e]) (by rw [e]; rfl)
theorem cd_X4_swap : kCardV yX4_swap cX4_swap 7 (some .int) 2 := ⟨⟨wc_X4_swap, wi_X4, by decide +kernel, by decide +kernel, rfl⟩, wk_X4_swap, ws_X4_swap⟩
set_option maxHeartbeats 4000000 in
set_option maxRecDepth 100000 in
theorem c_X4_swap (l : Launch) (D : va_G) (tA : Nat → ClassId) (c : Nat) (a b f h x : Nat → Nat) (k : Bool) (s : Sg) (d : Nat → Nat → Nat) (v : Hs) (b0 c0 : Int32) (hw : Wf s) (hnx : v.2.1 < 4) (hsz : v.2.2 ≤ 4) (hh : ∀ i, Wf (v.1 i)) : Kx l D tA yX4_swap cX4_swap 7 (some .int) 4 82 [.ref c, .int b0, .int c0] (clW c a b f h x k ++ (stW tA a s ++ (hsW tA h d v))) (some (.int ((oSwap s b0 c0).1))) (clW c a b f h x k ++ (stW tA a (aS s (oSwap s b0 c0).2) ++ (hsW tA h d (aH v s (oSwap s b0 c0).2)))) := by
  refine kx_int rfl (Nat.le_of_ble_eq_true rfl) (fun G X E => ?_)
  show J l D G 0 0 (clW c a b f h x k ++ (stW tA a s ++ (hsW tA h d v))) [(0, .ref c), (1, .int b0), (2, .int c0)] 0 []
  have hn := hw.n
  refine j_aload_n (pc := 0) X dX4_swap_0 rfl (q := 0) rfl ?_
  refine j_get (pc := 1) X (C := RX4) (T := TX4) (N := 6) wz_X4 0 rfl rfl 0 (by decide) wf_X4_12 rfl dX4_swap_1 ?_
  refine j_get (pc := 4) X (C := RX1) (T := TX1) (N := 9) wz_X1 1 rfl rfl 2 (by decide) wf_X4_92 rfl dX4_swap_4 ?_
  refine j_iload_n (pc := 7) X dX4_swap_7 rfl (q := 1) rfl ?_
  refine j_callVR (pc := 8) X (st := [])  (c_X2_has l D tA (a 3) (a 8) 30 8 (sB s) b0 (by first | assumption | omega | decide) (by first | assumption | omega | decide) (by first | assumption | omega | decide)) cd_X2_has wm_X4_81 7 rfl rfl rfl [7, 8] rfl rfl ⟨Nat.le_of_ble_eq_true rfl, Nat.le_of_ble_eq_true rfl⟩ ⟨Nat.zero_le _, Nat.zero_le _⟩ rfl (Nat.le_of_ble_eq_true rfl) dX4_swap_8 ?_
  refine j_if_eq (pc := 11) X (tgt := 28) (P := (inR b0 (sB s).1) = false) dX4_swap_11 (by decide) (bI_0 _) (fun h11 => ?_) (fun h11 => ?_)
  · skip
    have h11 := nf5 h11
    refine j_iconst (pc := 28) X (v := (-1)) dX4_swap_28 (by decide) ?_
    have e : oSwap s b0 c0 = ((-1), none) := by unfold oSwap; rw [if_neg (fun q => h11 q.1)] <;> rfl
    exact j_endI (pc := 29) E dX4_swap_29 (by rw [e]) (by rw [e]; rfl)
  · skip
    have h11 := t5 h11
    obtain ⟨bb, hc11, rfl⟩ := inR_t h11
    have ebb : tn (nI bb) = bb := tn_nI (by omega)
    have hb0 := hw.b hc11
    refine j_aload_n (pc := 14) X dX4_swap_14 rfl (q := 0) rfl ?_
    refine j_get (pc := 15) X (C := RX4) (T := TX4) (N := 6) wz_X4 0 rfl rfl 0 (by decide) wf_X4_12 rfl dX4_swap_15 ?_
    refine j_get (pc := 18) X (C := RX1) (T := TX1) (N := 9) wz_X1 1 rfl rfl 2 (by decide) wf_X4_92 rfl dX4_swap_18 ?_
    refine j_iload_n (pc := 21) X dX4_swap_21 rfl (q := 2) rfl ?_
    refine j_callVR (pc := 22) X (st := [])  (c_X2_has l D tA (a 3) (a 8) 30 8 (sB s) c0 (by first | assumption | omega | decide) (by first | assumption | omega | decide) (by first | assumption | omega | decide)) cd_X2_has wm_X4_81 7 rfl rfl rfl [7, 8] rfl rfl ⟨Nat.le_of_ble_eq_true rfl, Nat.le_of_ble_eq_true rfl⟩ ⟨Nat.zero_le _, Nat.zero_le _⟩ rfl (Nat.le_of_ble_eq_true rfl) dX4_swap_22 ?_
    refine j_if_ne (pc := 25) X (tgt := 30) (P := (inR c0 (sB s).1) = true) dX4_swap_25 (by decide) (bI_n0 _) (fun h25 => ?_) (fun h25 => ?_)
    · skip
      skip
      obtain ⟨ce, hc25, rfl⟩ := inR_t h25
      have ece : tn (nI ce) = ce := tn_nI (by omega)
      have hd0 := hw.b hc25
      refine j_iload_n (pc := 30) X dX4_swap_30 rfl (q := 1) rfl ?_
      refine j_iload_n (pc := 31) X dX4_swap_31 rfl (q := 2) rfl ?_
      refine j_icmp_ne (pc := 32) X (tgt := 38) (P := ¬ bb = ce) dX4_swap_32 (by decide) (not_congr (nI_eq (by omega) (by omega))) (fun h32 => ?_) (fun h32 => ?_)
      · skip
        refine j_aload_n (pc := 38) X dX4_swap_38 rfl (q := 0) rfl ?_
        refine j_get (pc := 39) X (C := RX4) (T := TX4) (N := 6) wz_X4 0 rfl rfl 0 (by decide) wf_X4_12 rfl dX4_swap_39 ?_
        refine j_iload_n (pc := 42) X dX4_swap_42 rfl (q := 1) rfl ?_
        refine j_callVR (pc := 43) X (st := [])  (c_X1_isBooked l D tA a s bb (by first | assumption | omega | decide) (by first | assumption | omega | decide)) cd_X1_isBooked wm_X4_103 1 rfl rfl rfl [1, 2, 3, 4, 5, 6, 7, 8, 9, 10] rfl rfl ⟨Nat.le_of_ble_eq_true rfl, Nat.le_of_ble_eq_true rfl⟩ ⟨Nat.zero_le _, Nat.zero_le _⟩ rfl (Nat.le_of_ble_eq_true rfl) dX4_swap_43 ?_
        refine j_if_eq (pc := 46) X (tgt := 60) (P := (decide (tGet 8 (sB s) bb 5 = 0)) = false) dX4_swap_46 (by decide) (bI_0 _) (fun h46 => ?_) (fun h46 => ?_)
        · skip
          have h46 := nf5 h46
          have h46 : ¬ tGet 8 (sB s) bb 5 = 0 := by simpa using h46
          refine j_bipush (pc := 60) X (v := (-4)) dX4_swap_60 (by decide) ?_
          have e : oSwap s (nI bb) (nI ce) = ((-4), none) := by unfold oSwap; simp only [ebb, ece]; rw [if_pos ⟨h11, h25⟩, if_neg h32, if_neg (fun q => h46 q.1)] <;> rfl
          exact j_endI (pc := 62) E dX4_swap_62 (by rw [e]) (by rw [e]; rfl)
        · skip
          have h46 := t5 h46
          have h46 : tGet 8 (sB s) bb 5 = 0 := by simpa using h46
          refine j_aload_n (pc := 49) X dX4_swap_49 rfl (q := 0) rfl ?_
          refine j_get (pc := 50) X (C := RX4) (T := TX4) (N := 6) wz_X4 0 rfl rfl 0 (by decide) wf_X4_12 rfl dX4_swap_50 ?_
          refine j_iload_n (pc := 53) X dX4_swap_53 rfl (q := 2) rfl ?_
          refine j_callVR (pc := 54) X (st := [])  (c_X1_isBooked l D tA a s ce (by first | assumption | omega | decide) (by first | assumption | omega | decide)) cd_X1_isBooked wm_X4_103 1 rfl rfl rfl [1, 2, 3, 4, 5, 6, 7, 8, 9, 10] rfl rfl ⟨Nat.le_of_ble_eq_true rfl, Nat.le_of_ble_eq_true rfl⟩ ⟨Nat.zero_le _, Nat.zero_le _⟩ rfl (Nat.le_of_ble_eq_true rfl) dX4_swap_54 ?_
          refine j_if_ne (pc := 57) X (tgt := 63) (P := (decide (tGet 8 (sB s) ce 5 = 0)) = true) dX4_swap_57 (by decide) (bI_n0 _) (fun h57 => ?_) (fun h57 => ?_)
          · skip
            skip
            have h57 : tGet 8 (sB s) ce 5 = 0 := by simpa using h57
            refine j_aload_n (pc := 63) X dX4_swap_63 rfl (q := 0) rfl ?_
            refine j_get (pc := 64) X (C := RX4) (T := TX4) (N := 6) wz_X4 0 rfl rfl 0 (by decide) wf_X4_12 rfl dX4_swap_64 ?_
            refine j_get (pc := 67) X (C := RX1) (T := TX1) (N := 9) wz_X1 1 rfl rfl 2 (by decide) wf_X4_92 rfl dX4_swap_67 ?_
            refine j_iload_n (pc := 70) X dX4_swap_70 rfl (q := 1) rfl ?_
            refine j_iconst (pc := 71) X (v := (nI 1)) dX4_swap_71 (by decide) ?_
            refine j_callVR (pc := 72) X (st := [])  (c_X2_get l D tA (a 3) (a 8) 30 8 (sB s) bb 1 (by first | assumption | omega | decide) (by first | assumption | omega | decide) (by first | assumption | omega | decide) (by first | assumption | omega | decide) (by first | assumption | omega | decide) (by first | assumption | omega | decide)) cd_X2_get wm_X4_106 7 rfl rfl rfl [7, 8] rfl rfl ⟨Nat.le_of_ble_eq_true rfl, Nat.le_of_ble_eq_true rfl⟩ ⟨Nat.zero_le _, Nat.zero_le _⟩ rfl (Nat.le_of_ble_eq_true rfl) dX4_swap_72 ?_
            refine j_istore_n (pc := 75) X (lv' := [(3, .int (nI (tGet 8 (sB s) bb 1))), (0, .ref c), (1, .int (nI bb)), (2, .int (nI ce))]) dX4_swap_75 rfl (by decide) rfl ?_
            refine j_aload_n (pc := 76) X dX4_swap_76 rfl (q := 1) rfl ?_
            refine j_get (pc := 77) X (C := RX4) (T := TX4) (N := 6) wz_X4 0 rfl rfl 0 (by decide) wf_X4_12 rfl dX4_swap_77 ?_
            refine j_get (pc := 80) X (C := RX1) (T := TX1) (N := 9) wz_X1 1 rfl rfl 2 (by decide) wf_X4_92 rfl dX4_swap_80 ?_
            refine j_iload_n (pc := 83) X dX4_swap_83 rfl (q := 2) rfl ?_
            refine j_iconst (pc := 84) X (v := (nI 2)) dX4_swap_84 (by decide) ?_
            refine j_callVR (pc := 85) X (st := [])  (c_X2_get l D tA (a 3) (a 8) 30 8 (sB s) bb 2 (by first | assumption | omega | decide) (by first | assumption | omega | decide) (by first | assumption | omega | decide) (by first | assumption | omega | decide) (by first | assumption | omega | decide) (by first | assumption | omega | decide)) cd_X2_get wm_X4_106 7 rfl rfl rfl [7, 8] rfl rfl ⟨Nat.le_of_ble_eq_true rfl, Nat.le_of_ble_eq_true rfl⟩ ⟨Nat.zero_le _, Nat.zero_le _⟩ rfl (Nat.le_of_ble_eq_true rfl) dX4_swap_85 ?_
            refine j_istore (pc := 88) X (lv' := [(4, .int (nI (tGet 8 (sB s) bb 2))), (3, .int (nI (tGet 8 (sB s) bb 1))), (0, .ref c), (1, .int (nI bb)), (2, .int (nI ce))]) dX4_swap_88 (by decide) rfl ?_
            refine j_aload_n (pc := 90) X dX4_swap_90 rfl (q := 2) rfl ?_
            refine j_get (pc := 91) X (C := RX4) (T := TX4) (N := 6) wz_X4 0 rfl rfl 0 (by decide) wf_X4_12 rfl dX4_swap_91 ?_
            refine j_get (pc := 94) X (C := RX1) (T := TX1) (N := 9) wz_X1 1 rfl rfl 2 (by decide) wf_X4_92 rfl dX4_swap_94 ?_
            refine j_iload_n (pc := 97) X dX4_swap_97 rfl (q := 4) rfl ?_
            refine j_iconst (pc := 98) X (v := (nI 1)) dX4_swap_98 (by decide) ?_
            refine j_callVR (pc := 99) X (st := [])  (c_X2_get l D tA (a 3) (a 8) 30 8 (sB s) ce 1 (by first | assumption | omega | decide) (by first | assumption | omega | decide) (by first | assumption | omega | decide) (by first | assumption | omega | decide) (by first | assumption | omega | decide) (by first | assumption | omega | decide)) cd_X2_get wm_X4_106 7 rfl rfl rfl [7, 8] rfl rfl ⟨Nat.le_of_ble_eq_true rfl, Nat.le_of_ble_eq_true rfl⟩ ⟨Nat.zero_le _, Nat.zero_le _⟩ rfl (Nat.le_of_ble_eq_true rfl) dX4_swap_99 ?_
            refine j_istore (pc := 102) X (lv' := [(5, .int (nI (tGet 8 (sB s) ce 1))), (4, .int (nI (tGet 8 (sB s) bb 2))), (3, .int (nI (tGet 8 (sB s) bb 1))), (0, .ref c), (1, .int (nI bb)), (2, .int (nI ce))]) dX4_swap_102 (by decide) rfl ?_
            refine j_aload_n (pc := 104) X dX4_swap_104 rfl (q := 3) rfl ?_
            refine j_get (pc := 105) X (C := RX4) (T := TX4) (N := 6) wz_X4 0 rfl rfl 0 (by decide) wf_X4_12 rfl dX4_swap_105 ?_
            refine j_get (pc := 108) X (C := RX1) (T := TX1) (N := 9) wz_X1 1 rfl rfl 2 (by decide) wf_X4_92 rfl dX4_swap_108 ?_
            refine j_iload_n (pc := 111) X dX4_swap_111 rfl (q := 5) rfl ?_
            refine j_iconst (pc := 112) X (v := (nI 2)) dX4_swap_112 (by decide) ?_
            refine j_callVR (pc := 113) X (st := [])  (c_X2_get l D tA (a 3) (a 8) 30 8 (sB s) ce 2 (by first | assumption | omega | decide) (by first | assumption | omega | decide) (by first | assumption | omega | decide) (by first | assumption | omega | decide) (by first | assumption | omega | decide) (by first | assumption | omega | decide)) cd_X2_get wm_X4_106 7 rfl rfl rfl [7, 8] rfl rfl ⟨Nat.le_of_ble_eq_true rfl, Nat.le_of_ble_eq_true rfl⟩ ⟨Nat.zero_le _, Nat.zero_le _⟩ rfl (Nat.le_of_ble_eq_true rfl) dX4_swap_113 ?_
            refine j_istore (pc := 116) X (lv' := [(6, .int (nI (tGet 8 (sB s) ce 2))), (5, .int (nI (tGet 8 (sB s) ce 1))), (4, .int (nI (tGet 8 (sB s) bb 2))), (3, .int (nI (tGet 8 (sB s) bb 1))), (0, .ref c), (1, .int (nI bb)), (2, .int (nI ce))]) dX4_swap_116 (by decide) rfl ?_
            refine j_aload_n (pc := 118) X dX4_swap_118 rfl (q := 4) rfl ?_
            refine j_get (pc := 119) X (C := RX4) (T := TX4) (N := 6) wz_X4 0 rfl rfl 0 (by decide) wf_X4_12 rfl dX4_swap_119 ?_
            refine j_iload (pc := 122) X dX4_swap_122 (q := 1) rfl ?_
            refine j_iload_n (pc := 124) X dX4_swap_124 rfl (q := 5) rfl ?_
            refine j_callVR (pc := 125) X (st := [])  (c_X1_bearsLiftOf l D tA a s (tGet 8 (sB s) ce 1) bb hw hd0.2.1 hc11) cd_X1_bearsLiftOf wm_X4_119 1 rfl rfl rfl [1, 2, 3, 4, 5, 6, 7, 8, 9, 10] rfl rfl ⟨Nat.le_of_ble_eq_true rfl, Nat.le_of_ble_eq_true rfl⟩ ⟨Nat.zero_le _, Nat.zero_le _⟩ rfl (Nat.le_of_ble_eq_true rfl) dX4_swap_125 ?_
            refine j_if_eq (pc := 128) X (tgt := 143) (P := (brsB s (tGet 8 (sB s) ce 1) bb) = false) dX4_swap_128 (by decide) (bI_0 _) (fun h128 => ?_) (fun h128 => ?_)
            · skip
              have h128 := nf5 h128
              refine j_bipush (pc := 143) X (v := (-4)) dX4_swap_143 (by decide) ?_
              have e : oSwap s (nI bb) (nI ce) = ((-4), none) := by unfold oSwap; simp only [ebb, ece]; rw [if_pos ⟨h11, h25⟩, if_neg h32, if_pos ⟨h46, h57⟩, if_neg (fun q => h128 q.1)] <;> rfl
              exact j_endI (pc := 145) E dX4_swap_145 (by rw [e]) (by rw [e]; rfl)
            · skip
              have h128 := t5 h128
              refine j_aload_n (pc := 131) X dX4_swap_131 rfl (q := 4) rfl ?_
              refine j_get (pc := 132) X (C := RX4) (T := TX4) (N := 6) wz_X4 0 rfl rfl 0 (by decide) wf_X4_12 rfl dX4_swap_132 ?_
              refine j_iload_n (pc := 135) X dX4_swap_135 rfl (q := 3) rfl ?_
              refine j_iload_n (pc := 136) X dX4_swap_136 rfl (q := 6) rfl ?_
              refine j_callVR (pc := 137) X (st := [])  (c_X1_bearsLiftOf l D tA a s (tGet 8 (sB s) bb 1) ce hw hb0.2.1 hc25) cd_X1_bearsLiftOf wm_X4_119 1 rfl rfl rfl [1, 2, 3, 4, 5, 6, 7, 8, 9, 10] rfl rfl ⟨Nat.le_of_ble_eq_true rfl, Nat.le_of_ble_eq_true rfl⟩ ⟨Nat.zero_le _, Nat.zero_le _⟩ rfl (Nat.le_of_ble_eq_true rfl) dX4_swap_137 ?_
              refine j_if_ne (pc := 140) X (tgt := 146) (P := (brsB s (tGet 8 (sB s) bb 1) ce) = true) dX4_swap_140 (by decide) (bI_n0 _) (fun h140 => ?_) (fun h140 => ?_)
              · skip
                skip
                refine j_aload_n (pc := 146) X dX4_swap_146 rfl (q := 4) rfl ?_
                refine j_get (pc := 147) X (C := RX4) (T := TX4) (N := 6) wz_X4 0 rfl rfl 3 (by decide) wf_X4_25 rfl dX4_swap_147 ?_
                refine j_aload_n (pc := 150) X dX4_swap_150 rfl (q := 4) rfl ?_
                refine j_get (pc := 151) X (C := RX4) (T := TX4) (N := 6) wz_X4 0 rfl rfl 0 (by decide) wf_X4_12 rfl dX4_swap_151 ?_
                refine j_callVB (pc := 154) X (st := []) (wr := (clW c a b f h x k)) (w' := (clW c a b f h x k ++ (stW tA a s ++ (hsW tA h d (hPush v s))))) (c_X0_push l D tA h d v a s hnx hsz hh hw) cd_X0_push wm_X4_54 11 rfl rfl rfl [11, 12, 13, 14, 15, 16, 17, 18, 19, 20, 21, 22, 23, 24, 25, 26, 27, 28, 29, 30, 31, 32, 33, 34, 35, 36, 37, 38, 39, 40, 41, 42, 43, 44, 45, 46, 47, 48, 49, 50, 51, 52, 1, 2, 3, 4, 5, 6, 7, 8, 9, 10] rfl rfl [0] rfl rfl (fst_app (hs_fst.trans hs_fst.symm) (st_fst.trans st_fst.symm)) [52, 42, 43, 44, 45, 46, 47, 48, 49, 50, 51, 0, 1, 2, 3, 4, 5, 6, 7, 8, 9, 10, 11, 12, 13, 14, 15, 16, 17, 18, 19, 20, 21, 22, 23, 24, 25, 26, 27, 28, 29, 30, 31, 32, 33, 34, 35, 36, 37, 38, 39, 40, 41] rfl rfl ⟨Nat.le_of_ble_eq_true rfl, Nat.le_of_ble_eq_true rfl⟩ ⟨Nat.zero_le _, Nat.zero_le _⟩ rfl (Nat.le_of_ble_eq_true rfl) dX4_swap_154 ?_
                refine j_aload_n (pc := 157) X dX4_swap_157 rfl (q := 4) rfl ?_
                refine j_get (pc := 158) X (C := RX4) (T := TX4) (N := 6) wz_X4 0 rfl rfl 0 (by decide) wf_X4_12 rfl dX4_swap_158 ?_
                refine j_iload_n (pc := 161) X dX4_swap_161 rfl (q := 5) rfl ?_
                refine j_iload (pc := 162) X dX4_swap_162 (q := 1) rfl ?_
                refine j_iload (pc := 164) X dX4_swap_164 (q := 0) rfl ?_
                refine j_callVB (pc := 166) X (st := []) (wr := (clW c a b f h x k ++ (hsW tA h d (hPush v s)))) (w' := (clW c a b f h x k ++ (stW tA a (placeS s bb (tGet 8 (sB s) ce 1) (tGet 8 (sB s) ce 2)) ++ (hsW tA h d (hPush v s))))) (c_X1_place l D tA a s bb (tGet 8 (sB s) ce 1) (tGet 8 (sB s) ce 2) (by omega) hc11 hd0.2.2.1) cd_X1_place wm_X4_99 1 rfl rfl rfl [1, 2, 3, 4, 5, 6, 7, 8, 9, 10] rfl rfl [0, 11, 12, 13, 14, 15, 16, 17, 18, 19, 20, 21, 22, 23, 24, 25, 26, 27, 28, 29, 30, 31, 32, 33, 34, 35, 36, 37, 38, 39, 40, 41, 42, 43, 44, 45, 46, 47, 48, 49, 50, 51, 52] rfl rfl (st_fst.trans st_fst.symm) [10, 0, 1, 2, 3, 4, 5, 6, 7, 8, 9, 11, 12, 13, 14, 15, 16, 17, 18, 19, 20, 21, 22, 23, 24, 25, 26, 27, 28, 29, 30, 31, 32, 33, 34, 35, 36, 37, 38, 39, 40, 41, 42, 43, 44, 45, 46, 47, 48, 49, 50, 51, 52] rfl rfl ⟨Nat.le_of_ble_eq_true rfl, Nat.le_of_ble_eq_true rfl⟩ ⟨Nat.zero_le _, Nat.zero_le _⟩ rfl (Nat.le_of_ble_eq_true rfl) dX4_swap_166 ?_
                refine j_aload_n (pc := 169) X dX4_swap_169 rfl (q := 4) rfl ?_
                refine j_get (pc := 170) X (C := RX4) (T := TX4) (N := 6) wz_X4 0 rfl rfl 0 (by decide) wf_X4_12 rfl dX4_swap_170 ?_
                refine j_iload_n (pc := 173) X dX4_swap_173 rfl (q := 6) rfl ?_
                refine j_iload_n (pc := 174) X dX4_swap_174 rfl (q := 3) rfl ?_
                refine j_iload (pc := 175) X dX4_swap_175 (q := 2) rfl ?_
                refine j_callVB (pc := 177) X (st := []) (wr := (clW c a b f h x k ++ (hsW tA h d (hPush v s)))) (w' := (clW c a b f h x k ++ (stW tA a (placeS (placeS s bb (tGet 8 (sB s) ce 1) (tGet 8 (sB s) ce 2)) ce (tGet 8 (sB s) bb 1) (tGet 8 (sB s) bb 2)) ++ (hsW tA h d (hPush v s))))) (c_X1_place l D tA a (placeS s bb (tGet 8 (sB s) ce 1) (tGet 8 (sB s) ce 2)) ce (tGet 8 (sB s) bb 1) (tGet 8 (sB s) bb 2) (show (sB s).1 ≤ 30 by omega) (show ce < (sB s).1 from hc25) hb0.2.2.1) cd_X1_place wm_X4_99 1 rfl rfl rfl [1, 2, 3, 4, 5, 6, 7, 8, 9, 10] rfl rfl [0, 11, 12, 13, 14, 15, 16, 17, 18, 19, 20, 21, 22, 23, 24, 25, 26, 27, 28, 29, 30, 31, 32, 33, 34, 35, 36, 37, 38, 39, 40, 41, 42, 43, 44, 45, 46, 47, 48, 49, 50, 51, 52] rfl rfl (st_fst.trans st_fst.symm) [10, 0, 1, 2, 3, 4, 5, 6, 7, 8, 9, 11, 12, 13, 14, 15, 16, 17, 18, 19, 20, 21, 22, 23, 24, 25, 26, 27, 28, 29, 30, 31, 32, 33, 34, 35, 36, 37, 38, 39, 40, 41, 42, 43, 44, 45, 46, 47, 48, 49, 50, 51, 52] rfl rfl ⟨Nat.le_of_ble_eq_true rfl, Nat.le_of_ble_eq_true rfl⟩ ⟨Nat.zero_le _, Nat.zero_le _⟩ rfl (Nat.le_of_ble_eq_true rfl) dX4_swap_177 ?_
                refine j_iload (pc := 180) X dX4_swap_180 (q := 0) rfl ?_
                have e : oSwap s (nI bb) (nI ce) = ((nI (tGet 8 (sB s) ce 2)), (some (placeS (placeS s bb (tGet 8 (sB s) ce 1) (tGet 8 (sB s) ce 2)) ce (tGet 8 (sB s) bb 1) (tGet 8 (sB s) bb 2)))) := by unfold oSwap; simp only [ebb, ece]; rw [if_pos ⟨h11, h25⟩, if_neg h32, if_pos ⟨h46, h57⟩, if_pos ⟨h128, h140⟩] <;> rfl
                exact j_endI (pc := 182) E dX4_swap_182 (by rw [e]) (by rw [e]; rfl)
              · skip
                skip
                refine j_bipush (pc := 143) X (v := (-4)) dX4_swap_143 (by decide) ?_
                have e : oSwap s (nI bb) (nI ce) = ((-4), none) := by unfold oSwap; simp only [ebb, ece]; rw [if_pos ⟨h11, h25⟩, if_neg h32, if_pos ⟨h46, h57⟩, if_neg (fun q => h140 q.2)] <;> rfl
                exact j_endI (pc := 145) E dX4_swap_145 (by rw [e]) (by rw [e]; rfl)
          · skip
            skip
            have h57 : ¬ tGet 8 (sB s) ce 5 = 0 := by simpa using h57
            refine j_bipush (pc := 60) X (v := (-4)) dX4_swap_60 (by decide) ?_
            have e : oSwap s (nI bb) (nI ce) = ((-4), none) := by unfold oSwap; simp only [ebb, ece]; rw [if_pos ⟨h11, h25⟩, if_neg h32, if_neg (fun q => h57 q.2)] <;> rfl
            exact j_endI (pc := 62) E dX4_swap_62 (by rw [e]) (by rw [e]; rfl)
      · skip
        refine j_bipush (pc := 35) X (v := (-2)) dX4_swap_35 (by decide) ?_
        have e : oSwap s (nI bb) (nI ce) = ((-2), none) := by unfold oSwap; simp only [ebb, ece]; rw [if_pos ⟨h11, h25⟩, if_pos (Decidable.not_not.mp h32)] <;> rfl
        exact j_endI (pc := 37) E dX4_swap_37 (by rw [e]) (by rw [e]; rfl)
    · skip
      skip
      refine j_iconst (pc := 28) X (v := (-1)) dX4_swap_28 (by decide) ?_
      have e : oSwap s (nI bb) c0 = ((-1), none) := by unfold oSwap; simp only [ebb]; rw [if_neg (fun q => h25 q.2)] <;> rfl
      exact j_endI (pc := 29) E dX4_swap_29 (by rw [e]) (by rw [e]; rfl)
theorem cd_X4_order : kCardV yX4_order cX4_order 6 (some .int) 5 := ⟨⟨wc_X4_order, wi_X4, by decide +kernel, by decide +kernel, rfl⟩, wk_X4_order, ws_X4_order⟩
set_option maxHeartbeats 4000000 in
set_option maxRecDepth 100000 in
theorem c_X4_order (l : Launch) (D : va_G) (tA : Nat → ClassId) (c : Nat) (a b f h x : Nat → Nat) (k : Bool) (s : Sg) (d : Nat → Nat → Nat) (v : Hs) (p0 f0 g0 u0 t0 : Int32) (hw : Wf s) (hnx : v.2.1 < 4) (hsz : v.2.2 ≤ 4) (hh : ∀ i, Wf (v.1 i)) : Kx l D tA yX4_order cX4_order 6 (some .int) 4 82 [.ref c, .int p0, .int f0, .int g0, .int u0, .int t0] (clW c a b f h x k ++ (stW tA a s ++ (hsW tA h d v))) (some (.int ((oOrder s p0 f0 g0 u0 t0).1))) (clW c a b f h x k ++ (stW tA a (aS s (oOrder s p0 f0 g0 u0 t0).2) ++ (hsW tA h d (aH v s (oOrder s p0 f0 g0 u0 t0).2)))) := by
  refine kx_int rfl (Nat.le_of_ble_eq_true rfl) (fun G X E => ?_)
  show J l D G 0 0 (clW c a b f h x k ++ (stW tA a s ++ (hsW tA h d v))) [(0, .ref c), (1, .int p0), (2, .int f0), (3, .int g0), (4, .int u0), (5, .int t0)] 0 []
  have hn := hw.n
  refine j_aload_n (pc := 0) X dX4_order_0 rfl (q := 0) rfl ?_
  refine j_get (pc := 1) X (C := RX4) (T := TX4) (N := 6) wz_X4 0 rfl rfl 0 (by decide) wf_X4_12 rfl dX4_order_1 ?_
  refine j_get (pc := 4) X (C := RX1) (T := TX1) (N := 9) wz_X1 1 rfl rfl 1 (by decide) wf_X4_62 rfl dX4_order_4 ?_
  refine j_iload_n (pc := 7) X dX4_order_7 rfl (q := 1) rfl ?_
  refine j_callVR (pc := 8) X (st := [])  (c_X2_has l D tA (a 2) (a 7) 8 2 (sP s) p0 (by first | assumption | omega | decide) (by first | assumption | omega | decide) (by first | assumption | omega | decide)) cd_X2_has wm_X4_81 5 rfl rfl rfl [5, 6] rfl rfl ⟨Nat.le_of_ble_eq_true rfl, Nat.le_of_ble_eq_true rfl⟩ ⟨Nat.zero_le _, Nat.zero_le _⟩ rfl (Nat.le_of_ble_eq_true rfl) dX4_order_8 ?_
  refine j_if_eq (pc := 11) X (tgt := 54) (P := (inR p0 (sP s).1) = false) dX4_order_11 (by decide) (bI_0 _) (fun h11 => ?_) (fun h11 => ?_)
  · skip
    have h11 := nf5 h11
    refine j_iconst (pc := 54) X (v := (-1)) dX4_order_54 (by decide) ?_
    have e : oOrder s p0 f0 g0 u0 t0 = ((-1), none) := by unfold oOrder; rw [if_neg (fun q => h11 q.1)] <;> rfl
    exact j_endI (pc := 55) E dX4_order_55 (by rw [e]) (by rw [e]; rfl)
  · skip
    have h11 := t5 h11
    obtain ⟨pp, hc11, rfl⟩ := inR_t h11
    have epp : tn (nI pp) = pp := tn_nI (by omega)
    refine j_aload_n (pc := 14) X dX4_order_14 rfl (q := 0) rfl ?_
    refine j_get (pc := 15) X (C := RX4) (T := TX4) (N := 6) wz_X4 0 rfl rfl 0 (by decide) wf_X4_12 rfl dX4_order_15 ?_
    refine j_get (pc := 18) X (C := RX1) (T := TX1) (N := 9) wz_X1 1 rfl rfl 0 (by decide) wf_X4_44 rfl dX4_order_18 ?_
    refine j_iload_n (pc := 21) X dX4_order_21 rfl (q := 2) rfl ?_
    refine j_callVR (pc := 22) X (st := [])  (c_X2_has l D tA (a 1) (a 6) 5 3 (sM s) f0 (by first | assumption | omega | decide) (by first | assumption | omega | decide) (by first | assumption | omega | decide)) cd_X2_has wm_X4_81 3 rfl rfl rfl [3, 4] rfl rfl ⟨Nat.le_of_ble_eq_true rfl, Nat.le_of_ble_eq_true rfl⟩ ⟨Nat.zero_le _, Nat.zero_le _⟩ rfl (Nat.le_of_ble_eq_true rfl) dX4_order_22 ?_
    refine j_if_eq (pc := 25) X (tgt := 54) (P := (inR f0 (sM s).1) = false) dX4_order_25 (by decide) (bI_0 _) (fun h25 => ?_) (fun h25 => ?_)
    · skip
      have h25 := nf5 h25
      refine j_iconst (pc := 54) X (v := (-1)) dX4_order_54 (by decide) ?_
      have e : oOrder s (nI pp) f0 g0 u0 t0 = ((-1), none) := by unfold oOrder; simp only [epp]; rw [if_neg (fun q => h25 q.2.1)] <;> rfl
      exact j_endI (pc := 55) E dX4_order_55 (by rw [e]) (by rw [e]; rfl)
    · skip
      have h25 := t5 h25
      obtain ⟨ff, hc25, rfl⟩ := inR_t h25
      have eff : tn (nI ff) = ff := tn_nI (by omega)
      refine j_aload_n (pc := 28) X dX4_order_28 rfl (q := 0) rfl ?_
      refine j_get (pc := 29) X (C := RX4) (T := TX4) (N := 6) wz_X4 0 rfl rfl 0 (by decide) wf_X4_12 rfl dX4_order_29 ?_
      refine j_get (pc := 32) X (C := RX1) (T := TX1) (N := 9) wz_X1 1 rfl rfl 0 (by decide) wf_X4_44 rfl dX4_order_32 ?_
      refine j_iload_n (pc := 35) X dX4_order_35 rfl (q := 3) rfl ?_
      refine j_callVR (pc := 36) X (st := [])  (c_X2_has l D tA (a 1) (a 6) 5 3 (sM s) g0 (by first | assumption | omega | decide) (by first | assumption | omega | decide) (by first | assumption | omega | decide)) cd_X2_has wm_X4_81 3 rfl rfl rfl [3, 4] rfl rfl ⟨Nat.le_of_ble_eq_true rfl, Nat.le_of_ble_eq_true rfl⟩ ⟨Nat.zero_le _, Nat.zero_le _⟩ rfl (Nat.le_of_ble_eq_true rfl) dX4_order_36 ?_
      refine j_if_eq (pc := 39) X (tgt := 54) (P := (inR g0 (sM s).1) = false) dX4_order_39 (by decide) (bI_0 _) (fun h39 => ?_) (fun h39 => ?_)
      · skip
        have h39 := nf5 h39
        refine j_iconst (pc := 54) X (v := (-1)) dX4_order_54 (by decide) ?_
        have e : oOrder s (nI pp) (nI ff) g0 u0 t0 = ((-1), none) := by unfold oOrder; simp only [epp, eff]; rw [if_neg (fun q => h39 q.2.2.1)] <;> rfl
        exact j_endI (pc := 55) E dX4_order_55 (by rw [e]) (by rw [e]; rfl)
      · skip
        have h39 := t5 h39
        obtain ⟨gg, hc39, rfl⟩ := inR_t h39
        have egg : tn (nI gg) = gg := tn_nI (by omega)
        refine j_aload_n (pc := 42) X dX4_order_42 rfl (q := 0) rfl ?_
        refine j_get (pc := 43) X (C := RX4) (T := TX4) (N := 6) wz_X4 0 rfl rfl 0 (by decide) wf_X4_12 rfl dX4_order_43 ?_
        refine j_iload (pc := 46) X dX4_order_46 (q := 5) rfl ?_
        refine j_callVR (pc := 48) X (st := [])  (c_X1_isToCome l D tA a s t0 (by first | assumption | omega | decide)) cd_X1_isToCome wm_X4_69 1 rfl rfl rfl [1, 2, 3, 4, 5, 6, 7, 8, 9, 10] rfl rfl ⟨Nat.le_of_ble_eq_true rfl, Nat.le_of_ble_eq_true rfl⟩ ⟨Nat.zero_le _, Nat.zero_le _⟩ rfl (Nat.le_of_ble_eq_true rfl) dX4_order_48 ?_
        refine j_if_ne (pc := 51) X (tgt := 56) (P := (toCome s t0) = true) dX4_order_51 (by decide) (bI_n0 _) (fun h51 => ?_) (fun h51 => ?_)
        · skip
          skip
          obtain ⟨tt, hc51, rfl⟩ := toCome_t h51
          have ett : tn (nI tt) = tt := tn_nI (by omega)
          refine j_iload (pc := 56) X dX4_order_56 (q := 4) rfl ?_
          refine j_iconst (pc := 58) X (v := (nI 1)) dX4_order_58 (by decide) ?_
          refine j_bipush (pc := 59) X (v := (nI 12)) dX4_order_59 (by decide) ?_
          refine j_callSR (pc := 61) X (st := [])  (c_X4_isWithin l D tA u0 (nI 1) (nI 12) ) cd_X4_isWithin wm_X4_40 rfl [] rfl rfl ⟨Nat.le_of_ble_eq_true rfl, Nat.le_of_ble_eq_true rfl⟩ ⟨Nat.zero_le _, Nat.zero_le _⟩ rfl (Nat.le_of_ble_eq_true rfl) dX4_order_61 ?_
          refine j_if_eq (pc := 64) X (tgt := 72) (P := (isW u0 (nI 1) (nI 12)) = false) dX4_order_64 (by decide) (bI_0 _) (fun h64 => ?_) (fun h64 => ?_)
          · skip
            have h64 := nf5 h64
            refine j_bipush (pc := 72) X (v := (-2)) dX4_order_72 (by decide) ?_
            have e : oOrder s (nI pp) (nI ff) (nI gg) u0 (nI tt) = ((-2), none) := by unfold oOrder; simp only [epp, eff, egg, ett]; rw [if_pos ⟨h11, h25, h39, h51⟩, if_neg (fun q => h64 q.1)] <;> rfl
            exact j_endI (pc := 74) E dX4_order_74 (by rw [e]) (by rw [e]; rfl)
          · skip
            have h64 := t5 h64
            obtain ⟨uu, hc64, rfl⟩ := isW_t (by omega) (by omega) h64
            have euu : tn (nI uu) = uu := tn_nI (by omega)
            refine j_iload_n (pc := 67) X dX4_order_67 rfl (q := 2) rfl ?_
            refine j_iload_n (pc := 68) X dX4_order_68 rfl (q := 3) rfl ?_
            refine j_icmp_ne (pc := 69) X (tgt := 75) (P := ¬ ff = gg) dX4_order_69 (by decide) (not_congr (nI_eq (by omega) (by omega))) (fun h69 => ?_) (fun h69 => ?_)
            · skip
              refine j_aload_n (pc := 75) X dX4_order_75 rfl (q := 0) rfl ?_
              refine j_get (pc := 76) X (C := RX4) (T := TX4) (N := 6) wz_X4 0 rfl rfl 0 (by decide) wf_X4_12 rfl dX4_order_76 ?_
              refine j_get (pc := 79) X (C := RX1) (T := TX1) (N := 9) wz_X1 1 rfl rfl 3 (by decide) wf_X4_122 rfl dX4_order_79 ?_
              refine j_callVR (pc := 82) X (st := [])  (c_X2_isFull l D tA (a 4) (a 9) 10 5 (sV s)  (by first | assumption | omega | decide) (by first | assumption | omega | decide) (by first | assumption | omega | decide)) cd_X2_isFull wm_X4_48 9 rfl rfl rfl [9, 10] rfl rfl ⟨Nat.le_of_ble_eq_true rfl, Nat.le_of_ble_eq_true rfl⟩ ⟨Nat.zero_le _, Nat.zero_le _⟩ rfl (Nat.le_of_ble_eq_true rfl) dX4_order_82 ?_
              refine j_if_eq (pc := 85) X (tgt := 91) (P := (decide (10 ≤ (sV s).1)) = false) dX4_order_85 (by decide) (bI_0 _) (fun h85 => ?_) (fun h85 => ?_)
              · skip
                have h85 := nf5 h85
                have h85 : (sV s).1 < 10 := by simpa using h85
                refine j_aload_n (pc := 91) X dX4_order_91 rfl (q := 0) rfl ?_
                refine j_get (pc := 92) X (C := RX4) (T := TX4) (N := 6) wz_X4 0 rfl rfl 3 (by decide) wf_X4_25 rfl dX4_order_92 ?_
                refine j_aload_n (pc := 95) X dX4_order_95 rfl (q := 0) rfl ?_
                refine j_get (pc := 96) X (C := RX4) (T := TX4) (N := 6) wz_X4 0 rfl rfl 0 (by decide) wf_X4_12 rfl dX4_order_96 ?_
                refine j_callVB (pc := 99) X (st := []) (wr := (clW c a b f h x k)) (w' := (clW c a b f h x k ++ (stW tA a s ++ (hsW tA h d (hPush v s))))) (c_X0_push l D tA h d v a s hnx hsz hh hw) cd_X0_push wm_X4_54 11 rfl rfl rfl [11, 12, 13, 14, 15, 16, 17, 18, 19, 20, 21, 22, 23, 24, 25, 26, 27, 28, 29, 30, 31, 32, 33, 34, 35, 36, 37, 38, 39, 40, 41, 42, 43, 44, 45, 46, 47, 48, 49, 50, 51, 52, 1, 2, 3, 4, 5, 6, 7, 8, 9, 10] rfl rfl [0] rfl rfl (fst_app (hs_fst.trans hs_fst.symm) (st_fst.trans st_fst.symm)) [52, 42, 43, 44, 45, 46, 47, 48, 49, 50, 51, 0, 1, 2, 3, 4, 5, 6, 7, 8, 9, 10, 11, 12, 13, 14, 15, 16, 17, 18, 19, 20, 21, 22, 23, 24, 25, 26, 27, 28, 29, 30, 31, 32, 33, 34, 35, 36, 37, 38, 39, 40, 41] rfl rfl ⟨Nat.le_of_ble_eq_true rfl, Nat.le_of_ble_eq_true rfl⟩ ⟨Nat.zero_le _, Nat.zero_le _⟩ rfl (Nat.le_of_ble_eq_true rfl) dX4_order_99 ?_
                refine j_aload_n (pc := 102) X dX4_order_102 rfl (q := 0) rfl ?_
                refine j_get (pc := 103) X (C := RX4) (T := TX4) (N := 6) wz_X4 0 rfl rfl 0 (by decide) wf_X4_12 rfl dX4_order_103 ?_
                refine j_iload_n (pc := 106) X dX4_order_106 rfl (q := 1) rfl ?_
                refine j_iload_n (pc := 107) X dX4_order_107 rfl (q := 2) rfl ?_
                refine j_iload_n (pc := 108) X dX4_order_108 rfl (q := 3) rfl ?_
                refine j_iload (pc := 109) X dX4_order_109 (q := 4) rfl ?_
                refine j_iload (pc := 111) X dX4_order_111 (q := 5) rfl ?_
                refine j_callVB (pc := 113) X (st := []) (wr := (clW c a b f h x k ++ (hsW tA h d (hPush v s)))) (w' := (clW c a b f h x k ++ (stW tA a (pMove s pp ff gg uu tt) ++ (hsW tA h d (hPush v s))))) (c_X1_putMove l D tA a s pp ff gg uu tt (by first | assumption | omega | decide)) cd_X1_putMove wm_X4_125 1 rfl rfl rfl [1, 2, 3, 4, 5, 6, 7, 8, 9, 10] rfl rfl [0, 11, 12, 13, 14, 15, 16, 17, 18, 19, 20, 21, 22, 23, 24, 25, 26, 27, 28, 29, 30, 31, 32, 33, 34, 35, 36, 37, 38, 39, 40, 41, 42, 43, 44, 45, 46, 47, 48, 49, 50, 51, 52] rfl rfl (st_fst.trans st_fst.symm) [10, 0, 1, 2, 3, 4, 5, 6, 7, 8, 9, 11, 12, 13, 14, 15, 16, 17, 18, 19, 20, 21, 22, 23, 24, 25, 26, 27, 28, 29, 30, 31, 32, 33, 34, 35, 36, 37, 38, 39, 40, 41, 42, 43, 44, 45, 46, 47, 48, 49, 50, 51, 52] rfl rfl ⟨Nat.le_of_ble_eq_true rfl, Nat.le_of_ble_eq_true rfl⟩ ⟨Nat.zero_le _, Nat.zero_le _⟩ rfl (Nat.le_of_ble_eq_true rfl) dX4_order_113 ?_
                have e : oOrder s (nI pp) (nI ff) (nI gg) (nI uu) (nI tt) = ((nI ((sV s).1)), (some (pMove s pp ff gg uu tt))) := by unfold oOrder; simp only [epp, eff, egg, ett, euu]; rw [if_pos ⟨h11, h25, h39, h51⟩, if_pos ⟨h64, h69⟩, if_pos h85] <;> rfl
                exact j_endI (pc := 116) E dX4_order_116 (by rw [e]) (by rw [e]; rfl)
              · skip
                have h85 := t5 h85
                have h85 : ¬ (sV s).1 < 10 := by simpa using h85
                refine j_bipush (pc := 88) X (v := (-3)) dX4_order_88 (by decide) ?_
                have e : oOrder s (nI pp) (nI ff) (nI gg) (nI uu) (nI tt) = ((-3), none) := by unfold oOrder; simp only [epp, eff, egg, ett, euu]; rw [if_pos ⟨h11, h25, h39, h51⟩, if_pos ⟨h64, h69⟩, if_neg h85] <;> rfl
                exact j_endI (pc := 90) E dX4_order_90 (by rw [e]) (by rw [e]; rfl)
            · skip
              refine j_bipush (pc := 72) X (v := (-2)) dX4_order_72 (by decide) ?_
              have e : oOrder s (nI pp) (nI ff) (nI gg) (nI uu) (nI tt) = ((-2), none) := by unfold oOrder; simp only [epp, eff, egg, ett, euu]; rw [if_pos ⟨h11, h25, h39, h51⟩, if_neg (fun q => q.2 (Decidable.not_not.mp h69))] <;> rfl
              exact j_endI (pc := 74) E dX4_order_74 (by rw [e]) (by rw [e]; rfl)
        · skip
          skip
          refine j_iconst (pc := 54) X (v := (-1)) dX4_order_54 (by decide) ?_
          have e : oOrder s (nI pp) (nI ff) (nI gg) u0 t0 = ((-1), none) := by unfold oOrder; simp only [epp, eff, egg]; rw [if_neg (fun q => h51 q.2.2.2)] <;> rfl
          exact j_endI (pc := 55) E dX4_order_55 (by rw [e]) (by rw [e]; rfl)
theorem cd_X4_takeBack : kCardV yX4_takeBack cX4_takeBack 2 (some .int) 1 := ⟨⟨wc_X4_takeBack, wi_X4, by decide +kernel, by decide +kernel, rfl⟩, wk_X4_takeBack, ws_X4_takeBack⟩
set_option maxHeartbeats 4000000 in
set_option maxRecDepth 100000 in
theorem c_X4_takeBack (l : Launch) (D : va_G) (tA : Nat → ClassId) (c : Nat) (a b f h x : Nat → Nat) (k : Bool) (s : Sg) (d : Nat → Nat → Nat) (v : Hs) (v0 : Int32) (hw : Wf s) (hnx : v.2.1 < 4) (hsz : v.2.2 ≤ 4) (hh : ∀ i, Wf (v.1 i)) : Kx l D tA yX4_takeBack cX4_takeBack 2 (some .int) 4 82 [.ref c, .int v0] (clW c a b f h x k ++ (stW tA a s ++ (hsW tA h d v))) (some (.int ((oTakeBack s v0).1))) (clW c a b f h x k ++ (stW tA a (aS s (oTakeBack s v0).2) ++ (hsW tA h d (aH v s (oTakeBack s v0).2)))) := by
  refine kx_int rfl (Nat.le_of_ble_eq_true rfl) (fun G X E => ?_)
  show J l D G 0 0 (clW c a b f h x k ++ (stW tA a s ++ (hsW tA h d v))) [(0, .ref c), (1, .int v0)] 0 []
  have hn := hw.n
  refine j_aload_n (pc := 0) X dX4_takeBack_0 rfl (q := 0) rfl ?_
  refine j_get (pc := 1) X (C := RX4) (T := TX4) (N := 6) wz_X4 0 rfl rfl 0 (by decide) wf_X4_12 rfl dX4_takeBack_1 ?_
  refine j_get (pc := 4) X (C := RX1) (T := TX1) (N := 9) wz_X1 1 rfl rfl 3 (by decide) wf_X4_122 rfl dX4_takeBack_4 ?_
  refine j_iload_n (pc := 7) X dX4_takeBack_7 rfl (q := 1) rfl ?_
  refine j_callVR (pc := 8) X (st := [])  (c_X2_has l D tA (a 4) (a 9) 10 5 (sV s) v0 (by first | assumption | omega | decide) (by first | assumption | omega | decide) (by first | assumption | omega | decide)) cd_X2_has wm_X4_81 9 rfl rfl rfl [9, 10] rfl rfl ⟨Nat.le_of_ble_eq_true rfl, Nat.le_of_ble_eq_true rfl⟩ ⟨Nat.zero_le _, Nat.zero_le _⟩ rfl (Nat.le_of_ble_eq_true rfl) dX4_takeBack_8 ?_
  refine j_if_ne (pc := 11) X (tgt := 16) (P := (inR v0 (sV s).1) = true) dX4_takeBack_11 (by decide) (bI_n0 _) (fun h11 => ?_) (fun h11 => ?_)
  · skip
    skip
    obtain ⟨vv, hc11, rfl⟩ := inR_t h11
    have evv : tn (nI vv) = vv := tn_nI (by omega)
    refine j_aload_n (pc := 16) X dX4_takeBack_16 rfl (q := 0) rfl ?_
    refine j_get (pc := 17) X (C := RX4) (T := TX4) (N := 6) wz_X4 0 rfl rfl 3 (by decide) wf_X4_25 rfl dX4_takeBack_17 ?_
    refine j_aload_n (pc := 20) X dX4_takeBack_20 rfl (q := 0) rfl ?_
    refine j_get (pc := 21) X (C := RX4) (T := TX4) (N := 6) wz_X4 0 rfl rfl 0 (by decide) wf_X4_12 rfl dX4_takeBack_21 ?_
    refine j_callVB (pc := 24) X (st := []) (wr := (clW c a b f h x k)) (w' := (clW c a b f h x k ++ (stW tA a s ++ (hsW tA h d (hPush v s))))) (c_X0_push l D tA h d v a s hnx hsz hh hw) cd_X0_push wm_X4_54 11 rfl rfl rfl [11, 12, 13, 14, 15, 16, 17, 18, 19, 20, 21, 22, 23, 24, 25, 26, 27, 28, 29, 30, 31, 32, 33, 34, 35, 36, 37, 38, 39, 40, 41, 42, 43, 44, 45, 46, 47, 48, 49, 50, 51, 52, 1, 2, 3, 4, 5, 6, 7, 8, 9, 10] rfl rfl [0] rfl rfl (fst_app (hs_fst.trans hs_fst.symm) (st_fst.trans st_fst.symm)) [52, 42, 43, 44, 45, 46, 47, 48, 49, 50, 51, 0, 1, 2, 3, 4, 5, 6, 7, 8, 9, 10, 11, 12, 13, 14, 15, 16, 17, 18, 19, 20, 21, 22, 23, 24, 25, 26, 27, 28, 29, 30, 31, 32, 33, 34, 35, 36, 37, 38, 39, 40, 41] rfl rfl ⟨Nat.le_of_ble_eq_true rfl, Nat.le_of_ble_eq_true rfl⟩ ⟨Nat.zero_le _, Nat.zero_le _⟩ rfl (Nat.le_of_ble_eq_true rfl) dX4_takeBack_24 ?_
    refine j_aload_n (pc := 27) X dX4_takeBack_27 rfl (q := 0) rfl ?_
    refine j_get (pc := 28) X (C := RX4) (T := TX4) (N := 6) wz_X4 0 rfl rfl 0 (by decide) wf_X4_12 rfl dX4_takeBack_28 ?_
    refine j_get (pc := 31) X (C := RX1) (T := TX1) (N := 9) wz_X1 1 rfl rfl 3 (by decide) wf_X4_122 rfl dX4_takeBack_31 ?_
    refine j_iload_n (pc := 34) X dX4_takeBack_34 rfl (q := 1) rfl ?_
    refine j_callV (pc := 35) X (st := []) (w' := (clW c a b f h x k ++ (stW tA a (uV s (tDel 5 (sV s) vv)) ++ (hsW tA h d (hPush v s))))) (c_X2_removeRow l D tA (a 4) (a 9) 10 5 (sV s) vv (by first | assumption | omega | decide) (by first | assumption | omega | decide) (by first | assumption | omega | decide) (by first | assumption | omega | decide) (by first | assumption | omega | decide)) cd_X2_removeRow wm_X4_129 9 rfl rfl rfl [9, 10] rfl rfl (tb_fst.trans tb_fst.symm) rfl ⟨Nat.le_of_ble_eq_true rfl, Nat.le_of_ble_eq_true rfl⟩ ⟨Nat.zero_le _, Nat.zero_le _⟩ rfl (Nat.le_of_ble_eq_true rfl) dX4_takeBack_35 ?_
    refine j_aload_n (pc := 38) X dX4_takeBack_38 rfl (q := 0) rfl ?_
    refine j_get (pc := 39) X (C := RX4) (T := TX4) (N := 6) wz_X4 0 rfl rfl 0 (by decide) wf_X4_12 rfl dX4_takeBack_39 ?_
    refine j_get (pc := 42) X (C := RX1) (T := TX1) (N := 9) wz_X1 1 rfl rfl 3 (by decide) wf_X4_122 rfl dX4_takeBack_42 ?_
    refine j_callVR (pc := 45) X (st := [])  (c_X2_size l D tA (a 4) (a 9) 10 5 (tDel 5 (sV s) vv)  ) cd_X2_size wm_X4_133 9 rfl rfl rfl [9, 10] rfl rfl ⟨Nat.le_of_ble_eq_true rfl, Nat.le_of_ble_eq_true rfl⟩ ⟨Nat.zero_le _, Nat.zero_le _⟩ rfl (Nat.le_of_ble_eq_true rfl) dX4_takeBack_45 ?_
    have e : oTakeBack s (nI vv) = ((nI ((tDel 5 (sV s) vv).1)), (some (uV s (tDel 5 (sV s) vv)))) := by unfold oTakeBack; simp only [evv]; rw [if_pos h11] <;> rfl
    exact j_endI (pc := 48) E dX4_takeBack_48 (by rw [e]) (by rw [e]; rfl)
  · skip
    skip
    refine j_iconst (pc := 14) X (v := (-1)) dX4_takeBack_14 (by decide) ?_
    have e : oTakeBack s v0 = ((-1), none) := by unfold oTakeBack; rw [if_neg h11] <;> rfl
    exact j_endI (pc := 15) E dX4_takeBack_15 (by rw [e]) (by rw [e]; rfl)
theorem Wf.pas {s : Sg} (h : Wf s) : ∀ i, sN s + i < 200 → Wf (pasN i s).1 ∧ sN (pasN i s).1 = sN s + i
  | 0, _ => ⟨h, rfl⟩
  | i + 1, hi => by
    have h1 := Wf.pas h i (by omega)
    have h2 : sN (psH (pasN i s).1).1 = sN (pasN i s).1 + 1 := by
      show sN (psC (pasN i s).1).1 + 1 = _
      rw [psC_N]
    exact ⟨Wf.xpsH h1.1 (by rw [h1.2]; omega), by show sN (psH (pasN i s).1).1 = _; rw [h2, h1.2]; omega⟩
theorem cd_X4_pass : kCardV yX4_pass cX4_pass 4 (some .int) 1 := ⟨⟨wc_X4_pass, wi_X4, by decide +kernel, by decide +kernel, rfl⟩, wk_X4_pass, ws_X4_pass⟩
set_option maxHeartbeats 4000000 in
set_option maxRecDepth 100000 in
theorem c_X4_pass (l : Launch) (D : va_G) (tA : Nat → ClassId) (c : Nat) (a b f h x : Nat → Nat) (k : Bool) (s : Sg) (d : Nat → Nat → Nat) (v : Hs) (n0 : Int32) (hw : Wf s) (hnx : v.2.1 < 4) (hsz : v.2.2 ≤ 4) (hh : ∀ i, Wf (v.1 i)) : Kx l D tA yX4_pass cX4_pass 4 (some .int) 6 139 [.ref c, .int n0] (clW c a b f h x k ++ (stW tA a s ++ (hsW tA h d v))) (some (.int ((oPass s n0).1))) (clW c a b f h x k ++ (stW tA a (aS s (oPass s n0).2) ++ (hsW tA h d (aH v s (oPass s n0).2)))) := by
  refine kx_int rfl (Nat.le_of_ble_eq_true rfl) (fun G X E => ?_)
  show J l D G 0 0 (clW c a b f h x k ++ (stW tA a s ++ (hsW tA h d v))) [(0, .ref c), (1, .int n0)] 0 []
  have hn := hw.n
  refine j_iload_n (pc := 0) X dX4_pass_0 rfl (q := 1) rfl ?_
  refine j_iconst (pc := 1) X (v := (nI 1)) dX4_pass_1 (by decide) ?_
  refine j_bipush (pc := 2) X (v := (nI 20)) dX4_pass_2 (by decide) ?_
  refine j_callSR (pc := 4) X (st := [])  (c_X4_isWithin l D tA n0 (nI 1) (nI 20) ) cd_X4_isWithin wm_X4_40 rfl [] rfl rfl ⟨Nat.le_of_ble_eq_true rfl, Nat.le_of_ble_eq_true rfl⟩ ⟨Nat.zero_le _, Nat.zero_le _⟩ rfl (Nat.le_of_ble_eq_true rfl) dX4_pass_4 ?_
  refine j_if_ne (pc := 7) X (tgt := 13) (P := (isW n0 (nI 1) (nI 20)) = true) dX4_pass_7 (by decide) (bI_n0 _) (fun h7 => ?_) (fun h7 => ?_)
  · skip
    skip
    obtain ⟨nn, hc7, rfl⟩ := isW_t (by omega) (by omega) h7
    have enn : tn (nI nn) = nn := tn_nI (by omega)
    refine j_aload_n (pc := 13) X dX4_pass_13 rfl (q := 0) rfl ?_
    refine j_get (pc := 14) X (C := RX4) (T := TX4) (N := 6) wz_X4 0 rfl rfl 0 (by decide) wf_X4_12 rfl dX4_pass_14 ?_
    refine j_get (pc := 17) X (C := RX1) (T := TX1) (N := 9) wz_X1 1 rfl rfl 5 (by decide) wf_X4_109 rfl dX4_pass_17 ?_
    refine j_iload_n (pc := 20) X dX4_pass_20 rfl (q := 1) rfl ?_
    refine j_iadd (pc := 21) X (v := (nI ((sN s) + nn))) dX4_pass_21 (nI_add _ _) ?_
    refine j_sipush (pc := 22) X (v := (nI 200)) dX4_pass_22 (by decide) ?_
    refine j_icmp_lt (pc := 25) X (tgt := 31) (P := ((sN s) + nn) < 200) dX4_pass_25 (by decide) (nI_ltI (by omega) (by omega)) (fun h25 => ?_) (fun h25 => ?_)
    · skip
      refine j_aload_n (pc := 31) X dX4_pass_31 rfl (q := 0) rfl ?_
      refine j_get (pc := 32) X (C := RX4) (T := TX4) (N := 6) wz_X4 0 rfl rfl 3 (by decide) wf_X4_25 rfl dX4_pass_32 ?_
      refine j_aload_n (pc := 35) X dX4_pass_35 rfl (q := 0) rfl ?_
      refine j_get (pc := 36) X (C := RX4) (T := TX4) (N := 6) wz_X4 0 rfl rfl 0 (by decide) wf_X4_12 rfl dX4_pass_36 ?_
      refine j_callVB (pc := 39) X (st := []) (wr := (clW c a b f h x k)) (w' := (clW c a b f h x k ++ (stW tA a s ++ (hsW tA h d (hPush v s))))) (c_X0_push l D tA h d v a s hnx hsz hh hw) cd_X0_push wm_X4_54 11 rfl rfl rfl [11, 12, 13, 14, 15, 16, 17, 18, 19, 20, 21, 22, 23, 24, 25, 26, 27, 28, 29, 30, 31, 32, 33, 34, 35, 36, 37, 38, 39, 40, 41, 42, 43, 44, 45, 46, 47, 48, 49, 50, 51, 52, 1, 2, 3, 4, 5, 6, 7, 8, 9, 10] rfl rfl [0] rfl rfl (fst_app (hs_fst.trans hs_fst.symm) (st_fst.trans st_fst.symm)) [52, 42, 43, 44, 45, 46, 47, 48, 49, 50, 51, 0, 1, 2, 3, 4, 5, 6, 7, 8, 9, 10, 11, 12, 13, 14, 15, 16, 17, 18, 19, 20, 21, 22, 23, 24, 25, 26, 27, 28, 29, 30, 31, 32, 33, 34, 35, 36, 37, 38, 39, 40, 41] rfl rfl ⟨Nat.le_of_ble_eq_true rfl, Nat.le_of_ble_eq_true rfl⟩ ⟨Nat.zero_le _, Nat.zero_le _⟩ rfl (Nat.le_of_ble_eq_true rfl) dX4_pass_39 ?_
      refine j_iconst (pc := 42) X (v := (nI 0)) dX4_pass_42 (by decide) ?_
      refine j_istore_n (pc := 43) X (lv' := [(2, .int (nI 0)), (0, .ref c), (1, .int (nI nn))]) dX4_pass_43 rfl (by decide) rfl ?_
      refine j_iconst (pc := 44) X (v := (nI 0)) dX4_pass_44 (by decide) ?_
      refine j_istore_n (pc := 45) X (lv' := [(3, .int (nI 0)), (2, .int (nI 0)), (0, .ref c), (1, .int (nI nn))]) dX4_pass_45 rfl (by decide) rfl ?_
      have L_46 : ∀ (fu : Nat) (i : Nat) (s2 : Sg) (q : Nat), i ≤ nn → (s2, q) = pasN i s → nn - i < fu → J l D G 0 0 (clW c a b f h x k ++ (stW tA a s2 ++ (hsW tA h d (hPush v s)))) [(0, .ref c), (1, .int (nI nn)), (2, .int (nI q)), (3, .int (nI i))] 46 [] := by
        intro fu
        induction fu with
        | zero => intro i s2 q hi hq hfu; exact absurd hfu (Nat.not_lt_zero _)
        | succ fu ih_46 =>
          intro i s2 q hi hq hfu
          have hw2 : Wf s2 := by have := (hw.pas i (by omega)).1; rw [← hq] at this; exact this
          refine j_iload_n (pc := 46) X dX4_pass_46 rfl (q := 3) rfl ?_
          refine j_iload_n (pc := 47) X dX4_pass_47 rfl (q := 1) rfl ?_
          refine j_icmp_ge (pc := 48) X (tgt := 67) (P := nn ≤ i) dX4_pass_48 (by decide) (nI_leI (by omega) (by omega)) (fun h48 => ?_) (fun h48 => ?_)
          · skip
            refine j_iload_n (pc := 67) X dX4_pass_67 rfl (q := 2) rfl ?_
            have e : oPass s (nI nn) = ((nI q), (some s2)) := by unfold oPass; simp only [enn]; rw [if_pos h7, if_pos h25, ← show i = nn by omega, ← hq] <;> rfl
            exact j_endI (pc := 68) E dX4_pass_68 (by rw [e]) (by rw [e]; rfl)
          · skip
            refine j_iload_n (pc := 51) X dX4_pass_51 rfl (q := 2) rfl ?_
            refine j_aload_n (pc := 52) X dX4_pass_52 rfl (q := 0) rfl ?_
            refine j_get (pc := 53) X (C := RX4) (T := TX4) (N := 6) wz_X4 0 rfl rfl 0 (by decide) wf_X4_12 rfl dX4_pass_53 ?_
            refine j_callVB (pc := 56) X (st := [.int (nI q)]) (wr := (clW c a b f h x k ++ (hsW tA h d (hPush v s)))) (w' := (clW c a b f h x k ++ (stW tA a ((psH s2).1) ++ (hsW tA h d (hPush v s))))) (c_X1_passHalfDay l D tA a s2  hw2) cd_X1_passHalfDay wm_X4_136 1 rfl rfl rfl [1, 2, 3, 4, 5, 6, 7, 8, 9, 10] rfl rfl [0, 11, 12, 13, 14, 15, 16, 17, 18, 19, 20, 21, 22, 23, 24, 25, 26, 27, 28, 29, 30, 31, 32, 33, 34, 35, 36, 37, 38, 39, 40, 41, 42, 43, 44, 45, 46, 47, 48, 49, 50, 51, 52] rfl rfl (st_fst.trans st_fst.symm) [10, 0, 1, 2, 3, 4, 5, 6, 7, 8, 9, 11, 12, 13, 14, 15, 16, 17, 18, 19, 20, 21, 22, 23, 24, 25, 26, 27, 28, 29, 30, 31, 32, 33, 34, 35, 36, 37, 38, 39, 40, 41, 42, 43, 44, 45, 46, 47, 48, 49, 50, 51, 52] rfl rfl ⟨Nat.le_of_ble_eq_true rfl, Nat.le_of_ble_eq_true rfl⟩ ⟨Nat.zero_le _, Nat.zero_le _⟩ rfl (Nat.le_of_ble_eq_true rfl) dX4_pass_56 ?_
            refine j_iadd (pc := 59) X (v := (nI (q + ((psH s2).2)))) dX4_pass_59 (nI_add _ _) ?_
            refine j_istore_n (pc := 60) X (lv' := [(2, .int (nI (q + ((psH s2).2)))), (0, .ref c), (1, .int (nI nn)), (3, .int (nI i))]) dX4_pass_60 rfl (by decide) rfl ?_
            refine j_iinc (pc := 61) X (v := (nI (i + 1))) (lv' := [(3, .int (nI (i + 1))), (2, .int (nI (q + ((psH s2).2)))), (0, .ref c), (1, .int (nI nn))]) dX4_pass_61 (q := 3) rfl (nI_add _ _) (by decide) rfl ?_
            refine j_goto (pc := 64) X (tgt := 46) dX4_pass_64 (by decide) ?_
            refine j_lv X (lv' := [(0, .ref c), (1, .int (nI nn)), (2, .int (nI (q + ((psH s2).2)))), (3, .int (nI (i + 1)))]) [2, 3, 1, 0] rfl ?_
            exact ih_46 (i + 1) ((psH s2).1) (q + (psH s2).2) (by omega) (by rw [pasN, ← hq]) (by omega)
      refine j_lv X (lv' := [(0, .ref c), (1, .int (nI nn)), (2, .int (nI 0)), (3, .int (nI 0))]) [2, 3, 1, 0] rfl ?_
      exact L_46 _ 0 s 0 (Nat.zero_le _) rfl (Nat.lt_succ_self _)
    · skip
      refine j_bipush (pc := 28) X (v := (-4)) dX4_pass_28 (by decide) ?_
      have e : oPass s (nI nn) = ((-4), none) := by unfold oPass; simp only [enn]; rw [if_pos h7, if_neg h25] <;> rfl
      exact j_endI (pc := 30) E dX4_pass_30 (by rw [e]) (by rw [e]; rfl)
  · skip
    skip
    refine j_bipush (pc := 10) X (v := (-2)) dX4_pass_10 (by decide) ?_
    have e : oPass s n0 = ((-2), none) := by unfold oPass; rw [if_neg h7] <;> rfl
    exact j_endI (pc := 12) E dX4_pass_12 (by rw [e]) (by rw [e]; rfl)
theorem cd_X4_bears : kCardV yX4_bears cX4_bears 3 (some .int) 2 := ⟨⟨wc_X4_bears, wi_X4, by decide +kernel, by decide +kernel, rfl⟩, wk_X4_bears, ws_X4_bears⟩
set_option maxHeartbeats 4000000 in
set_option maxRecDepth 100000 in
theorem c_X4_bears (l : Launch) (D : va_G) (tA : Nat → ClassId) (c : Nat) (a b f h x : Nat → Nat) (k : Bool) (s : Sg) (m0 r0 : Int32) (hw : Wf s) : Kx l D tA yX4_bears cX4_bears 3 (some .int) 2 48 [.ref c, .int m0, .int r0] (clW c a b f h x k ++ (stW tA a s)) (some (.int (oBears s m0 r0))) (clW c a b f h x k ++ (stW tA a s)) := by
  refine kx_int rfl (Nat.le_of_ble_eq_true rfl) (fun G X E => ?_)
  show J l D G 0 0 (clW c a b f h x k ++ (stW tA a s)) [(0, .ref c), (1, .int m0), (2, .int r0)] 0 []
  have hn := hw.n
  refine j_aload_n (pc := 0) X dX4_bears_0 rfl (q := 0) rfl ?_
  refine j_get (pc := 1) X (C := RX4) (T := TX4) (N := 6) wz_X4 0 rfl rfl 0 (by decide) wf_X4_12 rfl dX4_bears_1 ?_
  refine j_get (pc := 4) X (C := RX1) (T := TX1) (N := 9) wz_X1 1 rfl rfl 0 (by decide) wf_X4_44 rfl dX4_bears_4 ?_
  refine j_iload_n (pc := 7) X dX4_bears_7 rfl (q := 1) rfl ?_
  refine j_callVR (pc := 8) X (st := [])  (c_X2_has l D tA (a 1) (a 6) 5 3 (sM s) m0 (by first | assumption | omega | decide) (by first | assumption | omega | decide) (by first | assumption | omega | decide)) cd_X2_has wm_X4_81 3 rfl rfl rfl [3, 4] rfl rfl ⟨Nat.le_of_ble_eq_true rfl, Nat.le_of_ble_eq_true rfl⟩ ⟨Nat.zero_le _, Nat.zero_le _⟩ rfl (Nat.le_of_ble_eq_true rfl) dX4_bears_8 ?_
  refine j_if_ne (pc := 11) X (tgt := 16) (P := (inR m0 (sM s).1) = true) dX4_bears_11 (by decide) (bI_n0 _) (fun h11 => ?_) (fun h11 => ?_)
  · skip
    skip
    obtain ⟨mm, hc11, rfl⟩ := inR_t h11
    have emm : tn (nI mm) = mm := tn_nI (by omega)
    refine j_iload_n (pc := 16) X dX4_bears_16 rfl (q := 2) rfl ?_
    refine j_callSR (pc := 17) X (st := [])  (c_X4_isRadius l D tA r0 ) cd_X4_isRadius wm_X4_170 rfl [] rfl rfl ⟨Nat.le_of_ble_eq_true rfl, Nat.le_of_ble_eq_true rfl⟩ ⟨Nat.zero_le _, Nat.zero_le _⟩ rfl (Nat.le_of_ble_eq_true rfl) dX4_bears_17 ?_
    refine j_if_ne (pc := 20) X (tgt := 26) (P := (isRad r0) = true) dX4_bears_20 (by decide) (bI_n0 _) (fun h20 => ?_) (fun h20 => ?_)
    · skip
      skip
      obtain ⟨rr, hc20, rfl⟩ := isRad_t h20
      have err : tn (nI rr) = rr := tn_nI (by omega)
      refine j_aload_n (pc := 26) X dX4_bears_26 rfl (q := 0) rfl ?_
      refine j_get (pc := 27) X (C := RX4) (T := TX4) (N := 6) wz_X4 0 rfl rfl 0 (by decide) wf_X4_12 rfl dX4_bears_27 ?_
      refine j_iload_n (pc := 30) X dX4_bears_30 rfl (q := 1) rfl ?_
      refine j_iload_n (pc := 31) X dX4_bears_31 rfl (q := 2) rfl ?_
      refine j_callVR (pc := 32) X (st := [])  (c_X1_borneBy l D tA a s mm rr hw hc11 (by omega)) cd_X1_borneBy wm_X4_173 1 rfl rfl rfl [1, 2, 3, 4, 5, 6, 7, 8, 9, 10] rfl rfl ⟨Nat.le_of_ble_eq_true rfl, Nat.le_of_ble_eq_true rfl⟩ ⟨Nat.zero_le _, Nat.zero_le _⟩ rfl (Nat.le_of_ble_eq_true rfl) dX4_bears_32 ?_
      have e : oBears s (nI mm) (nI rr) = (nI (brn (sM s) mm rr)) := by unfold oBears; simp only [emm, err]; rw [if_pos h11, if_pos h20] <;> rfl
      exact j_endI (pc := 35) E dX4_bears_35 (by rw [e]) rfl
    · skip
      skip
      refine j_bipush (pc := 23) X (v := (-2)) dX4_bears_23 (by decide) ?_
      have e : oBears s (nI mm) r0 = (-2) := by unfold oBears; simp only [emm]; rw [if_pos h11, if_neg h20] <;> rfl
      exact j_endI (pc := 25) E dX4_bears_25 (by rw [e]) rfl
  · skip
    skip
    refine j_iconst (pc := 14) X (v := (-1)) dX4_bears_14 (by decide) ?_
    have e : oBears s m0 r0 = (-1) := by unfold oBears; rw [if_neg h11] <;> rfl
    exact j_endI (pc := 15) E dX4_bears_15 (by rw [e]) rfl
theorem cd_X4_machine : kCardV yX4_machine cX4_machine 3 (some .int) 2 := ⟨⟨wc_X4_machine, wi_X4, by decide +kernel, by decide +kernel, rfl⟩, wk_X4_machine, ws_X4_machine⟩
set_option maxHeartbeats 4000000 in
set_option maxRecDepth 100000 in
theorem c_X4_machine (l : Launch) (D : va_G) (tA : Nat → ClassId) (c : Nat) (a b f h x : Nat → Nat) (k : Bool) (s : Sg) (m0 w0 : Int32) (hw : Wf s) : Kx l D tA yX4_machine cX4_machine 3 (some .int) 2 49 [.ref c, .int m0, .int w0] (clW c a b f h x k ++ (stW tA a s)) (some (.int (oMachine s m0 w0))) (clW c a b f h x k ++ (stW tA a s)) := by
  refine kx_int rfl (Nat.le_of_ble_eq_true rfl) (fun G X E => ?_)
  show J l D G 0 0 (clW c a b f h x k ++ (stW tA a s)) [(0, .ref c), (1, .int m0), (2, .int w0)] 0 []
  have hn := hw.n
  refine j_aload_n (pc := 0) X dX4_machine_0 rfl (q := 0) rfl ?_
  refine j_get (pc := 1) X (C := RX4) (T := TX4) (N := 6) wz_X4 0 rfl rfl 0 (by decide) wf_X4_12 rfl dX4_machine_1 ?_
  refine j_get (pc := 4) X (C := RX1) (T := TX1) (N := 9) wz_X1 1 rfl rfl 0 (by decide) wf_X4_44 rfl dX4_machine_4 ?_
  refine j_iload_n (pc := 7) X dX4_machine_7 rfl (q := 1) rfl ?_
  refine j_callVR (pc := 8) X (st := [])  (c_X2_has l D tA (a 1) (a 6) 5 3 (sM s) m0 (by first | assumption | omega | decide) (by first | assumption | omega | decide) (by first | assumption | omega | decide)) cd_X2_has wm_X4_81 3 rfl rfl rfl [3, 4] rfl rfl ⟨Nat.le_of_ble_eq_true rfl, Nat.le_of_ble_eq_true rfl⟩ ⟨Nat.zero_le _, Nat.zero_le _⟩ rfl (Nat.le_of_ble_eq_true rfl) dX4_machine_8 ?_
  refine j_if_ne (pc := 11) X (tgt := 16) (P := (inR m0 (sM s).1) = true) dX4_machine_11 (by decide) (bI_n0 _) (fun h11 => ?_) (fun h11 => ?_)
  · skip
    skip
    obtain ⟨mm, hc11, rfl⟩ := inR_t h11
    have emm : tn (nI mm) = mm := tn_nI (by omega)
    refine j_iload_n (pc := 16) X dX4_machine_16 rfl (q := 2) rfl ?_
    rcases Decidable.em (w0.toInt < 0 ∨ 6 < w0.toInt) with hs | hs
    · refine j_swOut (pc := 17) X (tgt := 155) dX4_machine_17 hs (by decide) ?_
      refine j_bipush (pc := 155) X (v := (-2)) dX4_machine_155 (by decide) ?_
      have e : oMachine s (nI mm) w0 = (-2) := by unfold oMachine; simp only [emm]; rw [if_pos h11, if_neg (by omega), if_neg (by omega), if_neg (by omega), if_neg (by omega), if_neg (by omega), if_neg (by omega), if_neg (by omega)] <;> rfl
      exact j_endI (pc := 157) E dX4_machine_157 (by rw [e]) rfl
    have hs : w0.toInt = 0 ∨ w0.toInt = 1 ∨ w0.toInt = 2 ∨ w0.toInt = 3 ∨ w0.toInt = 4 ∨ w0.toInt = 5 ∨ w0.toInt = 6 := by omega
    rcases hs with hs | hs | hs | hs | hs | hs | hs
    · refine j_swIn (pc := 17) X (off := 43) (tgt := 60) dX4_machine_17 (by omega) (by omega) (by rw [hs]; rfl) (by decide) ?_
      refine j_aload_n (pc := 60) X dX4_machine_60 rfl (q := 0) rfl ?_
      refine j_get (pc := 61) X (C := RX4) (T := TX4) (N := 6) wz_X4 0 rfl rfl 0 (by decide) wf_X4_12 rfl dX4_machine_61 ?_
      refine j_get (pc := 64) X (C := RX1) (T := TX1) (N := 9) wz_X1 1 rfl rfl 0 (by decide) wf_X4_44 rfl dX4_machine_64 ?_
      refine j_iload_n (pc := 67) X dX4_machine_67 rfl (q := 1) rfl ?_
      refine j_iconst (pc := 68) X (v := (nI 0)) dX4_machine_68 (by decide) ?_
      refine j_callVR (pc := 69) X (st := [])  (c_X2_get l D tA (a 1) (a 6) 5 3 (sM s) mm 0 (by first | assumption | omega | decide) (by first | assumption | omega | decide) (by first | assumption | omega | decide) (by first | assumption | omega | decide) (by first | assumption | omega | decide) (by first | assumption | omega | decide)) cd_X2_get wm_X4_106 3 rfl rfl rfl [3, 4] rfl rfl ⟨Nat.le_of_ble_eq_true rfl, Nat.le_of_ble_eq_true rfl⟩ ⟨Nat.zero_le _, Nat.zero_le _⟩ rfl (Nat.le_of_ble_eq_true rfl) dX4_machine_69 ?_
      have e : oMachine s (nI mm) w0 = (nI (tGet 3 (sM s) mm 0)) := by unfold oMachine; simp only [emm]; rw [if_pos h11, if_pos hs] <;> rfl
      exact j_endI (pc := 72) E dX4_machine_72 (by rw [e]) rfl
    · refine j_swIn (pc := 17) X (off := 56) (tgt := 73) dX4_machine_17 (by omega) (by omega) (by rw [hs]; rfl) (by decide) ?_
      refine j_aload_n (pc := 73) X dX4_machine_73 rfl (q := 0) rfl ?_
      refine j_get (pc := 74) X (C := RX4) (T := TX4) (N := 6) wz_X4 0 rfl rfl 0 (by decide) wf_X4_12 rfl dX4_machine_74 ?_
      refine j_get (pc := 77) X (C := RX1) (T := TX1) (N := 9) wz_X1 1 rfl rfl 0 (by decide) wf_X4_44 rfl dX4_machine_77 ?_
      refine j_iload_n (pc := 80) X dX4_machine_80 rfl (q := 1) rfl ?_
      refine j_iconst (pc := 81) X (v := (nI 1)) dX4_machine_81 (by decide) ?_
      refine j_callVR (pc := 82) X (st := [])  (c_X2_get l D tA (a 1) (a 6) 5 3 (sM s) mm 1 (by first | assumption | omega | decide) (by first | assumption | omega | decide) (by first | assumption | omega | decide) (by first | assumption | omega | decide) (by first | assumption | omega | decide) (by first | assumption | omega | decide)) cd_X2_get wm_X4_106 3 rfl rfl rfl [3, 4] rfl rfl ⟨Nat.le_of_ble_eq_true rfl, Nat.le_of_ble_eq_true rfl⟩ ⟨Nat.zero_le _, Nat.zero_le _⟩ rfl (Nat.le_of_ble_eq_true rfl) dX4_machine_82 ?_
      have e : oMachine s (nI mm) w0 = (nI (tGet 3 (sM s) mm 1)) := by unfold oMachine; simp only [emm]; rw [if_pos h11, if_neg (by omega), if_pos hs] <;> rfl
      exact j_endI (pc := 85) E dX4_machine_85 (by rw [e]) rfl
    · refine j_swIn (pc := 17) X (off := 69) (tgt := 86) dX4_machine_17 (by omega) (by omega) (by rw [hs]; rfl) (by decide) ?_
      refine j_aload_n (pc := 86) X dX4_machine_86 rfl (q := 0) rfl ?_
      refine j_get (pc := 87) X (C := RX4) (T := TX4) (N := 6) wz_X4 0 rfl rfl 0 (by decide) wf_X4_12 rfl dX4_machine_87 ?_
      refine j_get (pc := 90) X (C := RX1) (T := TX1) (N := 9) wz_X1 1 rfl rfl 2 (by decide) wf_X4_92 rfl dX4_machine_90 ?_
      refine j_iconst (pc := 93) X (v := (nI 1)) dX4_machine_93 (by decide) ?_
      refine j_iload_n (pc := 94) X dX4_machine_94 rfl (q := 1) rfl ?_
      refine j_iconst (pc := 95) X (v := (nI 5)) dX4_machine_95 (by decide) ?_
      refine j_iconst (pc := 96) X (v := (nI 0)) dX4_machine_96 (by decide) ?_
      refine j_callVR (pc := 97) X (st := [])  (c_X2_countBoth l D tA (a 3) (a 8) 30 8 (sB s) 1 mm 5 0 (by decide) (by decide) (by omega) (by decide) (by decide) (fun r hr => by have := hw.b hr; omega) (by omega) (by decide) (fun r hr => by have := hw.b hr; omega) (by decide)) cd_X2_countBoth wm_X4_182 7 rfl rfl rfl [7, 8] rfl rfl ⟨Nat.le_of_ble_eq_true rfl, Nat.le_of_ble_eq_true rfl⟩ ⟨Nat.zero_le _, Nat.zero_le _⟩ rfl (Nat.le_of_ble_eq_true rfl) dX4_machine_97 ?_
      have e : oMachine s (nI mm) w0 = (nI (cntN (fun r => decide (tGet 8 (sB s) r 1 = mm ∧ tGet 8 (sB s) r 5 = 0)) (sB s).1)) := by unfold oMachine; simp only [emm]; rw [if_pos h11, if_neg (by omega), if_neg (by omega), if_pos hs] <;> rfl
      exact j_endI (pc := 100) E dX4_machine_100 (by rw [e]) rfl
    · refine j_swIn (pc := 17) X (off := 84) (tgt := 101) dX4_machine_17 (by omega) (by omega) (by rw [hs]; rfl) (by decide) ?_
      refine j_aload_n (pc := 101) X dX4_machine_101 rfl (q := 0) rfl ?_
      refine j_get (pc := 102) X (C := RX4) (T := TX4) (N := 6) wz_X4 0 rfl rfl 0 (by decide) wf_X4_12 rfl dX4_machine_102 ?_
      refine j_get (pc := 105) X (C := RX1) (T := TX1) (N := 9) wz_X1 1 rfl rfl 3 (by decide) wf_X4_122 rfl dX4_machine_105 ?_
      refine j_iconst (pc := 108) X (v := (nI 1)) dX4_machine_108 (by decide) ?_
      refine j_iload_n (pc := 109) X dX4_machine_109 rfl (q := 1) rfl ?_
      refine j_callVR (pc := 110) X (st := [])  (c_X2_countOf l D tA (a 4) (a 9) 10 5 (sV s) 1 mm (by decide) (by decide) (by omega) (by decide) (by decide) (fun r hr => by have := hw.v hr; omega) (by omega)) cd_X2_countOf wm_X4_186 9 rfl rfl rfl [9, 10] rfl rfl ⟨Nat.le_of_ble_eq_true rfl, Nat.le_of_ble_eq_true rfl⟩ ⟨Nat.zero_le _, Nat.zero_le _⟩ rfl (Nat.le_of_ble_eq_true rfl) dX4_machine_110 ?_
      have e : oMachine s (nI mm) w0 = (nI (cntN (fun r => decide (tGet 5 (sV s) r 1 = mm)) (sV s).1)) := by unfold oMachine; simp only [emm]; rw [if_pos h11, if_neg (by omega), if_neg (by omega), if_neg (by omega), if_pos hs] <;> rfl
      exact j_endI (pc := 113) E dX4_machine_113 (by rw [e]) rfl
    · refine j_swIn (pc := 17) X (off := 97) (tgt := 114) dX4_machine_17 (by omega) (by omega) (by rw [hs]; rfl) (by decide) ?_
      refine j_aload_n (pc := 114) X dX4_machine_114 rfl (q := 0) rfl ?_
      refine j_get (pc := 115) X (C := RX4) (T := TX4) (N := 6) wz_X4 0 rfl rfl 0 (by decide) wf_X4_12 rfl dX4_machine_115 ?_
      refine j_get (pc := 118) X (C := RX1) (T := TX1) (N := 9) wz_X1 1 rfl rfl 3 (by decide) wf_X4_122 rfl dX4_machine_118 ?_
      refine j_iconst (pc := 121) X (v := (nI 2)) dX4_machine_121 (by decide) ?_
      refine j_iload_n (pc := 122) X dX4_machine_122 rfl (q := 1) rfl ?_
      refine j_callVR (pc := 123) X (st := [])  (c_X2_countOf l D tA (a 4) (a 9) 10 5 (sV s) 2 mm (by decide) (by decide) (by omega) (by decide) (by decide) (fun r hr => by have := hw.v hr; omega) (by omega)) cd_X2_countOf wm_X4_186 9 rfl rfl rfl [9, 10] rfl rfl ⟨Nat.le_of_ble_eq_true rfl, Nat.le_of_ble_eq_true rfl⟩ ⟨Nat.zero_le _, Nat.zero_le _⟩ rfl (Nat.le_of_ble_eq_true rfl) dX4_machine_123 ?_
      have e : oMachine s (nI mm) w0 = (nI (cntN (fun r => decide (tGet 5 (sV s) r 2 = mm)) (sV s).1)) := by unfold oMachine; simp only [emm]; rw [if_pos h11, if_neg (by omega), if_neg (by omega), if_neg (by omega), if_neg (by omega), if_pos hs] <;> rfl
      exact j_endI (pc := 126) E dX4_machine_126 (by rw [e]) rfl
    · refine j_swIn (pc := 17) X (off := 110) (tgt := 127) dX4_machine_17 (by omega) (by omega) (by rw [hs]; rfl) (by decide) ?_
      refine j_aload_n (pc := 127) X dX4_machine_127 rfl (q := 0) rfl ?_
      refine j_get (pc := 128) X (C := RX4) (T := TX4) (N := 6) wz_X4 0 rfl rfl 0 (by decide) wf_X4_12 rfl dX4_machine_128 ?_
      refine j_get (pc := 131) X (C := RX1) (T := TX1) (N := 9) wz_X1 1 rfl rfl 0 (by decide) wf_X4_44 rfl dX4_machine_131 ?_
      refine j_iload_n (pc := 134) X dX4_machine_134 rfl (q := 1) rfl ?_
      refine j_iconst (pc := 135) X (v := (nI 2)) dX4_machine_135 (by decide) ?_
      refine j_callVR (pc := 136) X (st := [])  (c_X2_get l D tA (a 1) (a 6) 5 3 (sM s) mm 2 (by first | assumption | omega | decide) (by first | assumption | omega | decide) (by first | assumption | omega | decide) (by first | assumption | omega | decide) (by first | assumption | omega | decide) (by first | assumption | omega | decide)) cd_X2_get wm_X4_106 3 rfl rfl rfl [3, 4] rfl rfl ⟨Nat.le_of_ble_eq_true rfl, Nat.le_of_ble_eq_true rfl⟩ ⟨Nat.zero_le _, Nat.zero_le _⟩ rfl (Nat.le_of_ble_eq_true rfl) dX4_machine_136 ?_
      have e : oMachine s (nI mm) w0 = (nI (tGet 3 (sM s) mm 2)) := by unfold oMachine; simp only [emm]; rw [if_pos h11, if_neg (by omega), if_neg (by omega), if_neg (by omega), if_neg (by omega), if_neg (by omega), if_pos hs] <;> rfl
      exact j_endI (pc := 139) E dX4_machine_139 (by rw [e]) rfl
    · refine j_swIn (pc := 17) X (off := 123) (tgt := 140) dX4_machine_17 (by omega) (by omega) (by rw [hs]; rfl) (by decide) ?_
      refine j_aload_n (pc := 140) X dX4_machine_140 rfl (q := 0) rfl ?_
      refine j_get (pc := 141) X (C := RX4) (T := TX4) (N := 6) wz_X4 0 rfl rfl 0 (by decide) wf_X4_12 rfl dX4_machine_141 ?_
      refine j_get (pc := 144) X (C := RX1) (T := TX1) (N := 9) wz_X1 1 rfl rfl 2 (by decide) wf_X4_92 rfl dX4_machine_144 ?_
      refine j_iconst (pc := 147) X (v := (nI 1)) dX4_machine_147 (by decide) ?_
      refine j_iload_n (pc := 148) X dX4_machine_148 rfl (q := 1) rfl ?_
      refine j_iconst (pc := 149) X (v := (nI 5)) dX4_machine_149 (by decide) ?_
      refine j_iconst (pc := 150) X (v := (nI 1)) dX4_machine_150 (by decide) ?_
      refine j_callVR (pc := 151) X (st := [])  (c_X2_countBoth l D tA (a 3) (a 8) 30 8 (sB s) 1 mm 5 1 (by decide) (by decide) (by omega) (by decide) (by decide) (fun r hr => by have := hw.b hr; omega) (by omega) (by decide) (fun r hr => by have := hw.b hr; omega) (by decide)) cd_X2_countBoth wm_X4_182 7 rfl rfl rfl [7, 8] rfl rfl ⟨Nat.le_of_ble_eq_true rfl, Nat.le_of_ble_eq_true rfl⟩ ⟨Nat.zero_le _, Nat.zero_le _⟩ rfl (Nat.le_of_ble_eq_true rfl) dX4_machine_151 ?_
      have e : oMachine s (nI mm) w0 = (nI (cntN (fun r => decide (tGet 8 (sB s) r 1 = mm ∧ tGet 8 (sB s) r 5 = 1)) (sB s).1)) := by unfold oMachine; simp only [emm]; rw [if_pos h11, if_neg (by omega), if_neg (by omega), if_neg (by omega), if_neg (by omega), if_neg (by omega), if_neg (by omega), if_pos hs] <;> rfl
      exact j_endI (pc := 154) E dX4_machine_154 (by rw [e]) rfl
  · skip
    skip
    refine j_iconst (pc := 14) X (v := (-1)) dX4_machine_14 (by decide) ?_
    have e : oMachine s m0 w0 = (-1) := by unfold oMachine; rw [if_neg h11] <;> rfl
    exact j_endI (pc := 15) E dX4_machine_15 (by rw [e]) rfl
theorem cd_X4_member : kCardV yX4_member cX4_member 3 (some .int) 2 := ⟨⟨wc_X4_member, wi_X4, by decide +kernel, by decide +kernel, rfl⟩, wk_X4_member, ws_X4_member⟩
set_option maxHeartbeats 4000000 in
set_option maxRecDepth 100000 in
theorem c_X4_member (l : Launch) (D : va_G) (tA : Nat → ClassId) (c : Nat) (a b f h x : Nat → Nat) (k : Bool) (s : Sg) (p0 w0 : Int32) (hw : Wf s) : Kx l D tA yX4_member cX4_member 3 (some .int) 2 49 [.ref c, .int p0, .int w0] (clW c a b f h x k ++ (stW tA a s)) (some (.int (oMember s p0 w0))) (clW c a b f h x k ++ (stW tA a s)) := by
  refine kx_int rfl (Nat.le_of_ble_eq_true rfl) (fun G X E => ?_)
  show J l D G 0 0 (clW c a b f h x k ++ (stW tA a s)) [(0, .ref c), (1, .int p0), (2, .int w0)] 0 []
  have hn := hw.n
  refine j_aload_n (pc := 0) X dX4_member_0 rfl (q := 0) rfl ?_
  refine j_get (pc := 1) X (C := RX4) (T := TX4) (N := 6) wz_X4 0 rfl rfl 0 (by decide) wf_X4_12 rfl dX4_member_1 ?_
  refine j_get (pc := 4) X (C := RX1) (T := TX1) (N := 9) wz_X1 1 rfl rfl 1 (by decide) wf_X4_62 rfl dX4_member_4 ?_
  refine j_iload_n (pc := 7) X dX4_member_7 rfl (q := 1) rfl ?_
  refine j_callVR (pc := 8) X (st := [])  (c_X2_has l D tA (a 2) (a 7) 8 2 (sP s) p0 (by first | assumption | omega | decide) (by first | assumption | omega | decide) (by first | assumption | omega | decide)) cd_X2_has wm_X4_81 5 rfl rfl rfl [5, 6] rfl rfl ⟨Nat.le_of_ble_eq_true rfl, Nat.le_of_ble_eq_true rfl⟩ ⟨Nat.zero_le _, Nat.zero_le _⟩ rfl (Nat.le_of_ble_eq_true rfl) dX4_member_8 ?_
  refine j_if_ne (pc := 11) X (tgt := 16) (P := (inR p0 (sP s).1) = true) dX4_member_11 (by decide) (bI_n0 _) (fun h11 => ?_) (fun h11 => ?_)
  · skip
    skip
    obtain ⟨pp, hc11, rfl⟩ := inR_t h11
    have epp : tn (nI pp) = pp := tn_nI (by omega)
    refine j_iload_n (pc := 16) X dX4_member_16 rfl (q := 2) rfl ?_
    rcases Decidable.em (w0.toInt < 0 ∨ 6 < w0.toInt) with hs | hs
    · refine j_swOut (pc := 17) X (tgt := 159) dX4_member_17 hs (by decide) ?_
      refine j_bipush (pc := 159) X (v := (-2)) dX4_member_159 (by decide) ?_
      have e : oMember s (nI pp) w0 = (-2) := by unfold oMember; simp only [epp]; rw [if_pos h11, if_neg (by omega), if_neg (by omega), if_neg (by omega), if_neg (by omega), if_neg (by omega), if_neg (by omega), if_neg (by omega)] <;> rfl
      exact j_endI (pc := 161) E dX4_member_161 (by rw [e]) rfl
    have hs : w0.toInt = 0 ∨ w0.toInt = 1 ∨ w0.toInt = 2 ∨ w0.toInt = 3 ∨ w0.toInt = 4 ∨ w0.toInt = 5 ∨ w0.toInt = 6 := by omega
    rcases hs with hs | hs | hs | hs | hs | hs | hs
    · refine j_swIn (pc := 17) X (off := 43) (tgt := 60) dX4_member_17 (by omega) (by omega) (by rw [hs]; rfl) (by decide) ?_
      refine j_aload_n (pc := 60) X dX4_member_60 rfl (q := 0) rfl ?_
      refine j_get (pc := 61) X (C := RX4) (T := TX4) (N := 6) wz_X4 0 rfl rfl 0 (by decide) wf_X4_12 rfl dX4_member_61 ?_
      refine j_get (pc := 64) X (C := RX1) (T := TX1) (N := 9) wz_X1 1 rfl rfl 1 (by decide) wf_X4_62 rfl dX4_member_64 ?_
      refine j_iload_n (pc := 67) X dX4_member_67 rfl (q := 1) rfl ?_
      refine j_iconst (pc := 68) X (v := (nI 0)) dX4_member_68 (by decide) ?_
      refine j_callVR (pc := 69) X (st := [])  (c_X2_get l D tA (a 2) (a 7) 8 2 (sP s) pp 0 (by first | assumption | omega | decide) (by first | assumption | omega | decide) (by first | assumption | omega | decide) (by first | assumption | omega | decide) (by first | assumption | omega | decide) (by first | assumption | omega | decide)) cd_X2_get wm_X4_106 5 rfl rfl rfl [5, 6] rfl rfl ⟨Nat.le_of_ble_eq_true rfl, Nat.le_of_ble_eq_true rfl⟩ ⟨Nat.zero_le _, Nat.zero_le _⟩ rfl (Nat.le_of_ble_eq_true rfl) dX4_member_69 ?_
      have e : oMember s (nI pp) w0 = (nI (tGet 2 (sP s) pp 0)) := by unfold oMember; simp only [epp]; rw [if_pos h11, if_pos hs] <;> rfl
      exact j_endI (pc := 72) E dX4_member_72 (by rw [e]) rfl
    · refine j_swIn (pc := 17) X (off := 56) (tgt := 73) dX4_member_17 (by omega) (by omega) (by rw [hs]; rfl) (by decide) ?_
      refine j_aload_n (pc := 73) X dX4_member_73 rfl (q := 0) rfl ?_
      refine j_get (pc := 74) X (C := RX4) (T := TX4) (N := 6) wz_X4 0 rfl rfl 0 (by decide) wf_X4_12 rfl dX4_member_74 ?_
      refine j_get (pc := 77) X (C := RX1) (T := TX1) (N := 9) wz_X1 1 rfl rfl 2 (by decide) wf_X4_92 rfl dX4_member_77 ?_
      refine j_iconst (pc := 80) X (v := (nI 0)) dX4_member_80 (by decide) ?_
      refine j_iload_n (pc := 81) X dX4_member_81 rfl (q := 1) rfl ?_
      refine j_iconst (pc := 82) X (v := (nI 5)) dX4_member_82 (by decide) ?_
      refine j_iconst (pc := 83) X (v := (nI 0)) dX4_member_83 (by decide) ?_
      refine j_callVR (pc := 84) X (st := [])  (c_X2_countBoth l D tA (a 3) (a 8) 30 8 (sB s) 0 pp 5 0 (by decide) (by decide) (by omega) (by decide) (by decide) (fun r hr => by have := hw.b hr; omega) (by omega) (by decide) (fun r hr => by have := hw.b hr; omega) (by decide)) cd_X2_countBoth wm_X4_182 7 rfl rfl rfl [7, 8] rfl rfl ⟨Nat.le_of_ble_eq_true rfl, Nat.le_of_ble_eq_true rfl⟩ ⟨Nat.zero_le _, Nat.zero_le _⟩ rfl (Nat.le_of_ble_eq_true rfl) dX4_member_84 ?_
      have e : oMember s (nI pp) w0 = (nI (cntN (fun r => decide (tGet 8 (sB s) r 0 = pp ∧ tGet 8 (sB s) r 5 = 0)) (sB s).1)) := by unfold oMember; simp only [epp]; rw [if_pos h11, if_neg (by omega), if_pos hs] <;> rfl
      exact j_endI (pc := 87) E dX4_member_87 (by rw [e]) rfl
    · refine j_swIn (pc := 17) X (off := 71) (tgt := 88) dX4_member_17 (by omega) (by omega) (by rw [hs]; rfl) (by decide) ?_
      refine j_aload_n (pc := 88) X dX4_member_88 rfl (q := 0) rfl ?_
      refine j_get (pc := 89) X (C := RX4) (T := TX4) (N := 6) wz_X4 0 rfl rfl 0 (by decide) wf_X4_12 rfl dX4_member_89 ?_
      refine j_get (pc := 92) X (C := RX1) (T := TX1) (N := 9) wz_X1 1 rfl rfl 2 (by decide) wf_X4_92 rfl dX4_member_92 ?_
      refine j_iconst (pc := 95) X (v := (nI 0)) dX4_member_95 (by decide) ?_
      refine j_iload_n (pc := 96) X dX4_member_96 rfl (q := 1) rfl ?_
      refine j_iconst (pc := 97) X (v := (nI 5)) dX4_member_97 (by decide) ?_
      refine j_iconst (pc := 98) X (v := (nI 1)) dX4_member_98 (by decide) ?_
      refine j_callVR (pc := 99) X (st := [])  (c_X2_countBoth l D tA (a 3) (a 8) 30 8 (sB s) 0 pp 5 1 (by decide) (by decide) (by omega) (by decide) (by decide) (fun r hr => by have := hw.b hr; omega) (by omega) (by decide) (fun r hr => by have := hw.b hr; omega) (by decide)) cd_X2_countBoth wm_X4_182 7 rfl rfl rfl [7, 8] rfl rfl ⟨Nat.le_of_ble_eq_true rfl, Nat.le_of_ble_eq_true rfl⟩ ⟨Nat.zero_le _, Nat.zero_le _⟩ rfl (Nat.le_of_ble_eq_true rfl) dX4_member_99 ?_
      have e : oMember s (nI pp) w0 = (nI (cntN (fun r => decide (tGet 8 (sB s) r 0 = pp ∧ tGet 8 (sB s) r 5 = 1)) (sB s).1)) := by unfold oMember; simp only [epp]; rw [if_pos h11, if_neg (by omega), if_neg (by omega), if_pos hs] <;> rfl
      exact j_endI (pc := 102) E dX4_member_102 (by rw [e]) rfl
    · refine j_swIn (pc := 17) X (off := 86) (tgt := 103) dX4_member_17 (by omega) (by omega) (by rw [hs]; rfl) (by decide) ?_
      refine j_aload_n (pc := 103) X dX4_member_103 rfl (q := 0) rfl ?_
      refine j_get (pc := 104) X (C := RX4) (T := TX4) (N := 6) wz_X4 0 rfl rfl 0 (by decide) wf_X4_12 rfl dX4_member_104 ?_
      refine j_get (pc := 107) X (C := RX1) (T := TX1) (N := 9) wz_X1 1 rfl rfl 2 (by decide) wf_X4_92 rfl dX4_member_107 ?_
      refine j_iconst (pc := 110) X (v := (nI 0)) dX4_member_110 (by decide) ?_
      refine j_iload_n (pc := 111) X dX4_member_111 rfl (q := 1) rfl ?_
      refine j_iconst (pc := 112) X (v := (nI 5)) dX4_member_112 (by decide) ?_
      refine j_iconst (pc := 113) X (v := (nI 2)) dX4_member_113 (by decide) ?_
      refine j_callVR (pc := 114) X (st := [])  (c_X2_countBoth l D tA (a 3) (a 8) 30 8 (sB s) 0 pp 5 2 (by decide) (by decide) (by omega) (by decide) (by decide) (fun r hr => by have := hw.b hr; omega) (by omega) (by decide) (fun r hr => by have := hw.b hr; omega) (by decide)) cd_X2_countBoth wm_X4_182 7 rfl rfl rfl [7, 8] rfl rfl ⟨Nat.le_of_ble_eq_true rfl, Nat.le_of_ble_eq_true rfl⟩ ⟨Nat.zero_le _, Nat.zero_le _⟩ rfl (Nat.le_of_ble_eq_true rfl) dX4_member_114 ?_
      have e : oMember s (nI pp) w0 = (nI (cntN (fun r => decide (tGet 8 (sB s) r 0 = pp ∧ tGet 8 (sB s) r 5 = 2)) (sB s).1)) := by unfold oMember; simp only [epp]; rw [if_pos h11, if_neg (by omega), if_neg (by omega), if_neg (by omega), if_pos hs] <;> rfl
      exact j_endI (pc := 117) E dX4_member_117 (by rw [e]) rfl
    · refine j_swIn (pc := 17) X (off := 101) (tgt := 118) dX4_member_17 (by omega) (by omega) (by rw [hs]; rfl) (by decide) ?_
      refine j_aload_n (pc := 118) X dX4_member_118 rfl (q := 0) rfl ?_
      refine j_get (pc := 119) X (C := RX4) (T := TX4) (N := 6) wz_X4 0 rfl rfl 0 (by decide) wf_X4_12 rfl dX4_member_119 ?_
      refine j_get (pc := 122) X (C := RX1) (T := TX1) (N := 9) wz_X1 1 rfl rfl 2 (by decide) wf_X4_92 rfl dX4_member_122 ?_
      refine j_iconst (pc := 125) X (v := (nI 0)) dX4_member_125 (by decide) ?_
      refine j_iload_n (pc := 126) X dX4_member_126 rfl (q := 1) rfl ?_
      refine j_iconst (pc := 127) X (v := (nI 5)) dX4_member_127 (by decide) ?_
      refine j_iconst (pc := 128) X (v := (nI 3)) dX4_member_128 (by decide) ?_
      refine j_callVR (pc := 129) X (st := [])  (c_X2_countBoth l D tA (a 3) (a 8) 30 8 (sB s) 0 pp 5 3 (by decide) (by decide) (by omega) (by decide) (by decide) (fun r hr => by have := hw.b hr; omega) (by omega) (by decide) (fun r hr => by have := hw.b hr; omega) (by decide)) cd_X2_countBoth wm_X4_182 7 rfl rfl rfl [7, 8] rfl rfl ⟨Nat.le_of_ble_eq_true rfl, Nat.le_of_ble_eq_true rfl⟩ ⟨Nat.zero_le _, Nat.zero_le _⟩ rfl (Nat.le_of_ble_eq_true rfl) dX4_member_129 ?_
      have e : oMember s (nI pp) w0 = (nI (cntN (fun r => decide (tGet 8 (sB s) r 0 = pp ∧ tGet 8 (sB s) r 5 = 3)) (sB s).1)) := by unfold oMember; simp only [epp]; rw [if_pos h11, if_neg (by omega), if_neg (by omega), if_neg (by omega), if_neg (by omega), if_pos hs] <;> rfl
      exact j_endI (pc := 132) E dX4_member_132 (by rw [e]) rfl
    · refine j_swIn (pc := 17) X (off := 116) (tgt := 133) dX4_member_17 (by omega) (by omega) (by rw [hs]; rfl) (by decide) ?_
      refine j_aload_n (pc := 133) X dX4_member_133 rfl (q := 0) rfl ?_
      refine j_get (pc := 134) X (C := RX4) (T := TX4) (N := 6) wz_X4 0 rfl rfl 0 (by decide) wf_X4_12 rfl dX4_member_134 ?_
      refine j_get (pc := 137) X (C := RX1) (T := TX1) (N := 9) wz_X1 1 rfl rfl 1 (by decide) wf_X4_62 rfl dX4_member_137 ?_
      refine j_iload_n (pc := 140) X dX4_member_140 rfl (q := 1) rfl ?_
      refine j_iconst (pc := 141) X (v := (nI 1)) dX4_member_141 (by decide) ?_
      refine j_callVR (pc := 142) X (st := [])  (c_X2_get l D tA (a 2) (a 7) 8 2 (sP s) pp 1 (by first | assumption | omega | decide) (by first | assumption | omega | decide) (by first | assumption | omega | decide) (by first | assumption | omega | decide) (by first | assumption | omega | decide) (by first | assumption | omega | decide)) cd_X2_get wm_X4_106 5 rfl rfl rfl [5, 6] rfl rfl ⟨Nat.le_of_ble_eq_true rfl, Nat.le_of_ble_eq_true rfl⟩ ⟨Nat.zero_le _, Nat.zero_le _⟩ rfl (Nat.le_of_ble_eq_true rfl) dX4_member_142 ?_
      have e : oMember s (nI pp) w0 = (nI (tGet 2 (sP s) pp 1)) := by unfold oMember; simp only [epp]; rw [if_pos h11, if_neg (by omega), if_neg (by omega), if_neg (by omega), if_neg (by omega), if_neg (by omega), if_pos hs] <;> rfl
      exact j_endI (pc := 145) E dX4_member_145 (by rw [e]) rfl
    · refine j_swIn (pc := 17) X (off := 129) (tgt := 146) dX4_member_17 (by omega) (by omega) (by rw [hs]; rfl) (by decide) ?_
      refine j_aload_n (pc := 146) X dX4_member_146 rfl (q := 0) rfl ?_
      refine j_get (pc := 147) X (C := RX4) (T := TX4) (N := 6) wz_X4 0 rfl rfl 0 (by decide) wf_X4_12 rfl dX4_member_147 ?_
      refine j_get (pc := 150) X (C := RX1) (T := TX1) (N := 9) wz_X1 1 rfl rfl 3 (by decide) wf_X4_122 rfl dX4_member_150 ?_
      refine j_iconst (pc := 153) X (v := (nI 0)) dX4_member_153 (by decide) ?_
      refine j_iload_n (pc := 154) X dX4_member_154 rfl (q := 1) rfl ?_
      refine j_callVR (pc := 155) X (st := [])  (c_X2_countOf l D tA (a 4) (a 9) 10 5 (sV s) 0 pp (by decide) (by decide) (by omega) (by decide) (by decide) (fun r hr => by have := hw.v hr; omega) (by omega)) cd_X2_countOf wm_X4_186 9 rfl rfl rfl [9, 10] rfl rfl ⟨Nat.le_of_ble_eq_true rfl, Nat.le_of_ble_eq_true rfl⟩ ⟨Nat.zero_le _, Nat.zero_le _⟩ rfl (Nat.le_of_ble_eq_true rfl) dX4_member_155 ?_
      have e : oMember s (nI pp) w0 = (nI (cntN (fun r => decide (tGet 5 (sV s) r 0 = pp)) (sV s).1)) := by unfold oMember; simp only [epp]; rw [if_pos h11, if_neg (by omega), if_neg (by omega), if_neg (by omega), if_neg (by omega), if_neg (by omega), if_neg (by omega), if_pos hs] <;> rfl
      exact j_endI (pc := 158) E dX4_member_158 (by rw [e]) rfl
  · skip
    skip
    refine j_iconst (pc := 14) X (v := (-1)) dX4_member_14 (by decide) ?_
    have e : oMember s p0 w0 = (-1) := by unfold oMember; rw [if_neg h11] <;> rfl
    exact j_endI (pc := 15) E dX4_member_15 (by rw [e]) rfl
theorem cd_X4_booking : kCardV yX4_booking cX4_booking 3 (some .int) 2 := ⟨⟨wc_X4_booking, wi_X4, by decide +kernel, by decide +kernel, rfl⟩, wk_X4_booking, ws_X4_booking⟩
set_option maxHeartbeats 4000000 in
set_option maxRecDepth 100000 in
theorem c_X4_booking (l : Launch) (D : va_G) (tA : Nat → ClassId) (c : Nat) (a b f h x : Nat → Nat) (k : Bool) (s : Sg) (b0 w0 : Int32) (hw : Wf s) : Kx l D tA yX4_booking cX4_booking 3 (some .int) 3 55 [.ref c, .int b0, .int w0] (clW c a b f h x k ++ (stW tA a s)) (some (.int (oBooking s b0 w0))) (clW c a b f h x k ++ (stW tA a s)) := by
  refine kx_int rfl (Nat.le_of_ble_eq_true rfl) (fun G X E => ?_)
  show J l D G 0 0 (clW c a b f h x k ++ (stW tA a s)) [(0, .ref c), (1, .int b0), (2, .int w0)] 0 []
  have hn := hw.n
  refine j_aload_n (pc := 0) X dX4_booking_0 rfl (q := 0) rfl ?_
  refine j_get (pc := 1) X (C := RX4) (T := TX4) (N := 6) wz_X4 0 rfl rfl 0 (by decide) wf_X4_12 rfl dX4_booking_1 ?_
  refine j_get (pc := 4) X (C := RX1) (T := TX1) (N := 9) wz_X1 1 rfl rfl 2 (by decide) wf_X4_92 rfl dX4_booking_4 ?_
  refine j_iload_n (pc := 7) X dX4_booking_7 rfl (q := 1) rfl ?_
  refine j_callVR (pc := 8) X (st := [])  (c_X2_has l D tA (a 3) (a 8) 30 8 (sB s) b0 (by first | assumption | omega | decide) (by first | assumption | omega | decide) (by first | assumption | omega | decide)) cd_X2_has wm_X4_81 7 rfl rfl rfl [7, 8] rfl rfl ⟨Nat.le_of_ble_eq_true rfl, Nat.le_of_ble_eq_true rfl⟩ ⟨Nat.zero_le _, Nat.zero_le _⟩ rfl (Nat.le_of_ble_eq_true rfl) dX4_booking_8 ?_
  refine j_if_ne (pc := 11) X (tgt := 16) (P := (inR b0 (sB s).1) = true) dX4_booking_11 (by decide) (bI_n0 _) (fun h11 => ?_) (fun h11 => ?_)
  · skip
    skip
    obtain ⟨bb, hc11, rfl⟩ := inR_t h11
    have ebb : tn (nI bb) = bb := tn_nI (by omega)
    refine j_iload_n (pc := 16) X dX4_booking_16 rfl (q := 2) rfl ?_
    refine j_bipush (pc := 17) X (v := (nI 8)) dX4_booking_17 (by decide) ?_
    refine j_icmp_ne (pc := 19) X (tgt := 31) (P := ¬ w0.toInt = ((8 : Nat) : Int)) dX4_booking_19 (by decide) (not_congr (iC_eqn (by omega))) (fun h19 => ?_) (fun h19 => ?_)
    · skip
      refine j_iload_n (pc := 31) X dX4_booking_31 rfl (q := 2) rfl ?_
      refine j_iconst (pc := 32) X (v := (nI 0)) dX4_booking_32 (by decide) ?_
      refine j_bipush (pc := 33) X (v := (nI 7)) dX4_booking_33 (by decide) ?_
      refine j_callSR (pc := 35) X (st := [])  (c_X4_isWithin l D tA w0 (nI 0) (nI 7) ) cd_X4_isWithin wm_X4_40 rfl [] rfl rfl ⟨Nat.le_of_ble_eq_true rfl, Nat.le_of_ble_eq_true rfl⟩ ⟨Nat.zero_le _, Nat.zero_le _⟩ rfl (Nat.le_of_ble_eq_true rfl) dX4_booking_35 ?_
      refine j_if_eq (pc := 38) X (tgt := 56) (P := (isW w0 (nI 0) (nI 7)) = false) dX4_booking_38 (by decide) (bI_0 _) (fun h38 => ?_) (fun h38 => ?_)
      · skip
        have h38 := nf5 h38
        refine j_bipush (pc := 56) X (v := (-2)) dX4_booking_56 (by decide) ?_
        have e : oBooking s (nI bb) w0 = (-2) := by unfold oBooking; simp only [ebb]; rw [if_pos h11, if_neg (by omega), if_neg h38] <;> rfl
        exact j_endI (pc := 58) E dX4_booking_58 (by rw [e]) rfl
      · skip
        have h38 := t5 h38
        obtain ⟨ww, hc38, rfl⟩ := isW_t (by omega) (by omega) h38
        have eww : tn (nI ww) = ww := tn_nI (by omega)
        refine j_aload_n (pc := 41) X dX4_booking_41 rfl (q := 0) rfl ?_
        refine j_get (pc := 42) X (C := RX4) (T := TX4) (N := 6) wz_X4 0 rfl rfl 0 (by decide) wf_X4_12 rfl dX4_booking_42 ?_
        refine j_get (pc := 45) X (C := RX1) (T := TX1) (N := 9) wz_X1 1 rfl rfl 2 (by decide) wf_X4_92 rfl dX4_booking_45 ?_
        refine j_iload_n (pc := 48) X dX4_booking_48 rfl (q := 1) rfl ?_
        refine j_iload_n (pc := 49) X dX4_booking_49 rfl (q := 2) rfl ?_
        refine j_callVR (pc := 50) X (st := [])  (c_X2_get l D tA (a 3) (a 8) 30 8 (sB s) bb ww (by first | assumption | omega | decide) (by first | assumption | omega | decide) (by first | assumption | omega | decide) (by first | assumption | omega | decide) (by first | assumption | omega | decide) (by first | assumption | omega | decide)) cd_X2_get wm_X4_106 7 rfl rfl rfl [7, 8] rfl rfl ⟨Nat.le_of_ble_eq_true rfl, Nat.le_of_ble_eq_true rfl⟩ ⟨Nat.zero_le _, Nat.zero_le _⟩ rfl (Nat.le_of_ble_eq_true rfl) dX4_booking_50 ?_
        refine j_goto (pc := 53) X (tgt := 58) dX4_booking_53 (by decide) ?_
        have e : oBooking s (nI bb) (nI ww) = (nI (tGet 8 (sB s) bb ww)) := by unfold oBooking; simp only [ebb, eww]; rw [if_pos h11, if_neg (by omega), if_pos h38] <;> rfl
        exact j_endI (pc := 58) E dX4_booking_58 (by rw [e]) rfl
    · skip
      refine j_aload_n (pc := 22) X dX4_booking_22 rfl (q := 0) rfl ?_
      refine j_get (pc := 23) X (C := RX4) (T := TX4) (N := 6) wz_X4 0 rfl rfl 0 (by decide) wf_X4_12 rfl dX4_booking_23 ?_
      refine j_iload_n (pc := 26) X dX4_booking_26 rfl (q := 1) rfl ?_
      refine j_callVR (pc := 27) X (st := [])  (c_X1_limitOf l D tA a s bb hw hc11) cd_X1_limitOf wm_X4_189 1 rfl rfl rfl [1, 2, 3, 4, 5, 6, 7, 8, 9, 10] rfl rfl ⟨Nat.le_of_ble_eq_true rfl, Nat.le_of_ble_eq_true rfl⟩ ⟨Nat.zero_le _, Nat.zero_le _⟩ rfl (Nat.le_of_ble_eq_true rfl) dX4_booking_27 ?_
      have e : oBooking s (nI bb) w0 = (nI (limO (sB s) bb)) := by unfold oBooking; simp only [ebb]; rw [if_pos h11, if_pos (by omega)] <;> rfl
      exact j_endI (pc := 30) E dX4_booking_30 (by rw [e]) rfl
  · skip
    skip
    refine j_iconst (pc := 14) X (v := (-1)) dX4_booking_14 (by decide) ?_
    have e : oBooking s b0 w0 = (-1) := by unfold oBooking; rw [if_neg h11] <;> rfl
    exact j_endI (pc := 15) E dX4_booking_15 (by rw [e]) rfl
theorem cd_X4_move : kCardV yX4_move cX4_move 3 (some .int) 2 := ⟨⟨wc_X4_move, wi_X4, by decide +kernel, by decide +kernel, rfl⟩, wk_X4_move, ws_X4_move⟩
set_option maxHeartbeats 4000000 in
set_option maxRecDepth 100000 in
theorem c_X4_move (l : Launch) (D : va_G) (tA : Nat → ClassId) (c : Nat) (a b f h x : Nat → Nat) (k : Bool) (s : Sg) (v0 w0 : Int32) (hw : Wf s) : Kx l D tA yX4_move cX4_move 3 (some .int) 1 23 [.ref c, .int v0, .int w0] (clW c a b f h x k ++ (stW tA a s)) (some (.int (oMove s v0 w0))) (clW c a b f h x k ++ (stW tA a s)) := by
  refine kx_int rfl (Nat.le_of_ble_eq_true rfl) (fun G X E => ?_)
  show J l D G 0 0 (clW c a b f h x k ++ (stW tA a s)) [(0, .ref c), (1, .int v0), (2, .int w0)] 0 []
  have hn := hw.n
  refine j_aload_n (pc := 0) X dX4_move_0 rfl (q := 0) rfl ?_
  refine j_get (pc := 1) X (C := RX4) (T := TX4) (N := 6) wz_X4 0 rfl rfl 0 (by decide) wf_X4_12 rfl dX4_move_1 ?_
  refine j_get (pc := 4) X (C := RX1) (T := TX1) (N := 9) wz_X1 1 rfl rfl 3 (by decide) wf_X4_122 rfl dX4_move_4 ?_
  refine j_iload_n (pc := 7) X dX4_move_7 rfl (q := 1) rfl ?_
  refine j_callVR (pc := 8) X (st := [])  (c_X2_has l D tA (a 4) (a 9) 10 5 (sV s) v0 (by first | assumption | omega | decide) (by first | assumption | omega | decide) (by first | assumption | omega | decide)) cd_X2_has wm_X4_81 9 rfl rfl rfl [9, 10] rfl rfl ⟨Nat.le_of_ble_eq_true rfl, Nat.le_of_ble_eq_true rfl⟩ ⟨Nat.zero_le _, Nat.zero_le _⟩ rfl (Nat.le_of_ble_eq_true rfl) dX4_move_8 ?_
  refine j_if_ne (pc := 11) X (tgt := 16) (P := (inR v0 (sV s).1) = true) dX4_move_11 (by decide) (bI_n0 _) (fun h11 => ?_) (fun h11 => ?_)
  · skip
    skip
    obtain ⟨vv, hc11, rfl⟩ := inR_t h11
    have evv : tn (nI vv) = vv := tn_nI (by omega)
    refine j_iload_n (pc := 16) X dX4_move_16 rfl (q := 2) rfl ?_
    refine j_iconst (pc := 17) X (v := (nI 0)) dX4_move_17 (by decide) ?_
    refine j_iconst (pc := 18) X (v := (nI 4)) dX4_move_18 (by decide) ?_
    refine j_callSR (pc := 19) X (st := [])  (c_X4_isWithin l D tA w0 (nI 0) (nI 4) ) cd_X4_isWithin wm_X4_40 rfl [] rfl rfl ⟨Nat.le_of_ble_eq_true rfl, Nat.le_of_ble_eq_true rfl⟩ ⟨Nat.zero_le _, Nat.zero_le _⟩ rfl (Nat.le_of_ble_eq_true rfl) dX4_move_19 ?_
    refine j_if_eq (pc := 22) X (tgt := 40) (P := (isW w0 (nI 0) (nI 4)) = false) dX4_move_22 (by decide) (bI_0 _) (fun h22 => ?_) (fun h22 => ?_)
    · skip
      have h22 := nf5 h22
      refine j_bipush (pc := 40) X (v := (-2)) dX4_move_40 (by decide) ?_
      have e : oMove s (nI vv) w0 = (-2) := by unfold oMove; simp only [evv]; rw [if_pos h11, if_neg h22] <;> rfl
      exact j_endI (pc := 42) E dX4_move_42 (by rw [e]) rfl
    · skip
      have h22 := t5 h22
      obtain ⟨ww, hc22, rfl⟩ := isW_t (by omega) (by omega) h22
      have eww : tn (nI ww) = ww := tn_nI (by omega)
      refine j_aload_n (pc := 25) X dX4_move_25 rfl (q := 0) rfl ?_
      refine j_get (pc := 26) X (C := RX4) (T := TX4) (N := 6) wz_X4 0 rfl rfl 0 (by decide) wf_X4_12 rfl dX4_move_26 ?_
      refine j_get (pc := 29) X (C := RX1) (T := TX1) (N := 9) wz_X1 1 rfl rfl 3 (by decide) wf_X4_122 rfl dX4_move_29 ?_
      refine j_iload_n (pc := 32) X dX4_move_32 rfl (q := 1) rfl ?_
      refine j_iload_n (pc := 33) X dX4_move_33 rfl (q := 2) rfl ?_
      refine j_callVR (pc := 34) X (st := [])  (c_X2_get l D tA (a 4) (a 9) 10 5 (sV s) vv ww (by first | assumption | omega | decide) (by first | assumption | omega | decide) (by first | assumption | omega | decide) (by first | assumption | omega | decide) (by first | assumption | omega | decide) (by first | assumption | omega | decide)) cd_X2_get wm_X4_106 9 rfl rfl rfl [9, 10] rfl rfl ⟨Nat.le_of_ble_eq_true rfl, Nat.le_of_ble_eq_true rfl⟩ ⟨Nat.zero_le _, Nat.zero_le _⟩ rfl (Nat.le_of_ble_eq_true rfl) dX4_move_34 ?_
      refine j_goto (pc := 37) X (tgt := 42) dX4_move_37 (by decide) ?_
      have e : oMove s (nI vv) (nI ww) = (nI (tGet 5 (sV s) vv ww)) := by unfold oMove; simp only [evv, eww]; rw [if_pos h11, if_pos h22] <;> rfl
      exact j_endI (pc := 42) E dX4_move_42 (by rw [e]) rfl
  · skip
    skip
    refine j_iconst (pc := 14) X (v := (-1)) dX4_move_14 (by decide) ?_
    have e : oMove s v0 w0 = (-1) := by unfold oMove; rw [if_neg h11] <;> rfl
    exact j_endI (pc := 15) E dX4_move_15 (by rw [e]) rfl
theorem cd_X4_bookedAt : kCardV yX4_bookedAt cX4_bookedAt 3 (some .int) 2 := ⟨⟨wc_X4_bookedAt, wi_X4, by decide +kernel, by decide +kernel, rfl⟩, wk_X4_bookedAt, ws_X4_bookedAt⟩
set_option maxHeartbeats 4000000 in
set_option maxRecDepth 100000 in
theorem c_X4_bookedAt (l : Launch) (D : va_G) (tA : Nat → ClassId) (c : Nat) (a b f h x : Nat → Nat) (k : Bool) (s : Sg) (m0 t0 : Int32) (hw : Wf s) : Kx l D tA yX4_bookedAt cX4_bookedAt 3 (some .int) 2 46 [.ref c, .int m0, .int t0] (clW c a b f h x k ++ (stW tA a s)) (some (.int (oBookedAt s m0 t0))) (clW c a b f h x k ++ (stW tA a s)) := by
  refine kx_int rfl (Nat.le_of_ble_eq_true rfl) (fun G X E => ?_)
  show J l D G 0 0 (clW c a b f h x k ++ (stW tA a s)) [(0, .ref c), (1, .int m0), (2, .int t0)] 0 []
  have hn := hw.n
  refine j_aload_n (pc := 0) X dX4_bookedAt_0 rfl (q := 0) rfl ?_
  refine j_get (pc := 1) X (C := RX4) (T := TX4) (N := 6) wz_X4 0 rfl rfl 0 (by decide) wf_X4_12 rfl dX4_bookedAt_1 ?_
  refine j_get (pc := 4) X (C := RX1) (T := TX1) (N := 9) wz_X1 1 rfl rfl 0 (by decide) wf_X4_44 rfl dX4_bookedAt_4 ?_
  refine j_iload_n (pc := 7) X dX4_bookedAt_7 rfl (q := 1) rfl ?_
  refine j_callVR (pc := 8) X (st := [])  (c_X2_has l D tA (a 1) (a 6) 5 3 (sM s) m0 (by first | assumption | omega | decide) (by first | assumption | omega | decide) (by first | assumption | omega | decide)) cd_X2_has wm_X4_81 3 rfl rfl rfl [3, 4] rfl rfl ⟨Nat.le_of_ble_eq_true rfl, Nat.le_of_ble_eq_true rfl⟩ ⟨Nat.zero_le _, Nat.zero_le _⟩ rfl (Nat.le_of_ble_eq_true rfl) dX4_bookedAt_8 ?_
  refine j_if_eq (pc := 11) X (tgt := 21) (P := (inR m0 (sM s).1) = false) dX4_bookedAt_11 (by decide) (bI_0 _) (fun h11 => ?_) (fun h11 => ?_)
  · skip
    have h11 := nf5 h11
    refine j_iconst (pc := 21) X (v := (-1)) dX4_bookedAt_21 (by decide) ?_
    have e : oBookedAt s m0 t0 = (-1) := by unfold oBookedAt; rw [if_neg (fun q => h11 q.1)] <;> rfl
    exact j_endI (pc := 22) E dX4_bookedAt_22 (by rw [e]) rfl
  · skip
    have h11 := t5 h11
    obtain ⟨mm, hc11, rfl⟩ := inR_t h11
    have emm : tn (nI mm) = mm := tn_nI (by omega)
    refine j_iload_n (pc := 14) X dX4_bookedAt_14 rfl (q := 2) rfl ?_
    refine j_callSR (pc := 15) X (st := [])  (c_X4_isHalfDay l D tA t0 ) cd_X4_isHalfDay wm_X4_192 rfl [] rfl rfl ⟨Nat.le_of_ble_eq_true rfl, Nat.le_of_ble_eq_true rfl⟩ ⟨Nat.zero_le _, Nat.zero_le _⟩ rfl (Nat.le_of_ble_eq_true rfl) dX4_bookedAt_15 ?_
    refine j_if_ne (pc := 18) X (tgt := 23) (P := (inR t0 200) = true) dX4_bookedAt_18 (by decide) (bI_n0 _) (fun h18 => ?_) (fun h18 => ?_)
    · skip
      skip
      obtain ⟨tt, hc18, rfl⟩ := inR_t h18
      have ett : tn (nI tt) = tt := tn_nI (by omega)
      refine j_aload_n (pc := 23) X dX4_bookedAt_23 rfl (q := 0) rfl ?_
      refine j_get (pc := 24) X (C := RX4) (T := TX4) (N := 6) wz_X4 0 rfl rfl 0 (by decide) wf_X4_12 rfl dX4_bookedAt_24 ?_
      refine j_iload_n (pc := 27) X dX4_bookedAt_27 rfl (q := 1) rfl ?_
      refine j_iload_n (pc := 28) X dX4_bookedAt_28 rfl (q := 2) rfl ?_
      refine j_callVR (pc := 29) X (st := [])  (c_X1_bookingFor l D tA a s mm tt hw (by omega) (by omega)) cd_X1_bookingFor wm_X4_195 1 rfl rfl rfl [1, 2, 3, 4, 5, 6, 7, 8, 9, 10] rfl rfl ⟨Nat.le_of_ble_eq_true rfl, Nat.le_of_ble_eq_true rfl⟩ ⟨Nat.zero_le _, Nat.zero_le _⟩ rfl (Nat.le_of_ble_eq_true rfl) dX4_bookedAt_29 ?_
      have e : oBookedAt s (nI mm) (nI tt) = (rO (bkF (sB s) mm tt)) := by unfold oBookedAt; simp only [emm, ett]; rw [if_pos ⟨h11, h18⟩] <;> rfl
      exact j_endI (pc := 32) E dX4_bookedAt_32 (by rw [e]) rfl
    · skip
      skip
      refine j_iconst (pc := 21) X (v := (-1)) dX4_bookedAt_21 (by decide) ?_
      have e : oBookedAt s (nI mm) t0 = (-1) := by unfold oBookedAt; simp only [emm]; rw [if_neg (fun q => h18 q.2)] <;> rfl
      exact j_endI (pc := 22) E dX4_bookedAt_22 (by rw [e]) rfl
theorem cd_X4_machineFor : kCardV yX4_machineFor cX4_machineFor 5 (some .int) 3 := ⟨⟨wc_X4_machineFor, wi_X4, by decide +kernel, by decide +kernel, rfl⟩, wk_X4_machineFor, ws_X4_machineFor⟩
set_option maxHeartbeats 4000000 in
set_option maxRecDepth 100000 in
theorem c_X4_machineFor (l : Launch) (D : va_G) (tA : Nat → ClassId) (c : Nat) (a b f h x : Nat → Nat) (k : Bool) (s : Sg) (t0 l0 r0 : Int32) (hw : Wf s) : Kx l D tA yX4_machineFor cX4_machineFor 5 (some .int) 3 72 [.ref c, .int t0, .int l0, .int r0] (clW c a b f h x k ++ (stW tA a s)) (some (.int (oMachineFor s t0 l0 r0))) (clW c a b f h x k ++ (stW tA a s)) := by
  refine kx_int rfl (Nat.le_of_ble_eq_true rfl) (fun G X E => ?_)
  show J l D G 0 0 (clW c a b f h x k ++ (stW tA a s)) [(0, .ref c), (1, .int t0), (2, .int l0), (3, .int r0)] 0 []
  have hn := hw.n
  refine j_aload_n (pc := 0) X dX4_machineFor_0 rfl (q := 0) rfl ?_
  refine j_get (pc := 1) X (C := RX4) (T := TX4) (N := 6) wz_X4 0 rfl rfl 0 (by decide) wf_X4_12 rfl dX4_machineFor_1 ?_
  refine j_iload_n (pc := 4) X dX4_machineFor_4 rfl (q := 1) rfl ?_
  refine j_callVR (pc := 5) X (st := [])  (c_X1_isToCome l D tA a s t0 (by first | assumption | omega | decide)) cd_X1_isToCome wm_X4_69 1 rfl rfl rfl [1, 2, 3, 4, 5, 6, 7, 8, 9, 10] rfl rfl ⟨Nat.le_of_ble_eq_true rfl, Nat.le_of_ble_eq_true rfl⟩ ⟨Nat.zero_le _, Nat.zero_le _⟩ rfl (Nat.le_of_ble_eq_true rfl) dX4_machineFor_5 ?_
  refine j_if_ne (pc := 8) X (tgt := 13) (P := (toCome s t0) = true) dX4_machineFor_8 (by decide) (bI_n0 _) (fun h8 => ?_) (fun h8 => ?_)
  · skip
    skip
    obtain ⟨tt, hc8, rfl⟩ := toCome_t h8
    have ett : tn (nI tt) = tt := tn_nI (by omega)
    refine j_iload_n (pc := 13) X dX4_machineFor_13 rfl (q := 2) rfl ?_
    refine j_iload_n (pc := 14) X dX4_machineFor_14 rfl (q := 3) rfl ?_
    refine j_callSR (pc := 15) X (st := [])  (c_X4_isLift l D tA l0 r0 ) cd_X4_isLift wm_X4_84 rfl [] rfl rfl ⟨Nat.le_of_ble_eq_true rfl, Nat.le_of_ble_eq_true rfl⟩ ⟨Nat.zero_le _, Nat.zero_le _⟩ rfl (Nat.le_of_ble_eq_true rfl) dX4_machineFor_15 ?_
    refine j_if_ne (pc := 18) X (tgt := 24) (P := (isLft l0 r0) = true) dX4_machineFor_18 (by decide) (bI_n0 _) (fun h18 => ?_) (fun h18 => ?_)
    · skip
      skip
      obtain ⟨ll, rr, hc18, rfl, rfl⟩ := isLft_t h18
      have ell : tn (nI ll) = ll := tn_nI (by omega)
      have err : tn (nI rr) = rr := tn_nI (by omega)
      refine j_iconst (pc := 24) X (v := (nI 0)) dX4_machineFor_24 (by decide) ?_
      refine j_istore (pc := 25) X (lv' := [(4, .int (nI 0)), (0, .ref c), (1, .int (nI tt)), (2, .int (nI ll)), (3, .int (nI rr))]) dX4_machineFor_25 (by decide) rfl ?_
      have L_27 : ∀ (fu : Nat) (i : Nat), i ≤ (sM s).1 → fndN (fun m => canT s m tt ll rr) i = none → (sM s).1 - i < fu → J l D G 0 0 (clW c a b f h x k ++ (stW tA a s)) [(0, .ref c), (1, .int (nI tt)), (2, .int (nI ll)), (3, .int (nI rr)), (4, .int (nI i))] 27 [] := by
        intro fu
        induction fu with
        | zero => intro i hi hk hfu; exact absurd hfu (Nat.not_lt_zero _)
        | succ fu ih_27 =>
          intro i hi hk hfu
          refine j_iload (pc := 27) X dX4_machineFor_27 (q := 4) rfl ?_
          refine j_aload_n (pc := 29) X dX4_machineFor_29 rfl (q := 0) rfl ?_
          refine j_get (pc := 30) X (C := RX4) (T := TX4) (N := 6) wz_X4 0 rfl rfl 0 (by decide) wf_X4_12 rfl dX4_machineFor_30 ?_
          refine j_get (pc := 33) X (C := RX1) (T := TX1) (N := 9) wz_X1 1 rfl rfl 0 (by decide) wf_X4_44 rfl dX4_machineFor_33 ?_
          refine j_callVR (pc := 36) X (st := [.int (nI i)])  (c_X2_size l D tA (a 1) (a 6) 5 3 (sM s)  ) cd_X2_size wm_X4_133 3 rfl rfl rfl [3, 4] rfl rfl ⟨Nat.le_of_ble_eq_true rfl, Nat.le_of_ble_eq_true rfl⟩ ⟨Nat.zero_le _, Nat.zero_le _⟩ rfl (Nat.le_of_ble_eq_true rfl) dX4_machineFor_36 ?_
          refine j_icmp_ge (pc := 39) X (tgt := 66) (P := ((sM s).1) ≤ i) dX4_machineFor_39 (by decide) (nI_leI (by omega) (by omega)) (fun h39 => ?_) (fun h39 => ?_)
          · skip
            refine j_bipush (pc := 66) X (v := (-5)) dX4_machineFor_66 (by decide) ?_
            have e : oMachineFor s (nI tt) (nI ll) (nI rr) = (-5) := by unfold oMachineFor; simp only [ett, ell, err]; rw [if_pos h8, if_pos h18, ← show i = (sM s).1 by omega, hk] <;> rfl
            exact j_endI (pc := 68) E dX4_machineFor_68 (by rw [e]) rfl
          · skip
            refine j_aload_n (pc := 42) X dX4_machineFor_42 rfl (q := 0) rfl ?_
            refine j_get (pc := 43) X (C := RX4) (T := TX4) (N := 6) wz_X4 0 rfl rfl 0 (by decide) wf_X4_12 rfl dX4_machineFor_43 ?_
            refine j_iload (pc := 46) X dX4_machineFor_46 (q := 4) rfl ?_
            refine j_iload_n (pc := 48) X dX4_machineFor_48 rfl (q := 1) rfl ?_
            refine j_iload_n (pc := 49) X dX4_machineFor_49 rfl (q := 2) rfl ?_
            refine j_iload_n (pc := 50) X dX4_machineFor_50 rfl (q := 3) rfl ?_
            refine j_callVR (pc := 51) X (st := [])  (c_X1_canTake l D tA a s i tt ll rr hw (by omega) (by omega) (by omega) (by omega)) cd_X1_canTake wm_X4_88 1 rfl rfl rfl [1, 2, 3, 4, 5, 6, 7, 8, 9, 10] rfl rfl ⟨Nat.le_of_ble_eq_true rfl, Nat.le_of_ble_eq_true rfl⟩ ⟨Nat.zero_le _, Nat.zero_le _⟩ rfl (Nat.le_of_ble_eq_true rfl) dX4_machineFor_51 ?_
            refine j_if_eq (pc := 54) X (tgt := 60) (P := (canT s i tt ll rr) = false) dX4_machineFor_54 (by decide) (bI_0 _) (fun h54 => ?_) (fun h54 => ?_)
            · skip
              have h54 := nf5 h54
              refine j_iinc (pc := 60) X (v := (nI (i + 1))) (lv' := [(4, .int (nI (i + 1))), (0, .ref c), (1, .int (nI tt)), (2, .int (nI ll)), (3, .int (nI rr))]) dX4_machineFor_60 (q := 4) rfl (nI_add _ _) (by decide) rfl ?_
              refine j_goto (pc := 63) X (tgt := 27) dX4_machineFor_63 (by decide) ?_
              refine j_lv X (lv' := [(0, .ref c), (1, .int (nI tt)), (2, .int (nI ll)), (3, .int (nI rr)), (4, .int (nI (i + 1)))]) [1, 2, 3, 4, 0] rfl ?_
              exact ih_27 (i + 1) (by omega) (fnd_no hk h54) (by omega)
            · skip
              have h54 := t5 h54
              refine j_iload (pc := 57) X dX4_machineFor_57 (q := 4) rfl ?_
              have e : oMachineFor s (nI tt) (nI ll) (nI rr) = (nI i) := by unfold oMachineFor; simp only [ett, ell, err]; rw [if_pos h8, if_pos h18, fnd_up (fnd_at hk h54) _ (by omega)] <;> rfl
              exact j_endI (pc := 59) E dX4_machineFor_59 (by rw [e]) rfl
      refine j_lv X (lv' := [(0, .ref c), (1, .int (nI tt)), (2, .int (nI ll)), (3, .int (nI rr)), (4, .int (nI 0))]) [1, 2, 3, 4, 0] rfl ?_
      exact L_27 _ 0 (Nat.zero_le _) rfl (Nat.lt_succ_self _)
    · skip
      skip
      refine j_bipush (pc := 21) X (v := (-2)) dX4_machineFor_21 (by decide) ?_
      have e : oMachineFor s (nI tt) l0 r0 = (-2) := by unfold oMachineFor; simp only [ett]; rw [if_pos h8, if_neg h18] <;> rfl
      exact j_endI (pc := 23) E dX4_machineFor_23 (by rw [e]) rfl
  · skip
    skip
    refine j_iconst (pc := 11) X (v := (-1)) dX4_machineFor_11 (by decide) ?_
    have e : oMachineFor s t0 l0 r0 = (-1) := by unfold oMachineFor; rw [if_neg h8] <;> rfl
    exact j_endI (pc := 12) E dX4_machineFor_12 (by rw [e]) rfl
theorem cd_X4_wind : kCardV yX4_wind cX4_wind 2 (some .int) 1 := ⟨⟨wc_X4_wind, wi_X4, by decide +kernel, by decide +kernel, rfl⟩, wk_X4_wind, ws_X4_wind⟩
set_option maxHeartbeats 4000000 in
set_option maxRecDepth 100000 in
theorem c_X4_wind (l : Launch) (D : va_G) (tA : Nat → ClassId) (c : Nat) (a b f h x : Nat → Nat) (k : Bool) (s : Sg) (t0 : Int32) (hw : Wf s) : Kx l D tA yX4_wind cX4_wind 2 (some .int) 2 42 [.ref c, .int t0] (clW c a b f h x k ++ (stW tA a s)) (some (.int (oWind s t0))) (clW c a b f h x k ++ (stW tA a s)) := by
  refine kx_int rfl (Nat.le_of_ble_eq_true rfl) (fun G X E => ?_)
  show J l D G 0 0 (clW c a b f h x k ++ (stW tA a s)) [(0, .ref c), (1, .int t0)] 0 []
  have hn := hw.n
  refine j_iload_n (pc := 0) X dX4_wind_0 rfl (q := 1) rfl ?_
  refine j_callSR (pc := 1) X (st := [])  (c_X4_isHalfDay l D tA t0 ) cd_X4_isHalfDay wm_X4_192 rfl [] rfl rfl ⟨Nat.le_of_ble_eq_true rfl, Nat.le_of_ble_eq_true rfl⟩ ⟨Nat.zero_le _, Nat.zero_le _⟩ rfl (Nat.le_of_ble_eq_true rfl) dX4_wind_1 ?_
  refine j_if_eq (pc := 4) X (tgt := 18) (P := (inR t0 200) = false) dX4_wind_4 (by decide) (bI_0 _) (fun h4 => ?_) (fun h4 => ?_)
  · skip
    have h4 := nf5 h4
    refine j_iconst (pc := 18) X (v := (-1)) dX4_wind_18 (by decide) ?_
    have e : oWind s t0 = (-1) := by unfold oWind; rw [if_neg h4] <;> rfl
    exact j_endI (pc := 19) E dX4_wind_19 (by rw [e]) rfl
  · skip
    have h4 := t5 h4
    obtain ⟨tt, hc4, rfl⟩ := inR_t h4
    have ett : tn (nI tt) = tt := tn_nI (by omega)
    refine j_aload_n (pc := 7) X dX4_wind_7 rfl (q := 0) rfl ?_
    refine j_get (pc := 8) X (C := RX4) (T := TX4) (N := 6) wz_X4 0 rfl rfl 0 (by decide) wf_X4_12 rfl dX4_wind_8 ?_
    refine j_iload_n (pc := 11) X dX4_wind_11 rfl (q := 1) rfl ?_
    refine j_callVR (pc := 12) X (st := [])  (c_X1_windAt l D tA a s tt (by first | assumption | omega | decide)) cd_X1_windAt wm_X4_73 1 rfl rfl rfl [1, 2, 3, 4, 5, 6, 7, 8, 9, 10] rfl rfl ⟨Nat.le_of_ble_eq_true rfl, Nat.le_of_ble_eq_true rfl⟩ ⟨Nat.zero_le _, Nat.zero_le _⟩ rfl (Nat.le_of_ble_eq_true rfl) dX4_wind_12 ?_
    refine j_goto (pc := 15) X (tgt := 19) dX4_wind_15 (by decide) ?_
    have e : oWind s (nI tt) = (nI ((sW s) tt)) := by unfold oWind; simp only [ett]; rw [if_pos h4] <;> rfl
    exact j_endI (pc := 19) E dX4_wind_19 (by rw [e]) rfl
theorem cd_X4_windLimit : kCardV yX4_windLimit cX4_windLimit 3 (some .int) 2 := ⟨⟨wc_X4_windLimit, wi_X4, by decide +kernel, by decide +kernel, rfl⟩, wk_X4_windLimit, ws_X4_windLimit⟩
set_option maxHeartbeats 4000000 in
set_option maxRecDepth 100000 in
theorem c_X4_windLimit (l : Launch) (D : va_G) (tA : Nat → ClassId) (c : Nat) (a b f h x : Nat → Nat) (k : Bool) (l0 r0 : Int32)  : Kx l D tA yX4_windLimit cX4_windLimit 3 (some .int) 3 63 [.ref c, .int l0, .int r0] (clW c a b f h x k) (some (.int (oLimit l0 r0))) (clW c a b f h x k) := by
  refine kx_int rfl (Nat.le_of_ble_eq_true rfl) (fun G X E => ?_)
  show J l D G 0 0 (clW c a b f h x k) [(0, .ref c), (1, .int l0), (2, .int r0)] 0 []
  refine j_iload_n (pc := 0) X dX4_windLimit_0 rfl (q := 1) rfl ?_
  refine j_iload_n (pc := 1) X dX4_windLimit_1 rfl (q := 2) rfl ?_
  refine j_callSR (pc := 2) X (st := [])  (c_X4_isLift l D tA l0 r0 ) cd_X4_isLift wm_X4_84 rfl [] rfl rfl ⟨Nat.le_of_ble_eq_true rfl, Nat.le_of_ble_eq_true rfl⟩ ⟨Nat.zero_le _, Nat.zero_le _⟩ rfl (Nat.le_of_ble_eq_true rfl) dX4_windLimit_2 ?_
  refine j_if_ne (pc := 5) X (tgt := 11) (P := (isLft l0 r0) = true) dX4_windLimit_5 (by decide) (bI_n0 _) (fun h5 => ?_) (fun h5 => ?_)
  · skip
    skip
    obtain ⟨ll, rr, hc5, rfl, rfl⟩ := isLft_t h5
    have ell : tn (nI ll) = ll := tn_nI (by omega)
    have err : tn (nI rr) = rr := tn_nI (by omega)
    refine j_iload_n (pc := 11) X dX4_windLimit_11 rfl (q := 1) rfl ?_
    refine j_iload_n (pc := 12) X dX4_windLimit_12 rfl (q := 2) rfl ?_
    refine j_callSR (pc := 13) X (st := [])  (c_X4_limitFor l D tA ll rr (by first | assumption | omega | decide) (by first | assumption | omega | decide)) cd_X4_limitFor wm_X4_179 rfl [] rfl rfl ⟨Nat.le_of_ble_eq_true rfl, Nat.le_of_ble_eq_true rfl⟩ ⟨Nat.zero_le _, Nat.zero_le _⟩ rfl (Nat.le_of_ble_eq_true rfl) dX4_windLimit_13 ?_
    have e : oLimit (nI ll) (nI rr) = (nI (limN ll rr)) := by unfold oLimit; simp only [ell, err]; rw [if_pos h5] <;> rfl
    exact j_endI (pc := 16) E dX4_windLimit_16 (by rw [e]) rfl
  · skip
    skip
    refine j_bipush (pc := 8) X (v := (-2)) dX4_windLimit_8 (by decide) ?_
    have e : oLimit l0 r0 = (-2) := by unfold oLimit; rw [if_neg h5] <;> rfl
    exact j_endI (pc := 10) E dX4_windLimit_10 (by rw [e]) rfl
theorem clM_M (s : Sg) (v : Nat) : (sM (clM s v)).1 = (sM s).1 ∧ (sP (clM s v)).1 = (sP s).1 := by
  unfold clM
  split <;> exact ⟨rfl, rfl⟩
theorem clo_M : ∀ (n : Nat) (s : Sg) (h : Nat), (sM (clo n s h)).1 = (sM s).1
  | 0, s, h => rfl
  | n + 1, s, h => by
    cases e : nxt (sV s) h with
    | none => rw [clo_none e]
    | some v => rw [clo_some e, clo_M n, (clM_M s v).1]
theorem cd_X4_undo : kCardV yX4_undo cX4_undo 1 (some .int) 0 := ⟨⟨wc_X4_undo, wi_X4, by decide +kernel, by decide +kernel, rfl⟩, wk_X4_undo, ws_X4_undo⟩
set_option maxHeartbeats 4000000 in
set_option maxRecDepth 100000 in
theorem c_X4_undo (l : Launch) (D : va_G) (tA : Nat → ClassId) (c : Nat) (a b f h x : Nat → Nat) (k : Bool) (s : Sg) (d : Nat → Nat → Nat) (v : Hs) (hw : Wf s) (hnx : v.2.1 < 4) (hsz : v.2.2 ≤ 4) (hh : ∀ i, Wf (v.1 i)) : Kx l D tA yX4_undo cX4_undo 1 (some .int) 4 83 [.ref c] (clW c a b f h x k ++ (stW tA a s ++ (hsW tA h d v))) (some (.int (if v.2.2 = 0 then (-5) else nI (v.2.2 - 1)))) (clW c a b f h x k ++ (stW tA a (if v.2.2 = 0 then s else v.1 (hLast v)) ++ (hsW tA h d (if v.2.2 = 0 then v else hPop v)))) := by
  refine kx_int rfl (Nat.le_of_ble_eq_true rfl) (fun G X E => ?_)
  show J l D G 0 0 (clW c a b f h x k ++ (stW tA a s ++ (hsW tA h d v))) [(0, .ref c)] 0 []
  refine j_aload_n (pc := 0) X dX4_undo_0 rfl (q := 0) rfl ?_
  refine j_get (pc := 1) X (C := RX4) (T := TX4) (N := 6) wz_X4 0 rfl rfl 3 (by decide) wf_X4_25 rfl dX4_undo_1 ?_
  refine j_callVR (pc := 4) X (st := [])  (c_X0_size l D tA h d v.2.1 v.2.2) cd_X0_size wm_X4_163 11 rfl rfl rfl [11, 12] rfl rfl ⟨Nat.le_of_ble_eq_true rfl, Nat.le_of_ble_eq_true rfl⟩ ⟨Nat.zero_le _, Nat.zero_le _⟩ rfl (Nat.le_of_ble_eq_true rfl) dX4_undo_4 ?_
  refine j_if_ne (pc := 7) X (tgt := 13) (P := ¬ v.2.2 = 0) dX4_undo_7 (by decide) (not_congr (nC_eq0 (by omega))) (fun h7 => ?_) (fun h7 => ?_)
  · skip
    refine j_aload_n (pc := 13) X dX4_undo_13 rfl (q := 0) rfl ?_
    refine j_get (pc := 14) X (C := RX4) (T := TX4) (N := 6) wz_X4 0 rfl rfl 3 (by decide) wf_X4_25 rfl dX4_undo_14 ?_
    refine j_aload_n (pc := 17) X dX4_undo_17 rfl (q := 0) rfl ?_
    refine j_get (pc := 18) X (C := RX4) (T := TX4) (N := 6) wz_X4 0 rfl rfl 0 (by decide) wf_X4_12 rfl dX4_undo_18 ?_
    refine j_callVB (pc := 21) X (st := []) (wr := (clW c a b f h x k)) (w' := (clW c a b f h x k ++ (stW tA a (v.1 (hLast v)) ++ (hsW tA h d (hPop v))))) (c_X0_popInto l D tA h d v a s hnx hsz (by omega) hh hw) cd_X0_popInto wm_X4_164 11 rfl rfl rfl [11, 12, 13, 14, 15, 16, 17, 18, 19, 20, 21, 22, 23, 24, 25, 26, 27, 28, 29, 30, 31, 32, 33, 34, 35, 36, 37, 38, 39, 40, 41, 42, 43, 44, 45, 46, 47, 48, 49, 50, 51, 52, 1, 2, 3, 4, 5, 6, 7, 8, 9, 10] rfl rfl [0] rfl rfl (fst_app (hs_fst.trans hs_fst.symm) (st_fst.trans st_fst.symm)) [52, 42, 43, 44, 45, 46, 47, 48, 49, 50, 51, 0, 1, 2, 3, 4, 5, 6, 7, 8, 9, 10, 11, 12, 13, 14, 15, 16, 17, 18, 19, 20, 21, 22, 23, 24, 25, 26, 27, 28, 29, 30, 31, 32, 33, 34, 35, 36, 37, 38, 39, 40, 41] rfl rfl ⟨Nat.le_of_ble_eq_true rfl, Nat.le_of_ble_eq_true rfl⟩ ⟨Nat.zero_le _, Nat.zero_le _⟩ rfl (Nat.le_of_ble_eq_true rfl) dX4_undo_21 ?_
    refine j_aload_n (pc := 24) X dX4_undo_24 rfl (q := 0) rfl ?_
    refine j_get (pc := 25) X (C := RX4) (T := TX4) (N := 6) wz_X4 0 rfl rfl 3 (by decide) wf_X4_25 rfl dX4_undo_25 ?_
    refine j_callVR (pc := 28) X (st := [])  (c_X0_size l D tA h d (hPop v).2.1 (hPop v).2.2) cd_X0_size wm_X4_163 11 rfl rfl rfl [11, 12] rfl rfl ⟨Nat.le_of_ble_eq_true rfl, Nat.le_of_ble_eq_true rfl⟩ ⟨Nat.zero_le _, Nat.zero_le _⟩ rfl (Nat.le_of_ble_eq_true rfl) dX4_undo_28 ?_
    exact j_endI (pc := 31) E dX4_undo_31 (by rw [if_neg h7]; rfl) (by rw [if_neg h7, if_neg h7])
  · skip
    refine j_bipush (pc := 10) X (v := (-5)) dX4_undo_10 (by decide) ?_
    exact j_endI (pc := 12) E dX4_undo_12 (by rw [if_pos (Decidable.not_not.mp h7)]) (by rw [if_pos (Decidable.not_not.mp h7), if_pos (Decidable.not_not.mp h7)])
theorem cd_X4_keep : kCardV yX4_keep cX4_keep 1 (some .int) 0 := ⟨⟨wc_X4_keep, wi_X4, by decide +kernel, by decide +kernel, rfl⟩, wk_X4_keep, ws_X4_keep⟩
set_option maxHeartbeats 4000000 in
set_option maxRecDepth 100000 in
theorem c_X4_keep (l : Launch) (D : va_G) (tA : Nat → ClassId) (c : Nat) (a b f h x : Nat → Nat) (k : Bool) (s s2 : Sg) (hw : Wf s) (hw2 : Wf s2) : Kx l D tA yX4_keep cX4_keep 1 (some .int) 3 60 [.ref c] (clW c a b f h x k ++ (stW tA a s ++ (stW tA b s2))) (some (.int (nI (sN s)))) (clW c a b f h x true ++ (stW tA a s ++ (stW tA b s))) := by
  refine kx_int rfl (Nat.le_of_ble_eq_true rfl) (fun G X E => ?_)
  show J l D G 0 0 (clW c a b f h x k ++ (stW tA a s ++ (stW tA b s2))) [(0, .ref c)] 0 []
  refine j_aload_n (pc := 0) X dX4_keep_0 rfl (q := 0) rfl ?_
  refine j_get (pc := 1) X (C := RX4) (T := TX4) (N := 6) wz_X4 0 rfl rfl 1 (by decide) wf_X4_16 rfl dX4_keep_1 ?_
  refine j_aload_n (pc := 4) X dX4_keep_4 rfl (q := 0) rfl ?_
  refine j_get (pc := 5) X (C := RX4) (T := TX4) (N := 6) wz_X4 0 rfl rfl 0 (by decide) wf_X4_12 rfl dX4_keep_5 ?_
  refine j_callVB (pc := 8) X (st := []) (wr := (clW c a b f h x k)) (w' := (clW c a b f h x k ++ (stW tA a s ++ (stW tA b s)))) (c_X1_copyFrom l D tA b s2 a s hw2 hw) cd_X1_copyFrom wm_X4_167 11 rfl rfl rfl [11, 12, 13, 14, 15, 16, 17, 18, 19, 20, 1, 2, 3, 4, 5, 6, 7, 8, 9, 10] rfl rfl [0] rfl rfl (fst_app (st_fst.trans st_fst.symm) rfl) [20, 10, 11, 12, 13, 14, 15, 16, 17, 18, 19, 0, 1, 2, 3, 4, 5, 6, 7, 8, 9] rfl rfl ⟨Nat.le_of_ble_eq_true rfl, Nat.le_of_ble_eq_true rfl⟩ ⟨Nat.zero_le _, Nat.zero_le _⟩ rfl (Nat.le_of_ble_eq_true rfl) dX4_keep_8 ?_
  refine j_aload_n (pc := 11) X dX4_keep_11 rfl (q := 0) rfl ?_
  refine j_iconst (pc := 12) X (v := (nI 1)) dX4_keep_12 (by decide) ?_
  refine j_put (pc := 13) X (C := RX4) (T := TX4) (N := 6) wz_X4 tyX4 tyX4_ok nmX4 0 rfl rfl 5 (by decide) wf_X4_36 rfl rfl rfl (Nat.le_of_ble_eq_true rfl) (w' := (clW c a b f h x true ++ (stW tA a s ++ (stW tA b s)))) rfl dX4_keep_13 ?_
  refine j_aload_n (pc := 16) X dX4_keep_16 rfl (q := 0) rfl ?_
  refine j_get (pc := 17) X (C := RX4) (T := TX4) (N := 6) wz_X4 0 rfl rfl 0 (by decide) wf_X4_12 rfl dX4_keep_17 ?_
  refine j_get (pc := 20) X (C := RX1) (T := TX1) (N := 9) wz_X1 1 rfl rfl 5 (by decide) wf_X4_109 rfl dX4_keep_20 ?_
  exact j_endI (pc := 23) E dX4_keep_23 rfl rfl
theorem cd_X4_restore : kCardV yX4_restore cX4_restore 1 (some .int) 0 := ⟨⟨wc_X4_restore, wi_X4, by decide +kernel, by decide +kernel, rfl⟩, wk_X4_restore, ws_X4_restore⟩
set_option maxHeartbeats 4000000 in
set_option maxRecDepth 100000 in
theorem c_X4_restore (l : Launch) (D : va_G) (tA : Nat → ClassId) (c : Nat) (a b f h x : Nat → Nat) (k : Bool) (s s2 : Sg) (d : Nat → Nat → Nat) (v : Hs) (hw : Wf s) (hnx : v.2.1 < 4) (hsz : v.2.2 ≤ 4) (hh : ∀ i, Wf (v.1 i)) (hw2 : Wf s2) : Kx l D tA yX4_restore cX4_restore 1 (some .int) 4 82 [.ref c] (clW c a b f h x k ++ (stW tA a s ++ (stW tA b s2 ++ (hsW tA h d v)))) (some (.int ((oRestore s s2 k).1))) (clW c a b f h x k ++ (stW tA a (aS s (oRestore s s2 k).2) ++ (stW tA b s2 ++ (hsW tA h d (aH v s (oRestore s s2 k).2))))) := by
  refine kx_int rfl (Nat.le_of_ble_eq_true rfl) (fun G X E => ?_)
  show J l D G 0 0 (clW c a b f h x k ++ (stW tA a s ++ (stW tA b s2 ++ (hsW tA h d v)))) [(0, .ref c)] 0 []
  refine j_aload_n (pc := 0) X dX4_restore_0 rfl (q := 0) rfl ?_
  refine j_get (pc := 1) X (C := RX4) (T := TX4) (N := 6) wz_X4 0 rfl rfl 5 (by decide) wf_X4_36 rfl dX4_restore_1 ?_
  refine j_if_ne (pc := 4) X (tgt := 10) (P := k = true) dX4_restore_4 (by decide) (bI_n0 _) (fun h4 => ?_) (fun h4 => ?_)
  · skip
    skip
    refine j_aload_n (pc := 10) X dX4_restore_10 rfl (q := 0) rfl ?_
    refine j_get (pc := 11) X (C := RX4) (T := TX4) (N := 6) wz_X4 0 rfl rfl 3 (by decide) wf_X4_25 rfl dX4_restore_11 ?_
    refine j_aload_n (pc := 14) X dX4_restore_14 rfl (q := 0) rfl ?_
    refine j_get (pc := 15) X (C := RX4) (T := TX4) (N := 6) wz_X4 0 rfl rfl 0 (by decide) wf_X4_12 rfl dX4_restore_15 ?_
    refine j_callVB (pc := 18) X (st := []) (wr := (clW c a b f h x k ++ (stW tA b s2))) (w' := (clW c a b f h x k ++ (stW tA a s ++ (stW tA b s2 ++ (hsW tA h d (hPush v s)))))) (c_X0_push l D tA h d v a s hnx hsz hh hw) cd_X0_push wm_X4_54 21 rfl rfl rfl [21, 22, 23, 24, 25, 26, 27, 28, 29, 30, 31, 32, 33, 34, 35, 36, 37, 38, 39, 40, 41, 42, 43, 44, 45, 46, 47, 48, 49, 50, 51, 52, 53, 54, 55, 56, 57, 58, 59, 60, 61, 62, 1, 2, 3, 4, 5, 6, 7, 8, 9, 10] rfl rfl [0, 11, 12, 13, 14, 15, 16, 17, 18, 19, 20] rfl rfl (fst_app (hs_fst.trans hs_fst.symm) (st_fst.trans st_fst.symm)) [52, 42, 43, 44, 45, 46, 47, 48, 49, 50, 51, 53, 54, 55, 56, 57, 58, 59, 60, 61, 62, 0, 1, 2, 3, 4, 5, 6, 7, 8, 9, 10, 11, 12, 13, 14, 15, 16, 17, 18, 19, 20, 21, 22, 23, 24, 25, 26, 27, 28, 29, 30, 31, 32, 33, 34, 35, 36, 37, 38, 39, 40, 41] rfl rfl ⟨Nat.le_of_ble_eq_true rfl, Nat.le_of_ble_eq_true rfl⟩ ⟨Nat.zero_le _, Nat.zero_le _⟩ rfl (Nat.le_of_ble_eq_true rfl) dX4_restore_18 ?_
    refine j_aload_n (pc := 21) X dX4_restore_21 rfl (q := 0) rfl ?_
    refine j_get (pc := 22) X (C := RX4) (T := TX4) (N := 6) wz_X4 0 rfl rfl 0 (by decide) wf_X4_12 rfl dX4_restore_22 ?_
    refine j_aload_n (pc := 25) X dX4_restore_25 rfl (q := 0) rfl ?_
    refine j_get (pc := 26) X (C := RX4) (T := TX4) (N := 6) wz_X4 0 rfl rfl 1 (by decide) wf_X4_16 rfl dX4_restore_26 ?_
    refine j_callVB (pc := 29) X (st := []) (wr := (clW c a b f h x k ++ (hsW tA h d (hPush v s)))) (w' := (clW c a b f h x k ++ (stW tA a s2 ++ (stW tA b s2 ++ (hsW tA h d (hPush v s)))))) (c_X1_copyFrom l D tA a s b s2 hw hw2) cd_X1_copyFrom wm_X4_167 1 rfl rfl rfl [1, 2, 3, 4, 5, 6, 7, 8, 9, 10, 11, 12, 13, 14, 15, 16, 17, 18, 19, 20] rfl rfl [0, 21, 22, 23, 24, 25, 26, 27, 28, 29, 30, 31, 32, 33, 34, 35, 36, 37, 38, 39, 40, 41, 42, 43, 44, 45, 46, 47, 48, 49, 50, 51, 52, 53, 54, 55, 56, 57, 58, 59, 60, 61, 62] rfl rfl (fst_app (st_fst.trans st_fst.symm) rfl) [20, 0, 1, 2, 3, 4, 5, 6, 7, 8, 9, 10, 11, 12, 13, 14, 15, 16, 17, 18, 19, 21, 22, 23, 24, 25, 26, 27, 28, 29, 30, 31, 32, 33, 34, 35, 36, 37, 38, 39, 40, 41, 42, 43, 44, 45, 46, 47, 48, 49, 50, 51, 52, 53, 54, 55, 56, 57, 58, 59, 60, 61, 62] rfl rfl ⟨Nat.le_of_ble_eq_true rfl, Nat.le_of_ble_eq_true rfl⟩ ⟨Nat.zero_le _, Nat.zero_le _⟩ rfl (Nat.le_of_ble_eq_true rfl) dX4_restore_29 ?_
    refine j_aload_n (pc := 32) X dX4_restore_32 rfl (q := 0) rfl ?_
    refine j_get (pc := 33) X (C := RX4) (T := TX4) (N := 6) wz_X4 0 rfl rfl 0 (by decide) wf_X4_12 rfl dX4_restore_33 ?_
    refine j_get (pc := 36) X (C := RX1) (T := TX1) (N := 9) wz_X1 1 rfl rfl 5 (by decide) wf_X4_109 rfl dX4_restore_36 ?_
    have e : oRestore s s2 k = (nI (sN s2), some s2) := by unfold oRestore; exact if_pos h4
    exact j_endI (pc := 39) E dX4_restore_39 (by rw [e]) (by rw [e]; rfl)
  · skip
    skip
    refine j_bipush (pc := 7) X (v := (-5)) dX4_restore_7 (by decide) ?_
    have e : oRestore s s2 k = (-5, none) := by unfold oRestore; exact if_neg h4
    exact j_endI (pc := 9) E dX4_restore_9 (by rw [e]) (by rw [e]; rfl)
theorem cd_X4_willBear : kCardV yX4_willBear cX4_willBear 4 (some .int) 3 := ⟨⟨wc_X4_willBear, wi_X4, by decide +kernel, by decide +kernel, rfl⟩, wk_X4_willBear, ws_X4_willBear⟩
set_option maxHeartbeats 4000000 in
set_option maxRecDepth 100000 in
theorem c_X4_willBear (l : Launch) (D : va_G) (tA : Nat → ClassId) (c : Nat) (a b f h x : Nat → Nat) (k : Bool) (s s3 : Sg) (m0 r0 t0 : Int32) (hw : Wf s) (hw3 : Wf s3) : Kx l D tA yX4_willBear cX4_willBear 4 (some .int) 5 117 [.ref c, .int m0, .int r0, .int t0] (clW c a b f h x k ++ (stW tA a s ++ (stW tA f s3))) (some (.int ((oWill s m0 r0 t0).1))) (clW c a b f h x k ++ (stW tA a s ++ (stW tA f (aS s3 (oWill s m0 r0 t0).2)))) := by
  refine kx_int rfl (Nat.le_of_ble_eq_true rfl) (fun G X E => ?_)
  show J l D G 0 0 (clW c a b f h x k ++ (stW tA a s ++ (stW tA f s3))) [(0, .ref c), (1, .int m0), (2, .int r0), (3, .int t0)] 0 []
  have hn := hw.n
  refine j_aload_n (pc := 0) X dX4_willBear_0 rfl (q := 0) rfl ?_
  refine j_get (pc := 1) X (C := RX4) (T := TX4) (N := 6) wz_X4 0 rfl rfl 0 (by decide) wf_X4_12 rfl dX4_willBear_1 ?_
  refine j_get (pc := 4) X (C := RX1) (T := TX1) (N := 9) wz_X1 1 rfl rfl 0 (by decide) wf_X4_44 rfl dX4_willBear_4 ?_
  refine j_iload_n (pc := 7) X dX4_willBear_7 rfl (q := 1) rfl ?_
  refine j_callVR (pc := 8) X (st := [])  (c_X2_has l D tA (a 1) (a 6) 5 3 (sM s) m0 (by first | assumption | omega | decide) (by first | assumption | omega | decide) (by first | assumption | omega | decide)) cd_X2_has wm_X4_81 3 rfl rfl rfl [3, 4] rfl rfl ⟨Nat.le_of_ble_eq_true rfl, Nat.le_of_ble_eq_true rfl⟩ ⟨Nat.zero_le _, Nat.zero_le _⟩ rfl (Nat.le_of_ble_eq_true rfl) dX4_willBear_8 ?_
  refine j_if_eq (pc := 11) X (tgt := 25) (P := (inR m0 (sM s).1) = false) dX4_willBear_11 (by decide) (bI_0 _) (fun h11 => ?_) (fun h11 => ?_)
  · skip
    have h11 := nf5 h11
    refine j_iconst (pc := 25) X (v := (-1)) dX4_willBear_25 (by decide) ?_
    have e : oWill s m0 r0 t0 = ((-1), none) := by unfold oWill; rw [if_neg (fun q => h11 q.1)] <;> rfl
    exact j_endI (pc := 26) E dX4_willBear_26 (by rw [e]) (by rw [e]; rfl)
  · skip
    have h11 := t5 h11
    obtain ⟨mm, hc11, rfl⟩ := inR_t h11
    have emm : tn (nI mm) = mm := tn_nI (by omega)
    refine j_aload_n (pc := 14) X dX4_willBear_14 rfl (q := 0) rfl ?_
    refine j_get (pc := 15) X (C := RX4) (T := TX4) (N := 6) wz_X4 0 rfl rfl 0 (by decide) wf_X4_12 rfl dX4_willBear_15 ?_
    refine j_iload_n (pc := 18) X dX4_willBear_18 rfl (q := 3) rfl ?_
    refine j_callVR (pc := 19) X (st := [])  (c_X1_isToCome l D tA a s t0 (by first | assumption | omega | decide)) cd_X1_isToCome wm_X4_69 1 rfl rfl rfl [1, 2, 3, 4, 5, 6, 7, 8, 9, 10] rfl rfl ⟨Nat.le_of_ble_eq_true rfl, Nat.le_of_ble_eq_true rfl⟩ ⟨Nat.zero_le _, Nat.zero_le _⟩ rfl (Nat.le_of_ble_eq_true rfl) dX4_willBear_19 ?_
    refine j_if_ne (pc := 22) X (tgt := 27) (P := (toCome s t0) = true) dX4_willBear_22 (by decide) (bI_n0 _) (fun h22 => ?_) (fun h22 => ?_)
    · skip
      skip
      obtain ⟨tt, hc22, rfl⟩ := toCome_t h22
      have ett : tn (nI tt) = tt := tn_nI (by omega)
      refine j_iload_n (pc := 27) X dX4_willBear_27 rfl (q := 2) rfl ?_
      refine j_callSR (pc := 28) X (st := [])  (c_X4_isRadius l D tA r0 ) cd_X4_isRadius wm_X4_170 rfl [] rfl rfl ⟨Nat.le_of_ble_eq_true rfl, Nat.le_of_ble_eq_true rfl⟩ ⟨Nat.zero_le _, Nat.zero_le _⟩ rfl (Nat.le_of_ble_eq_true rfl) dX4_willBear_28 ?_
      refine j_if_ne (pc := 31) X (tgt := 37) (P := (isRad r0) = true) dX4_willBear_31 (by decide) (bI_n0 _) (fun h31 => ?_) (fun h31 => ?_)
      · skip
        skip
        obtain ⟨rr, hc31, rfl⟩ := isRad_t h31
        have err : tn (nI rr) = rr := tn_nI (by omega)
        refine j_aload_n (pc := 37) X dX4_willBear_37 rfl (q := 0) rfl ?_
        refine j_get (pc := 38) X (C := RX4) (T := TX4) (N := 6) wz_X4 0 rfl rfl 2 (by decide) wf_X4_19 rfl dX4_willBear_38 ?_
        refine j_aload_n (pc := 41) X dX4_willBear_41 rfl (q := 0) rfl ?_
        refine j_get (pc := 42) X (C := RX4) (T := TX4) (N := 6) wz_X4 0 rfl rfl 0 (by decide) wf_X4_12 rfl dX4_willBear_42 ?_
        refine j_callVB (pc := 45) X (st := []) (wr := (clW c a b f h x k)) (w' := (clW c a b f h x k ++ (stW tA a s ++ (stW tA f s)))) (c_X1_copyFrom l D tA f s3 a s hw3 hw) cd_X1_copyFrom wm_X4_167 11 rfl rfl rfl [11, 12, 13, 14, 15, 16, 17, 18, 19, 20, 1, 2, 3, 4, 5, 6, 7, 8, 9, 10] rfl rfl [0] rfl rfl (fst_app (st_fst.trans st_fst.symm) rfl) [20, 10, 11, 12, 13, 14, 15, 16, 17, 18, 19, 0, 1, 2, 3, 4, 5, 6, 7, 8, 9] rfl rfl ⟨Nat.le_of_ble_eq_true rfl, Nat.le_of_ble_eq_true rfl⟩ ⟨Nat.zero_le _, Nat.zero_le _⟩ rfl (Nat.le_of_ble_eq_true rfl) dX4_willBear_45 ?_
        refine j_aload_n (pc := 48) X dX4_willBear_48 rfl (q := 0) rfl ?_
        refine j_get (pc := 49) X (C := RX4) (T := TX4) (N := 6) wz_X4 0 rfl rfl 2 (by decide) wf_X4_19 rfl dX4_willBear_49 ?_
        refine j_iload_n (pc := 52) X dX4_willBear_52 rfl (q := 3) rfl ?_
        refine j_callVB (pc := 53) X (st := []) (wr := (clW c a b f h x k ++ (stW tA a s))) (w' := (clW c a b f h x k ++ (stW tA a s ++ (stW tA f (clo 10 s tt))))) (c_X1_closeMovesUpTo l D tA f s tt hw (by omega)) cd_X1_closeMovesUpTo wm_X4_176 11 rfl rfl rfl [11, 12, 13, 14, 15, 16, 17, 18, 19, 20] rfl rfl [0, 1, 2, 3, 4, 5, 6, 7, 8, 9, 10] rfl rfl (st_fst.trans st_fst.symm) [10, 11, 12, 13, 14, 15, 16, 17, 18, 19, 20, 0, 1, 2, 3, 4, 5, 6, 7, 8, 9] rfl rfl ⟨Nat.le_of_ble_eq_true rfl, Nat.le_of_ble_eq_true rfl⟩ ⟨Nat.zero_le _, Nat.zero_le _⟩ rfl (Nat.le_of_ble_eq_true rfl) dX4_willBear_53 ?_
        refine j_aload_n (pc := 56) X dX4_willBear_56 rfl (q := 0) rfl ?_
        refine j_get (pc := 57) X (C := RX4) (T := TX4) (N := 6) wz_X4 0 rfl rfl 2 (by decide) wf_X4_19 rfl dX4_willBear_57 ?_
        refine j_iload_n (pc := 60) X dX4_willBear_60 rfl (q := 1) rfl ?_
        refine j_iload_n (pc := 61) X dX4_willBear_61 rfl (q := 2) rfl ?_
        refine j_callVR (pc := 62) X (st := [])  (c_X1_borneBy l D tA f (clo 10 s tt) mm rr (Wf.xclo 10 hw tt) (by rw [clo_M]; exact hc11) (by omega)) cd_X1_borneBy wm_X4_173 11 rfl rfl rfl [11, 12, 13, 14, 15, 16, 17, 18, 19, 20] rfl rfl ⟨Nat.le_of_ble_eq_true rfl, Nat.le_of_ble_eq_true rfl⟩ ⟨Nat.zero_le _, Nat.zero_le _⟩ rfl (Nat.le_of_ble_eq_true rfl) dX4_willBear_62 ?_
        have e : oWill s (nI mm) (nI rr) (nI tt) = ((nI (brn (sM (clo 10 s tt)) mm rr)), (some (clo 10 s tt))) := by unfold oWill; simp only [emm, ett, err]; rw [if_pos ⟨h11, h22⟩, if_pos h31] <;> rfl
        exact j_endI (pc := 65) E dX4_willBear_65 (by rw [e]) (by rw [e]; rfl)
      · skip
        skip
        refine j_bipush (pc := 34) X (v := (-2)) dX4_willBear_34 (by decide) ?_
        have e : oWill s (nI mm) r0 (nI tt) = ((-2), none) := by unfold oWill; simp only [emm, ett]; rw [if_pos ⟨h11, h22⟩, if_neg h31] <;> rfl
        exact j_endI (pc := 36) E dX4_willBear_36 (by rw [e]) (by rw [e]; rfl)
    · skip
      skip
      refine j_iconst (pc := 25) X (v := (-1)) dX4_willBear_25 (by decide) ?_
      have e : oWill s (nI mm) r0 t0 = ((-1), none) := by unfold oWill; simp only [emm]; rw [if_neg (fun q => h22 q.2)] <;> rfl
      exact j_endI (pc := 26) E dX4_willBear_26 (by rw [e]) (by rw [e]; rfl)
theorem cd_X4_fate : kCardV yX4_fate cX4_fate 2 (some .int) 1 := ⟨⟨wc_X4_fate, wi_X4, by decide +kernel, by decide +kernel, rfl⟩, wk_X4_fate, ws_X4_fate⟩
set_option maxHeartbeats 4000000 in
set_option maxRecDepth 100000 in
theorem c_X4_fate (l : Launch) (D : va_G) (tA : Nat → ClassId) (c : Nat) (a b f h x : Nat → Nat) (k : Bool) (s s3 : Sg) (b0 : Int32) (hw : Wf s) (hw3 : Wf s3) : Kx l D tA yX4_fate cX4_fate 2 (some .int) 5 117 [.ref c, .int b0] (clW c a b f h x k ++ (stW tA a s ++ (stW tA f s3))) (some (.int ((oFate s b0).1))) (clW c a b f h x k ++ (stW tA a s ++ (stW tA f (aS s3 (oFate s b0).2)))) := by
  refine kx_int rfl (Nat.le_of_ble_eq_true rfl) (fun G X E => ?_)
  show J l D G 0 0 (clW c a b f h x k ++ (stW tA a s ++ (stW tA f s3))) [(0, .ref c), (1, .int b0)] 0 []
  have hn := hw.n
  refine j_aload_n (pc := 0) X dX4_fate_0 rfl (q := 0) rfl ?_
  refine j_get (pc := 1) X (C := RX4) (T := TX4) (N := 6) wz_X4 0 rfl rfl 0 (by decide) wf_X4_12 rfl dX4_fate_1 ?_
  refine j_get (pc := 4) X (C := RX1) (T := TX1) (N := 9) wz_X1 1 rfl rfl 2 (by decide) wf_X4_92 rfl dX4_fate_4 ?_
  refine j_iload_n (pc := 7) X dX4_fate_7 rfl (q := 1) rfl ?_
  refine j_callVR (pc := 8) X (st := [])  (c_X2_has l D tA (a 3) (a 8) 30 8 (sB s) b0 (by first | assumption | omega | decide) (by first | assumption | omega | decide) (by first | assumption | omega | decide)) cd_X2_has wm_X4_81 7 rfl rfl rfl [7, 8] rfl rfl ⟨Nat.le_of_ble_eq_true rfl, Nat.le_of_ble_eq_true rfl⟩ ⟨Nat.zero_le _, Nat.zero_le _⟩ rfl (Nat.le_of_ble_eq_true rfl) dX4_fate_8 ?_
  refine j_if_ne (pc := 11) X (tgt := 16) (P := (inR b0 (sB s).1) = true) dX4_fate_11 (by decide) (bI_n0 _) (fun h11 => ?_) (fun h11 => ?_)
  · skip
    skip
    obtain ⟨bb, hc11, rfl⟩ := inR_t h11
    have ebb : tn (nI bb) = bb := tn_nI (by omega)
    have hb0 := hw.b hc11
    have hw4 := Wf.xclo 10 hw (tGet 8 (sB s) bb 2)
    have hb4 : bb < (sB (clo 10 s (tGet 8 (sB s) bb 2))).1 := by rw [(clo_B 10 s _).1]; exact hc11
    refine j_aload_n (pc := 16) X dX4_fate_16 rfl (q := 0) rfl ?_
    refine j_get (pc := 17) X (C := RX4) (T := TX4) (N := 6) wz_X4 0 rfl rfl 0 (by decide) wf_X4_12 rfl dX4_fate_17 ?_
    refine j_iload_n (pc := 20) X dX4_fate_20 rfl (q := 1) rfl ?_
    refine j_callVR (pc := 21) X (st := [])  (c_X1_isBooked l D tA a s bb (by first | assumption | omega | decide) (by first | assumption | omega | decide)) cd_X1_isBooked wm_X4_103 1 rfl rfl rfl [1, 2, 3, 4, 5, 6, 7, 8, 9, 10] rfl rfl ⟨Nat.le_of_ble_eq_true rfl, Nat.le_of_ble_eq_true rfl⟩ ⟨Nat.zero_le _, Nat.zero_le _⟩ rfl (Nat.le_of_ble_eq_true rfl) dX4_fate_21 ?_
    refine j_if_ne (pc := 24) X (tgt := 30) (P := (decide (tGet 8 (sB s) bb 5 = 0)) = true) dX4_fate_24 (by decide) (bI_n0 _) (fun h24 => ?_) (fun h24 => ?_)
    · skip
      skip
      have h24 : tGet 8 (sB s) bb 5 = 0 := by simpa using h24
      refine j_aload_n (pc := 30) X dX4_fate_30 rfl (q := 0) rfl ?_
      refine j_get (pc := 31) X (C := RX4) (T := TX4) (N := 6) wz_X4 0 rfl rfl 2 (by decide) wf_X4_19 rfl dX4_fate_31 ?_
      refine j_aload_n (pc := 34) X dX4_fate_34 rfl (q := 0) rfl ?_
      refine j_get (pc := 35) X (C := RX4) (T := TX4) (N := 6) wz_X4 0 rfl rfl 0 (by decide) wf_X4_12 rfl dX4_fate_35 ?_
      refine j_callVB (pc := 38) X (st := []) (wr := (clW c a b f h x k)) (w' := (clW c a b f h x k ++ (stW tA a s ++ (stW tA f s)))) (c_X1_copyFrom l D tA f s3 a s hw3 hw) cd_X1_copyFrom wm_X4_167 11 rfl rfl rfl [11, 12, 13, 14, 15, 16, 17, 18, 19, 20, 1, 2, 3, 4, 5, 6, 7, 8, 9, 10] rfl rfl [0] rfl rfl (fst_app (st_fst.trans st_fst.symm) rfl) [20, 10, 11, 12, 13, 14, 15, 16, 17, 18, 19, 0, 1, 2, 3, 4, 5, 6, 7, 8, 9] rfl rfl ⟨Nat.le_of_ble_eq_true rfl, Nat.le_of_ble_eq_true rfl⟩ ⟨Nat.zero_le _, Nat.zero_le _⟩ rfl (Nat.le_of_ble_eq_true rfl) dX4_fate_38 ?_
      refine j_aload_n (pc := 41) X dX4_fate_41 rfl (q := 0) rfl ?_
      refine j_get (pc := 42) X (C := RX4) (T := TX4) (N := 6) wz_X4 0 rfl rfl 2 (by decide) wf_X4_19 rfl dX4_fate_42 ?_
      refine j_aload_n (pc := 45) X dX4_fate_45 rfl (q := 0) rfl ?_
      refine j_get (pc := 46) X (C := RX4) (T := TX4) (N := 6) wz_X4 0 rfl rfl 0 (by decide) wf_X4_12 rfl dX4_fate_46 ?_
      refine j_get (pc := 49) X (C := RX1) (T := TX1) (N := 9) wz_X1 1 rfl rfl 2 (by decide) wf_X4_92 rfl dX4_fate_49 ?_
      refine j_iload_n (pc := 52) X dX4_fate_52 rfl (q := 1) rfl ?_
      refine j_iconst (pc := 53) X (v := (nI 2)) dX4_fate_53 (by decide) ?_
      refine j_callVR (pc := 54) X (st := [.ref (f 0)])  (c_X2_get l D tA (a 3) (a 8) 30 8 (sB s) bb 2 (by first | assumption | omega | decide) (by first | assumption | omega | decide) (by first | assumption | omega | decide) (by first | assumption | omega | decide) (by first | assumption | omega | decide) (by first | assumption | omega | decide)) cd_X2_get wm_X4_106 7 rfl rfl rfl [7, 8] rfl rfl ⟨Nat.le_of_ble_eq_true rfl, Nat.le_of_ble_eq_true rfl⟩ ⟨Nat.zero_le _, Nat.zero_le _⟩ rfl (Nat.le_of_ble_eq_true rfl) dX4_fate_54 ?_
      refine j_callVB (pc := 57) X (st := []) (wr := (clW c a b f h x k ++ (stW tA a s))) (w' := (clW c a b f h x k ++ (stW tA a s ++ (stW tA f (clo 10 s (tGet 8 (sB s) bb 2)))))) (c_X1_closeMovesUpTo l D tA f s (tGet 8 (sB s) bb 2) hw (by omega)) cd_X1_closeMovesUpTo wm_X4_176 11 rfl rfl rfl [11, 12, 13, 14, 15, 16, 17, 18, 19, 20] rfl rfl [0, 1, 2, 3, 4, 5, 6, 7, 8, 9, 10] rfl rfl (st_fst.trans st_fst.symm) [10, 11, 12, 13, 14, 15, 16, 17, 18, 19, 20, 0, 1, 2, 3, 4, 5, 6, 7, 8, 9] rfl rfl ⟨Nat.le_of_ble_eq_true rfl, Nat.le_of_ble_eq_true rfl⟩ ⟨Nat.zero_le _, Nat.zero_le _⟩ rfl (Nat.le_of_ble_eq_true rfl) dX4_fate_57 ?_
      refine j_aload_n (pc := 60) X dX4_fate_60 rfl (q := 0) rfl ?_
      refine j_get (pc := 61) X (C := RX4) (T := TX4) (N := 6) wz_X4 0 rfl rfl 2 (by decide) wf_X4_19 rfl dX4_fate_61 ?_
      refine j_iload_n (pc := 64) X dX4_fate_64 rfl (q := 1) rfl ?_
      refine j_callVR (pc := 65) X (st := [])  (c_X1_mustStandBy l D tA f (clo 10 s (tGet 8 (sB s) bb 2)) bb hw4 hb4) cd_X1_mustStandBy wm_X4_198 11 rfl rfl rfl [11, 12, 13, 14, 15, 16, 17, 18, 19, 20] rfl rfl ⟨Nat.le_of_ble_eq_true rfl, Nat.le_of_ble_eq_true rfl⟩ ⟨Nat.zero_le _, Nat.zero_le _⟩ rfl (Nat.le_of_ble_eq_true rfl) dX4_fate_65 ?_
      refine j_if_ne (pc := 68) X (tgt := 73) (P := (must (clo 10 s (tGet 8 (sB s) bb 2)) bb) = true) dX4_fate_68 (by decide) (bI_n0 _) (fun h68 => ?_) (fun h68 => ?_)
      · skip
        skip
        refine j_aload_n (pc := 73) X dX4_fate_73 rfl (q := 0) rfl ?_
        refine j_get (pc := 74) X (C := RX4) (T := TX4) (N := 6) wz_X4 0 rfl rfl 2 (by decide) wf_X4_19 rfl dX4_fate_74 ?_
        refine j_iload_n (pc := 77) X dX4_fate_77 rfl (q := 1) rfl ?_
        refine j_callVR (pc := 78) X (st := [])  (c_X1_causerOf l D tA f (clo 10 s (tGet 8 (sB s) bb 2)) bb hw4 hb4) cd_X1_causerOf wm_X4_201 11 rfl rfl rfl [11, 12, 13, 14, 15, 16, 17, 18, 19, 20] rfl rfl ⟨Nat.le_of_ble_eq_true rfl, Nat.le_of_ble_eq_true rfl⟩ ⟨Nat.zero_le _, Nat.zero_le _⟩ rfl (Nat.le_of_ble_eq_true rfl) dX4_fate_78 ?_
        refine j_bipush (pc := 81) X (v := (-5)) dX4_fate_81 (by decide) ?_
        refine j_icmp_ne (pc := 83) X (tgt := 90) (P := ¬ (caus (clo 10 s (tGet 8 (sB s) bb 2)) bb) = none) dX4_fate_83 (by decide) (not_congr (rO_none (fun p e => by have := caus_lt hw4 hb4 e; have := hw4.n; omega))) (fun h83 => ?_) (fun h83 => ?_)
        · skip
          refine j_iconst (pc := 90) X (v := (nI 1)) dX4_fate_90 (by decide) ?_
          have e : oFate s (nI bb) = ((nI 1), (some (clo 10 s (tGet 8 (sB s) bb 2)))) := by unfold oFate; simp only [ebb]; rw [if_pos h11, if_pos h24, fatN, if_pos h68, if_neg h83] <;> rfl
          exact j_endI (pc := 91) E dX4_fate_91 (by rw [e]) (by rw [e]; rfl)
        · skip
          refine j_iconst (pc := 86) X (v := (nI 2)) dX4_fate_86 (by decide) ?_
          refine j_goto (pc := 87) X (tgt := 91) dX4_fate_87 (by decide) ?_
          have e : oFate s (nI bb) = ((nI 2), (some (clo 10 s (tGet 8 (sB s) bb 2)))) := by unfold oFate; simp only [ebb]; rw [if_pos h11, if_pos h24, fatN, if_pos h68, if_pos (Decidable.not_not.mp h83)] <;> rfl
          exact j_endI (pc := 91) E dX4_fate_91 (by rw [e]) (by rw [e]; rfl)
      · skip
        skip
        refine j_iconst (pc := 71) X (v := (nI 0)) dX4_fate_71 (by decide) ?_
        have e : oFate s (nI bb) = ((nI 0), (some (clo 10 s (tGet 8 (sB s) bb 2)))) := by unfold oFate; simp only [ebb]; rw [if_pos h11, if_pos h24, fatN, if_neg h68] <;> rfl
        exact j_endI (pc := 72) E dX4_fate_72 (by rw [e]) (by rw [e]; rfl)
    · skip
      skip
      have h24 : ¬ tGet 8 (sB s) bb 5 = 0 := by simpa using h24
      refine j_bipush (pc := 27) X (v := (-4)) dX4_fate_27 (by decide) ?_
      have e : oFate s (nI bb) = ((-4), none) := by unfold oFate; simp only [ebb]; rw [if_pos h11, if_neg h24] <;> rfl
      exact j_endI (pc := 29) E dX4_fate_29 (by rw [e]) (by rw [e]; rfl)
  · skip
    skip
    refine j_iconst (pc := 14) X (v := (-1)) dX4_fate_14 (by decide) ?_
    have e : oFate s b0 = ((-1), none) := by unfold oFate; rw [if_neg h11] <;> rfl
    exact j_endI (pc := 15) E dX4_fate_15 (by rw [e]) (by rw [e]; rfl)
theorem cd_X4_count : kCardV yX4_count cX4_count 2 (some .int) 1 := ⟨⟨wc_X4_count, wi_X4, by decide +kernel, by decide +kernel, rfl⟩, wk_X4_count, ws_X4_count⟩
set_option maxHeartbeats 4000000 in
set_option maxRecDepth 100000 in
theorem c_X4_count (l : Launch) (D : va_G) (tA : Nat → ClassId) (c : Nat) (a b f h x : Nat → Nat) (k : Bool) (s : Sg) (d : Nat → Nat → Nat) (v : Hs) (ch : Nat → Nat) (len p : Nat) (t : Tb) (w0 : Int32) (hw : Wf s) : Kx l D tA yX4_count cX4_count 2 (some .int) 2 47 [.ref c, .int w0] (clW c a b f h x k ++ (stW tA a s ++ (hsW tA h d v ++ (txW tA x ch len p t)))) (some (.int (oCount s v.2.2 len w0))) (clW c a b f h x k ++ (stW tA a s ++ (hsW tA h d v ++ (txW tA x ch len p t)))) := by
  refine kx_int rfl (Nat.le_of_ble_eq_true rfl) (fun G X E => ?_)
  show J l D G 0 0 (clW c a b f h x k ++ (stW tA a s ++ (hsW tA h d v ++ (txW tA x ch len p t)))) [(0, .ref c), (1, .int w0)] 0 []
  have hn := hw.n
  refine j_iload_n (pc := 0) X dX4_count_0 rfl (q := 1) rfl ?_
  rcases Decidable.em (w0.toInt < 0 ∨ 16 < w0.toInt) with hs | hs
  · refine j_swOut (pc := 1) X (tgt := 264) dX4_count_1 hs (by decide) ?_
    refine j_bipush (pc := 264) X (v := (-2)) dX4_count_264 (by decide) ?_
    have e : oCount s v.2.2 len w0 = (-2) := by unfold oCount; rw [if_neg (by omega), if_neg (by omega), if_neg (by omega), if_neg (by omega), if_neg (by omega), if_neg (by omega), if_neg (by omega), if_neg (by omega), if_neg (by omega), if_neg (by omega), if_neg (by omega), if_neg (by omega), if_neg (by omega), if_neg (by omega), if_neg (by omega), if_neg (by omega), if_neg (by omega)] <;> rfl
    exact j_endI (pc := 266) E dX4_count_266 (by rw [e]) rfl
  have hs : w0.toInt = 0 ∨ w0.toInt = 1 ∨ w0.toInt = 2 ∨ w0.toInt = 3 ∨ w0.toInt = 4 ∨ w0.toInt = 5 ∨ w0.toInt = 6 ∨ w0.toInt = 7 ∨ w0.toInt = 8 ∨ w0.toInt = 9 ∨ w0.toInt = 10 ∨ w0.toInt = 11 ∨ w0.toInt = 12 ∨ w0.toInt = 13 ∨ w0.toInt = 14 ∨ w0.toInt = 15 ∨ w0.toInt = 16 := by omega
  rcases hs with hs | hs | hs | hs | hs | hs | hs | hs | hs | hs | hs | hs | hs | hs | hs | hs | hs
  · refine j_swIn (pc := 1) X (off := 83) (tgt := 84) dX4_count_1 (by omega) (by omega) (by rw [hs]; rfl) (by decide) ?_
    refine j_aload_n (pc := 84) X dX4_count_84 rfl (q := 0) rfl ?_
    refine j_get (pc := 85) X (C := RX4) (T := TX4) (N := 6) wz_X4 0 rfl rfl 0 (by decide) wf_X4_12 rfl dX4_count_85 ?_
    refine j_get (pc := 88) X (C := RX1) (T := TX1) (N := 9) wz_X1 1 rfl rfl 5 (by decide) wf_X4_109 rfl dX4_count_88 ?_
    have e : oCount s v.2.2 len w0 = (nI (sN s)) := by unfold oCount; rw [if_pos hs] <;> rfl
    exact j_endI (pc := 91) E dX4_count_91 (by rw [e]) rfl
  · refine j_swIn (pc := 1) X (off := 91) (tgt := 92) dX4_count_1 (by omega) (by omega) (by rw [hs]; rfl) (by decide) ?_
    refine j_aload_n (pc := 92) X dX4_count_92 rfl (q := 0) rfl ?_
    refine j_get (pc := 93) X (C := RX4) (T := TX4) (N := 6) wz_X4 0 rfl rfl 0 (by decide) wf_X4_12 rfl dX4_count_93 ?_
    refine j_get (pc := 96) X (C := RX1) (T := TX1) (N := 9) wz_X1 1 rfl rfl 0 (by decide) wf_X4_44 rfl dX4_count_96 ?_
    refine j_callVR (pc := 99) X (st := [])  (c_X2_size l D tA (a 1) (a 6) 5 3 (sM s)  ) cd_X2_size wm_X4_133 3 rfl rfl rfl [3, 4] rfl rfl ⟨Nat.le_of_ble_eq_true rfl, Nat.le_of_ble_eq_true rfl⟩ ⟨Nat.zero_le _, Nat.zero_le _⟩ rfl (Nat.le_of_ble_eq_true rfl) dX4_count_99 ?_
    have e : oCount s v.2.2 len w0 = (nI ((sM s).1)) := by unfold oCount; rw [if_neg (by omega), if_pos hs] <;> rfl
    exact j_endI (pc := 102) E dX4_count_102 (by rw [e]) rfl
  · refine j_swIn (pc := 1) X (off := 102) (tgt := 103) dX4_count_1 (by omega) (by omega) (by rw [hs]; rfl) (by decide) ?_
    refine j_aload_n (pc := 103) X dX4_count_103 rfl (q := 0) rfl ?_
    refine j_get (pc := 104) X (C := RX4) (T := TX4) (N := 6) wz_X4 0 rfl rfl 0 (by decide) wf_X4_12 rfl dX4_count_104 ?_
    refine j_get (pc := 107) X (C := RX1) (T := TX1) (N := 9) wz_X1 1 rfl rfl 1 (by decide) wf_X4_62 rfl dX4_count_107 ?_
    refine j_callVR (pc := 110) X (st := [])  (c_X2_size l D tA (a 2) (a 7) 8 2 (sP s)  ) cd_X2_size wm_X4_133 5 rfl rfl rfl [5, 6] rfl rfl ⟨Nat.le_of_ble_eq_true rfl, Nat.le_of_ble_eq_true rfl⟩ ⟨Nat.zero_le _, Nat.zero_le _⟩ rfl (Nat.le_of_ble_eq_true rfl) dX4_count_110 ?_
    have e : oCount s v.2.2 len w0 = (nI ((sP s).1)) := by unfold oCount; rw [if_neg (by omega), if_neg (by omega), if_pos hs] <;> rfl
    exact j_endI (pc := 113) E dX4_count_113 (by rw [e]) rfl
  · refine j_swIn (pc := 1) X (off := 113) (tgt := 114) dX4_count_1 (by omega) (by omega) (by rw [hs]; rfl) (by decide) ?_
    refine j_aload_n (pc := 114) X dX4_count_114 rfl (q := 0) rfl ?_
    refine j_get (pc := 115) X (C := RX4) (T := TX4) (N := 6) wz_X4 0 rfl rfl 0 (by decide) wf_X4_12 rfl dX4_count_115 ?_
    refine j_get (pc := 118) X (C := RX1) (T := TX1) (N := 9) wz_X1 1 rfl rfl 2 (by decide) wf_X4_92 rfl dX4_count_118 ?_
    refine j_callVR (pc := 121) X (st := [])  (c_X2_size l D tA (a 3) (a 8) 30 8 (sB s)  ) cd_X2_size wm_X4_133 7 rfl rfl rfl [7, 8] rfl rfl ⟨Nat.le_of_ble_eq_true rfl, Nat.le_of_ble_eq_true rfl⟩ ⟨Nat.zero_le _, Nat.zero_le _⟩ rfl (Nat.le_of_ble_eq_true rfl) dX4_count_121 ?_
    have e : oCount s v.2.2 len w0 = (nI ((sB s).1)) := by unfold oCount; rw [if_neg (by omega), if_neg (by omega), if_neg (by omega), if_pos hs] <;> rfl
    exact j_endI (pc := 124) E dX4_count_124 (by rw [e]) rfl
  · refine j_swIn (pc := 1) X (off := 124) (tgt := 125) dX4_count_1 (by omega) (by omega) (by rw [hs]; rfl) (by decide) ?_
    refine j_aload_n (pc := 125) X dX4_count_125 rfl (q := 0) rfl ?_
    refine j_get (pc := 126) X (C := RX4) (T := TX4) (N := 6) wz_X4 0 rfl rfl 0 (by decide) wf_X4_12 rfl dX4_count_126 ?_
    refine j_get (pc := 129) X (C := RX1) (T := TX1) (N := 9) wz_X1 1 rfl rfl 2 (by decide) wf_X4_92 rfl dX4_count_129 ?_
    refine j_iconst (pc := 132) X (v := (nI 5)) dX4_count_132 (by decide) ?_
    refine j_iconst (pc := 133) X (v := (nI 0)) dX4_count_133 (by decide) ?_
    refine j_callVR (pc := 134) X (st := [])  (c_X2_countOf l D tA (a 3) (a 8) 30 8 (sB s) 5 0 (by decide) (by decide) (by omega) (by decide) (by decide) (fun r hr => by have := hw.b hr; omega) (by decide)) cd_X2_countOf wm_X4_186 7 rfl rfl rfl [7, 8] rfl rfl ⟨Nat.le_of_ble_eq_true rfl, Nat.le_of_ble_eq_true rfl⟩ ⟨Nat.zero_le _, Nat.zero_le _⟩ rfl (Nat.le_of_ble_eq_true rfl) dX4_count_134 ?_
    have e : oCount s v.2.2 len w0 = (nI (cntN (fun r => decide (tGet 8 (sB s) r 5 = 0)) (sB s).1)) := by unfold oCount; rw [if_neg (by omega), if_neg (by omega), if_neg (by omega), if_neg (by omega), if_pos hs] <;> rfl
    exact j_endI (pc := 137) E dX4_count_137 (by rw [e]) rfl
  · refine j_swIn (pc := 1) X (off := 137) (tgt := 138) dX4_count_1 (by omega) (by omega) (by rw [hs]; rfl) (by decide) ?_
    refine j_aload_n (pc := 138) X dX4_count_138 rfl (q := 0) rfl ?_
    refine j_get (pc := 139) X (C := RX4) (T := TX4) (N := 6) wz_X4 0 rfl rfl 0 (by decide) wf_X4_12 rfl dX4_count_139 ?_
    refine j_get (pc := 142) X (C := RX1) (T := TX1) (N := 9) wz_X1 1 rfl rfl 2 (by decide) wf_X4_92 rfl dX4_count_142 ?_
    refine j_iconst (pc := 145) X (v := (nI 5)) dX4_count_145 (by decide) ?_
    refine j_iconst (pc := 146) X (v := (nI 1)) dX4_count_146 (by decide) ?_
    refine j_callVR (pc := 147) X (st := [])  (c_X2_countOf l D tA (a 3) (a 8) 30 8 (sB s) 5 1 (by decide) (by decide) (by omega) (by decide) (by decide) (fun r hr => by have := hw.b hr; omega) (by decide)) cd_X2_countOf wm_X4_186 7 rfl rfl rfl [7, 8] rfl rfl ⟨Nat.le_of_ble_eq_true rfl, Nat.le_of_ble_eq_true rfl⟩ ⟨Nat.zero_le _, Nat.zero_le _⟩ rfl (Nat.le_of_ble_eq_true rfl) dX4_count_147 ?_
    have e : oCount s v.2.2 len w0 = (nI (cntN (fun r => decide (tGet 8 (sB s) r 5 = 1)) (sB s).1)) := by unfold oCount; rw [if_neg (by omega), if_neg (by omega), if_neg (by omega), if_neg (by omega), if_neg (by omega), if_pos hs] <;> rfl
    exact j_endI (pc := 150) E dX4_count_150 (by rw [e]) rfl
  · refine j_swIn (pc := 1) X (off := 150) (tgt := 151) dX4_count_1 (by omega) (by omega) (by rw [hs]; rfl) (by decide) ?_
    refine j_aload_n (pc := 151) X dX4_count_151 rfl (q := 0) rfl ?_
    refine j_get (pc := 152) X (C := RX4) (T := TX4) (N := 6) wz_X4 0 rfl rfl 0 (by decide) wf_X4_12 rfl dX4_count_152 ?_
    refine j_get (pc := 155) X (C := RX1) (T := TX1) (N := 9) wz_X1 1 rfl rfl 2 (by decide) wf_X4_92 rfl dX4_count_155 ?_
    refine j_iconst (pc := 158) X (v := (nI 5)) dX4_count_158 (by decide) ?_
    refine j_iconst (pc := 159) X (v := (nI 2)) dX4_count_159 (by decide) ?_
    refine j_callVR (pc := 160) X (st := [])  (c_X2_countOf l D tA (a 3) (a 8) 30 8 (sB s) 5 2 (by decide) (by decide) (by omega) (by decide) (by decide) (fun r hr => by have := hw.b hr; omega) (by decide)) cd_X2_countOf wm_X4_186 7 rfl rfl rfl [7, 8] rfl rfl ⟨Nat.le_of_ble_eq_true rfl, Nat.le_of_ble_eq_true rfl⟩ ⟨Nat.zero_le _, Nat.zero_le _⟩ rfl (Nat.le_of_ble_eq_true rfl) dX4_count_160 ?_
    have e : oCount s v.2.2 len w0 = (nI (cntN (fun r => decide (tGet 8 (sB s) r 5 = 2)) (sB s).1)) := by unfold oCount; rw [if_neg (by omega), if_neg (by omega), if_neg (by omega), if_neg (by omega), if_neg (by omega), if_neg (by omega), if_pos hs] <;> rfl
    exact j_endI (pc := 163) E dX4_count_163 (by rw [e]) rfl
  · refine j_swIn (pc := 1) X (off := 163) (tgt := 164) dX4_count_1 (by omega) (by omega) (by rw [hs]; rfl) (by decide) ?_
    refine j_aload_n (pc := 164) X dX4_count_164 rfl (q := 0) rfl ?_
    refine j_get (pc := 165) X (C := RX4) (T := TX4) (N := 6) wz_X4 0 rfl rfl 0 (by decide) wf_X4_12 rfl dX4_count_165 ?_
    refine j_get (pc := 168) X (C := RX1) (T := TX1) (N := 9) wz_X1 1 rfl rfl 2 (by decide) wf_X4_92 rfl dX4_count_168 ?_
    refine j_iconst (pc := 171) X (v := (nI 5)) dX4_count_171 (by decide) ?_
    refine j_iconst (pc := 172) X (v := (nI 3)) dX4_count_172 (by decide) ?_
    refine j_callVR (pc := 173) X (st := [])  (c_X2_countOf l D tA (a 3) (a 8) 30 8 (sB s) 5 3 (by decide) (by decide) (by omega) (by decide) (by decide) (fun r hr => by have := hw.b hr; omega) (by decide)) cd_X2_countOf wm_X4_186 7 rfl rfl rfl [7, 8] rfl rfl ⟨Nat.le_of_ble_eq_true rfl, Nat.le_of_ble_eq_true rfl⟩ ⟨Nat.zero_le _, Nat.zero_le _⟩ rfl (Nat.le_of_ble_eq_true rfl) dX4_count_173 ?_
    have e : oCount s v.2.2 len w0 = (nI (cntN (fun r => decide (tGet 8 (sB s) r 5 = 3)) (sB s).1)) := by unfold oCount; rw [if_neg (by omega), if_neg (by omega), if_neg (by omega), if_neg (by omega), if_neg (by omega), if_neg (by omega), if_neg (by omega), if_pos hs] <;> rfl
    exact j_endI (pc := 176) E dX4_count_176 (by rw [e]) rfl
  · refine j_swIn (pc := 1) X (off := 176) (tgt := 177) dX4_count_1 (by omega) (by omega) (by rw [hs]; rfl) (by decide) ?_
    refine j_aload_n (pc := 177) X dX4_count_177 rfl (q := 0) rfl ?_
    refine j_get (pc := 178) X (C := RX4) (T := TX4) (N := 6) wz_X4 0 rfl rfl 0 (by decide) wf_X4_12 rfl dX4_count_178 ?_
    refine j_get (pc := 181) X (C := RX1) (T := TX1) (N := 9) wz_X1 1 rfl rfl 3 (by decide) wf_X4_122 rfl dX4_count_181 ?_
    refine j_callVR (pc := 184) X (st := [])  (c_X2_size l D tA (a 4) (a 9) 10 5 (sV s)  ) cd_X2_size wm_X4_133 9 rfl rfl rfl [9, 10] rfl rfl ⟨Nat.le_of_ble_eq_true rfl, Nat.le_of_ble_eq_true rfl⟩ ⟨Nat.zero_le _, Nat.zero_le _⟩ rfl (Nat.le_of_ble_eq_true rfl) dX4_count_184 ?_
    have e : oCount s v.2.2 len w0 = (nI ((sV s).1)) := by unfold oCount; rw [if_neg (by omega), if_neg (by omega), if_neg (by omega), if_neg (by omega), if_neg (by omega), if_neg (by omega), if_neg (by omega), if_neg (by omega), if_pos hs] <;> rfl
    exact j_endI (pc := 187) E dX4_count_187 (by rw [e]) rfl
  · refine j_swIn (pc := 1) X (off := 187) (tgt := 188) dX4_count_1 (by omega) (by omega) (by rw [hs]; rfl) (by decide) ?_
    refine j_aload_n (pc := 188) X dX4_count_188 rfl (q := 0) rfl ?_
    refine j_get (pc := 189) X (C := RX4) (T := TX4) (N := 6) wz_X4 0 rfl rfl 0 (by decide) wf_X4_12 rfl dX4_count_189 ?_
    refine j_get (pc := 192) X (C := RX1) (T := TX1) (N := 9) wz_X1 1 rfl rfl 6 (by decide) wf_X4_204 rfl dX4_count_192 ?_
    have e : oCount s v.2.2 len w0 = (nI (sD s)) := by unfold oCount; rw [if_neg (by omega), if_neg (by omega), if_neg (by omega), if_neg (by omega), if_neg (by omega), if_neg (by omega), if_neg (by omega), if_neg (by omega), if_neg (by omega), if_pos hs] <;> rfl
    exact j_endI (pc := 195) E dX4_count_195 (by rw [e]) rfl
  · refine j_swIn (pc := 1) X (off := 195) (tgt := 196) dX4_count_1 (by omega) (by omega) (by rw [hs]; rfl) (by decide) ?_
    refine j_aload_n (pc := 196) X dX4_count_196 rfl (q := 0) rfl ?_
    refine j_get (pc := 197) X (C := RX4) (T := TX4) (N := 6) wz_X4 0 rfl rfl 0 (by decide) wf_X4_12 rfl dX4_count_197 ?_
    refine j_get (pc := 200) X (C := RX1) (T := TX1) (N := 9) wz_X1 1 rfl rfl 7 (by decide) wf_X4_207 rfl dX4_count_200 ?_
    have e : oCount s v.2.2 len w0 = (nI (sF s)) := by unfold oCount; rw [if_neg (by omega), if_neg (by omega), if_neg (by omega), if_neg (by omega), if_neg (by omega), if_neg (by omega), if_neg (by omega), if_neg (by omega), if_neg (by omega), if_neg (by omega), if_pos hs] <;> rfl
    exact j_endI (pc := 203) E dX4_count_203 (by rw [e]) rfl
  · refine j_swIn (pc := 1) X (off := 203) (tgt := 204) dX4_count_1 (by omega) (by omega) (by rw [hs]; rfl) (by decide) ?_
    refine j_aload_n (pc := 204) X dX4_count_204 rfl (q := 0) rfl ?_
    refine j_get (pc := 205) X (C := RX4) (T := TX4) (N := 6) wz_X4 0 rfl rfl 0 (by decide) wf_X4_12 rfl dX4_count_205 ?_
    refine j_get (pc := 208) X (C := RX1) (T := TX1) (N := 9) wz_X1 1 rfl rfl 1 (by decide) wf_X4_62 rfl dX4_count_208 ?_
    refine j_iconst (pc := 211) X (v := (nI 0)) dX4_count_211 (by decide) ?_
    refine j_callVR (pc := 212) X (st := [])  (c_X2_sumOf l D tA (a 2) (a 7) 8 2 (sP s) 0 (by first | assumption | omega | decide) (by first | assumption | omega | decide) (by first | assumption | omega | decide) (by first | assumption | omega | decide) (by first | assumption | omega | decide)) cd_X2_sumOf wm_X4_210 5 rfl rfl rfl [5, 6] rfl rfl ⟨Nat.le_of_ble_eq_true rfl, Nat.le_of_ble_eq_true rfl⟩ ⟨Nat.zero_le _, Nat.zero_le _⟩ rfl (Nat.le_of_ble_eq_true rfl) dX4_count_212 ?_
    have e : oCount s v.2.2 len w0 = (nI (sumN (fun r => tGet 2 (sP s) r 0) (sP s).1)) := by unfold oCount; rw [if_neg (by omega), if_neg (by omega), if_neg (by omega), if_neg (by omega), if_neg (by omega), if_neg (by omega), if_neg (by omega), if_neg (by omega), if_neg (by omega), if_neg (by omega), if_neg (by omega), if_pos hs] <;> rfl
    exact j_endI (pc := 215) E dX4_count_215 (by rw [e]) rfl
  · refine j_swIn (pc := 1) X (off := 215) (tgt := 216) dX4_count_1 (by omega) (by omega) (by rw [hs]; rfl) (by decide) ?_
    refine j_aload_n (pc := 216) X dX4_count_216 rfl (q := 0) rfl ?_
    refine j_get (pc := 217) X (C := RX4) (T := TX4) (N := 6) wz_X4 0 rfl rfl 0 (by decide) wf_X4_12 rfl dX4_count_217 ?_
    refine j_get (pc := 220) X (C := RX1) (T := TX1) (N := 9) wz_X1 1 rfl rfl 1 (by decide) wf_X4_62 rfl dX4_count_220 ?_
    refine j_iconst (pc := 223) X (v := (nI 1)) dX4_count_223 (by decide) ?_
    refine j_callVR (pc := 224) X (st := [])  (c_X2_sumOf l D tA (a 2) (a 7) 8 2 (sP s) 1 (by first | assumption | omega | decide) (by first | assumption | omega | decide) (by first | assumption | omega | decide) (by first | assumption | omega | decide) (by first | assumption | omega | decide)) cd_X2_sumOf wm_X4_210 5 rfl rfl rfl [5, 6] rfl rfl ⟨Nat.le_of_ble_eq_true rfl, Nat.le_of_ble_eq_true rfl⟩ ⟨Nat.zero_le _, Nat.zero_le _⟩ rfl (Nat.le_of_ble_eq_true rfl) dX4_count_224 ?_
    have e : oCount s v.2.2 len w0 = (nI (sumN (fun r => tGet 2 (sP s) r 1) (sP s).1)) := by unfold oCount; rw [if_neg (by omega), if_neg (by omega), if_neg (by omega), if_neg (by omega), if_neg (by omega), if_neg (by omega), if_neg (by omega), if_neg (by omega), if_neg (by omega), if_neg (by omega), if_neg (by omega), if_neg (by omega), if_pos hs] <;> rfl
    exact j_endI (pc := 227) E dX4_count_227 (by rw [e]) rfl
  · refine j_swIn (pc := 1) X (off := 227) (tgt := 228) dX4_count_1 (by omega) (by omega) (by rw [hs]; rfl) (by decide) ?_
    refine j_aload_n (pc := 228) X dX4_count_228 rfl (q := 0) rfl ?_
    refine j_get (pc := 229) X (C := RX4) (T := TX4) (N := 6) wz_X4 0 rfl rfl 0 (by decide) wf_X4_12 rfl dX4_count_229 ?_
    refine j_get (pc := 232) X (C := RX1) (T := TX1) (N := 9) wz_X1 1 rfl rfl 8 (by decide) wf_X4_213 rfl dX4_count_232 ?_
    have e : oCount s v.2.2 len w0 = (nI (sX s)) := by unfold oCount; rw [if_neg (by omega), if_neg (by omega), if_neg (by omega), if_neg (by omega), if_neg (by omega), if_neg (by omega), if_neg (by omega), if_neg (by omega), if_neg (by omega), if_neg (by omega), if_neg (by omega), if_neg (by omega), if_neg (by omega), if_pos hs] <;> rfl
    exact j_endI (pc := 235) E dX4_count_235 (by rw [e]) rfl
  · refine j_swIn (pc := 1) X (off := 235) (tgt := 236) dX4_count_1 (by omega) (by omega) (by rw [hs]; rfl) (by decide) ?_
    refine j_aload_n (pc := 236) X dX4_count_236 rfl (q := 0) rfl ?_
    refine j_get (pc := 237) X (C := RX4) (T := TX4) (N := 6) wz_X4 0 rfl rfl 0 (by decide) wf_X4_12 rfl dX4_count_237 ?_
    refine j_get (pc := 240) X (C := RX1) (T := TX1) (N := 9) wz_X1 1 rfl rfl 0 (by decide) wf_X4_44 rfl dX4_count_240 ?_
    refine j_iconst (pc := 243) X (v := (nI 1)) dX4_count_243 (by decide) ?_
    refine j_callVR (pc := 244) X (st := [])  (c_X2_sumOf l D tA (a 1) (a 6) 5 3 (sM s) 1 (by first | assumption | omega | decide) (by first | assumption | omega | decide) (by first | assumption | omega | decide) (by first | assumption | omega | decide) (by first | assumption | omega | decide)) cd_X2_sumOf wm_X4_210 3 rfl rfl rfl [3, 4] rfl rfl ⟨Nat.le_of_ble_eq_true rfl, Nat.le_of_ble_eq_true rfl⟩ ⟨Nat.zero_le _, Nat.zero_le _⟩ rfl (Nat.le_of_ble_eq_true rfl) dX4_count_244 ?_
    have e : oCount s v.2.2 len w0 = (nI (sumN (fun r => tGet 3 (sM s) r 1) (sM s).1)) := by unfold oCount; rw [if_neg (by omega), if_neg (by omega), if_neg (by omega), if_neg (by omega), if_neg (by omega), if_neg (by omega), if_neg (by omega), if_neg (by omega), if_neg (by omega), if_neg (by omega), if_neg (by omega), if_neg (by omega), if_neg (by omega), if_neg (by omega), if_pos hs] <;> rfl
    exact j_endI (pc := 247) E dX4_count_247 (by rw [e]) rfl
  · refine j_swIn (pc := 1) X (off := 247) (tgt := 248) dX4_count_1 (by omega) (by omega) (by rw [hs]; rfl) (by decide) ?_
    refine j_aload_n (pc := 248) X dX4_count_248 rfl (q := 0) rfl ?_
    refine j_get (pc := 249) X (C := RX4) (T := TX4) (N := 6) wz_X4 0 rfl rfl 3 (by decide) wf_X4_25 rfl dX4_count_249 ?_
    refine j_callVR (pc := 252) X (st := [])  (c_X0_size l D tA h d v.2.1 v.2.2) cd_X0_size wm_X4_163 11 rfl rfl rfl [11, 12] rfl rfl ⟨Nat.le_of_ble_eq_true rfl, Nat.le_of_ble_eq_true rfl⟩ ⟨Nat.zero_le _, Nat.zero_le _⟩ rfl (Nat.le_of_ble_eq_true rfl) dX4_count_252 ?_
    have e : oCount s v.2.2 len w0 = (nI v.2.2) := by unfold oCount; rw [if_neg (by omega), if_neg (by omega), if_neg (by omega), if_neg (by omega), if_neg (by omega), if_neg (by omega), if_neg (by omega), if_neg (by omega), if_neg (by omega), if_neg (by omega), if_neg (by omega), if_neg (by omega), if_neg (by omega), if_neg (by omega), if_neg (by omega), if_pos hs] <;> rfl
    exact j_endI (pc := 255) E dX4_count_255 (by rw [e]) rfl
  · refine j_swIn (pc := 1) X (off := 255) (tgt := 256) dX4_count_1 (by omega) (by omega) (by rw [hs]; rfl) (by decide) ?_
    refine j_aload_n (pc := 256) X dX4_count_256 rfl (q := 0) rfl ?_
    refine j_get (pc := 257) X (C := RX4) (T := TX4) (N := 6) wz_X4 0 rfl rfl 4 (by decide) wf_X4_32 rfl dX4_count_257 ?_
    refine j_callVR (pc := 260) X (st := [])  (c_X3_length l D tA x ch len p t  ) cd_X3_length wm_X4_143 53 rfl rfl rfl [53, 54, 55, 56] rfl rfl ⟨Nat.le_of_ble_eq_true rfl, Nat.le_of_ble_eq_true rfl⟩ ⟨Nat.zero_le _, Nat.zero_le _⟩ rfl (Nat.le_of_ble_eq_true rfl) dX4_count_260 ?_
    have e : oCount s v.2.2 len w0 = (nI len) := by unfold oCount; rw [if_neg (by omega), if_neg (by omega), if_neg (by omega), if_neg (by omega), if_neg (by omega), if_neg (by omega), if_neg (by omega), if_neg (by omega), if_neg (by omega), if_neg (by omega), if_neg (by omega), if_neg (by omega), if_neg (by omega), if_neg (by omega), if_neg (by omega), if_neg (by omega), if_pos hs] <;> rfl
    exact j_endI (pc := 263) E dX4_count_263 (by rw [e]) rfl
end
section
def kQy (D : va_G) {S : Type} (Pr : S → Prop) (res : S → Option Value) (w' : S → va_W) (A : Nat → Prop) : Array Value → State → Outcome → State → Prop := fun _ st oc t => (∃ u : S, Pr u ∧ oc = .returned (res u) ∧ va_P D vwCl (w' u) t.heap) ∧ va_F A st t
def Ky (l : Launch) (D : va_G) (tA : Nat → ClassId) (y : MethodName) (cc : ByteArray) (nL : Nat) (ret : Option FieldType) (fr lo : Nat) (av : List Value) (w : va_W) {S : Type} (Pr : S → Prop) (res : S → Option Value) (w' : S → va_W) : Prop :=
  ∀ sz : Nat, Met l y (.code y cc nL ret :: kALL) ({ frames := fr, cells := 0, slots := 0, locals := lo }) (va_Pc av (fun U => U.heap.size = sz ∧ va_P D vwCl w U.heap ∧ kK D tA U ∧ va_D (fun _ => True) w)) (kQy D Pr res w' (va_A w sz)) 0 0 (va_A w sz)
def kEy (l : Launch) (D : va_G) (G : kCx) (cc : ByteArray) (ins : Instr) {S : Type} (Pr : S → Prop) (res : S → Option Value) (w : S → va_W) : Prop := ∀ (u : S) (lv : List (Nat × Value)) (pc : Nat), Pr u → decode cc pc = .ok (ins, 1) → J l D G 0 0 (w u) lv pc (res u).toList
theorem ky_body {l : Launch} {D : va_G} {tA : Nat → ClassId} {y : MethodName} {cc : ByteArray} {nL : Nat} {ret : Option FieldType} {fr lo : Nat} {av : List Value} {w : va_W} {S : Type} {Pr : S → Prop} {res : S → Option Value} {w' : S → va_W} (ins : Instr) (hy : plainName y.cls = true) (hn : (lg_sl av).length ≤ nL)
    (hE : ∀ (p : Program) (e : Env) (R : Room) (s : State) (m : MethodId) (args : Array Value) (below : List Frame) (meth : Method) (c : Code) (A : Nat → Prop), p.tables.exec = Jvm.exec → c.code = cc → meth.sig.returnType = ret → meth.locks = false → ∀ (u : S) (H : Heap) (locs : List Loc) (ls : Array Slot) (pc : Nat), Pr u → decode cc pc = .ok (ins, 1) → va_P D vwCl (w' u) H → va_S A s.heap H locs → W p l e R s m args below meth c H locs 0 0 (MQ below (kQy D Pr res w' A) args s 0 0 A) (F0 m pc ls (res u).toList))
    (body : ∀ G : kCx, kX D tA G cc nL y.cls fr lo → kEy l D G cc ins Pr res w' → J l D G 0 0 w (lv_args 0 av) 0 []) : Ky l D tA y cc nL ret fr lo av w Pr res w' := by
  intro sz
  refine Met.ofW (cc := cc) (maxL := nL) (ret := ret) hy rfl ?_
  intro p e s m args below meth c s₁ B hml hv
  obtain ⟨rfl, hsz, hP, hK, hD0⟩ := hv
  subst hsz
  have hts : ∀ w ∈ kALL, w.before av.toArray s = true := fun w hw => atoms_spec B.pre w (List.mem_cons_of_mem _ hw)
  have hown : s.vm.findClass y.cls = some m.cls := findClass_of_methodNamed B.named
  have hD := hD0.self (sz := s.heap.size)
  have hl := lv_entry av (n := nL) hn
  rw [lg_entry_eq]
  refine body (p, e, _, s, m, av.toArray, below, meth, c, _, va_A w s.heap.size) ⟨B.exec, B.bytes, hml, hown, hts, hK, fun q h => Or.inr h, Nat.le_refl _, Nat.le_refl _⟩ ?_ s.heap [] _ hP hD va_S.rf (by show lv_has _ c.maxLocals _; rw [hml]; exact hl)
  intro u lv pc hu hdg H locs ls hP1 hD1 hS1 hl1
  exact hE p e _ s m av.toArray below meth c (va_A w s.heap.size) B.exec B.bytes B.returns B.notSynchronized u H locs ls pc hu hdg hP1 hS1
section
variable {l : Launch} {D : va_G} {tA : Nat → ClassId} {y : MethodName} {cc : ByteArray} {nL fr lo : Nat} {av : List Value} {w : va_W} {S : Type} {Pr : S → Prop} {w' : S → va_W}
theorem ky_int {r : S → Int32} (hy : plainName y.cls = true) (hn : (lg_sl av).length ≤ nL)
    (body : ∀ G : kCx, kX D tA G cc nL y.cls fr lo → kEy l D G cc .ireturn Pr (fun u => some (.int (r u))) w' → J l D G 0 0 w (lv_args 0 av) 0 []) : Ky l D tA y cc nL (some .int) fr lo av w Pr (fun u => some (.int (r u))) w' :=
  ky_body .ireturn hy hn (fun p e R s m args below meth c A hx hb hr hlk u H locs ls pc hu hdg hP hS => W.iret hx hb hr (fun t ht hW => ⟨⟨u, hu, rfl, by rw [ht]; exact hP⟩, hS.F ht⟩) hS.2.2 hdg hlk) body
theorem ky_bool {r : S → Bool} (hy : plainName y.cls = true) (hn : (lg_sl av).length ≤ nL)
    (body : ∀ G : kCx, kX D tA G cc nL y.cls fr lo → kEy l D G cc .ireturn Pr (fun u => some (.int (bI (r u)))) w' → J l D G 0 0 w (lv_args 0 av) 0 []) : Ky l D tA y cc nL (some .boolean) fr lo av w Pr (fun u => some (.int (bI (r u)))) w' :=
  ky_body .ireturn hy hn (fun p e R s m args below meth c A hx hb hr hlk u H locs ls pc hu hdg hP hS => W.zret hx hb hr (bI_narrow (r u)) (fun t ht hW => ⟨⟨u, hu, rfl, by rw [ht]; exact hP⟩, hS.F ht⟩) hS.2.2 hdg hlk) body
end
section
variable {l : Launch} {D : va_G} {G : kCx} {cc : ByteArray} {S : Type} {Pr : S → Prop} {w : S → va_W} {w0 : va_W} {lv : List (Nat × Value)} {pc : Nat}
theorem j_endIy {r : S → Int32} {v : Int32} (E : kEy l D G cc .ireturn Pr (fun u => some (.int (r u))) w) (hdg : decode cc pc = .ok (.ireturn, 1)) (u : S) (hu : Pr u) (hr : r u = v) (hw : w u = w0) : J l D G 0 0 w0 lv pc [.int v] := by
  subst hr; subst hw; exact E u lv pc hu hdg
theorem j_ws {n k : Nat} {w1 w2 : va_W} {st : List Value} (h : w1 = w2) (kk : J l D G n k w2 lv pc st) : J l D G n k w1 lv pc st := h ▸ kk
end
section
variable {p : Program} {l : Launch} {e : Env} {R : Room} {s : State} {m : MethodId} {args : Array Value} {below : List Frame} {meth : Method} {c : Code} {H : Heap} {locs : List Loc} {cells slots : Nat} {Q : State → Prop}
theorem k_cally {pc : Nat} {ls : Array Slot} {rest st0 : List Value} {a : Array Value} {A0 A1 : Nat → Prop} {H0 : Heap} {free : Addr → Prop} {D : va_G} {S : Type} {Pr : S → Prop} {res : S → Option Value} {w1 : S → va_W} (hr : va_Run p l e R s m args below meth c H locs cells slots 0 0 (F0 m pc ls st0) rest (kQy D Pr res w1 A1 a) free) (hS : va_S A0 H0 H locs) (hA : ∀ q, q < H.size → A1 q → A0 q) (hf : ∀ q, free q → A0 q)
    (kk : ∀ (u : S) (H1 : Heap) (locs1 : List Loc), Pr u → va_P D vwCl (w1 u) H1 → (∀ q : Nat, q < H.size → ¬ A1 q → H1[q]? = H[q]?) → va_S A0 H0 H1 locs1 → W p l e R s m args below meth c H1 locs1 cells slots Q (F0 m (pc + 3) ls ((res u).toList ++ rest))) : W p l e R s m args below meth c H locs cells slots Q (F0 m pc ls st0) := by
  intro T hT X
  obtain ⟨v, st₀, t, T', L, h0, X', hL, e1, e2, ⟨⟨u, hu, hv, hb⟩, hz, hk⟩, st⟩ := hr T hT X
  cases hv
  rw [h0] at hz hk
  obtain ⟨t2, a1, b1⟩ := kk u T'.heap (locs ++ L) hu (by rw [e1]; exact hb) (fun q h1 h2 => by rw [e1]; exact hk q h1 h2)
    ⟨Nat.le_trans hS.1 (by rw [e1]; exact hz), fun q h1 h2 => by rw [e1, hk q (Nat.lt_of_lt_of_le h1 hS.1) (fun z => h2 (hA q (Nat.lt_of_lt_of_le h1 hS.1) z))]; exact hS.2.1 q h1 h2, fun q hq => by
      rcases List.mem_append.mp hq with h | h
      · exact hS.2.2 q h
      · exact hf _ (hL q h)⟩ T' rfl X'
  exact ⟨t2, st t2 a1, b1⟩
end
theorem j_callVy {l : Launch} {D : va_G} {tA : Nat → ClassId} {G : kCx} {cc : ByteArray} {nL : Nat} {own : String} {fr lo n k : Nat} {w : va_W} {lv : List (Nat × Value)} {pc : Nat} {st : List Value} (X : kX D tA G cc nL own fr lo) {y : MethodName} {bytes : ByteArray} {maxL : Nat} {ret : Option FieldType} {frc loc index b : Nat} {As : List Value} {wc : va_W} {S : Type} {Pr : S → Prop} {res : S → Option Value} {wf w' : S → va_W} {stk : List Value}
    (hM : Ky l D tA y bytes maxL ret frc loc (.ref b :: As) wc Pr res wf) (hcd : kCardV y bytes maxL ret As.length) (hlink : Cond.methodLink own index y ∈ kALL)
    (q0 : Nat) {ci : Nat} {fs : List Value} {r : vw_C} (he : w[q0]? = some (b, .inr (ci, fs))) (hcl : vwCl[ci]? = some r) (hrc : r.1 = y.cls) (is : List Nat) (hC : is.map (fun i => w[i]?) = wc.map some) (hn : va_nd is = true) (hfc : ∀ u, (wf u).map Prod.fst = wc.map Prod.fst) (hw : ∀ u, kPlug w is (wf u) = w' u)
    (hroom : frc + 1 ≤ fr ∧ 8 + (maxL + 11) + loc ≤ lo) (h0 : n ≤ (gR G).cells ∧ k ≤ (gR G).slots) (hstk : stk = As.reverse ++ .ref b :: st) (hcat : (st.map fun v => v.category).sum ≤ 8) (hdg : decode cc pc = .ok (.invokevirtual index, 3))
    (kk : ∀ u, Pr u → J l D G n k (w' u) lv (pc + 3) ((res u).toList ++ st)) : J l D G n k w lv pc stk := by
  subst hstk
  intro H locs ls hP hD hS hl
  obtain ⟨hx, hb, hml, hown, hts, hK, hA, hR⟩ := X
  obtain ⟨⟨hcode, hini, hd⟩, hinst, hsel⟩ := hcd
  have hpre := kPre (av := .ref b :: As) hK hP hD is hC hn
  refine k_cally (va_runV (As := As) (rest := st) (nL := (gc G).maxLocals) (C := y.cls) (own := own) (Ts := kALL) (bytes := bytes) (maxL := maxL) (ret := ret) ⟨hx, hb, rfl, hown, hts⟩ (hM H.size) (cwV As.length hts (kGoodApp (fun z hz => ?_) (kGood hcode)) rfl rfl rfl ⟨rfl, hd⟩ ⟨Nat.le_trans hroom.1 hR.1, Nat.le_trans hroom.2 hR.2⟩) ⟨hpre.1, ?_, hpre.2⟩ rfl rfl hl.1 rfl (lv_room hcat) hdg h0) hS (fun q _ h => kFree hD hS hA is hC q h) (kFree hD hS hA is hC) (fun u H1 locs1 hu hP1 hk1 hS1 => ?_)
  · rcases List.mem_cons.mp hz with rfl | hz
    · exact ⟨hlink, good_of_word (kALL_good _ hlink)⟩
    rcases List.mem_cons.mp hz with rfl | hz
    · exact ⟨hinst, good_of_word (kALL_good _ hinst)⟩
    rcases List.mem_cons.mp hz with rfl | hz
    · exact ⟨hsel, good_of_word (kALL_good _ hsel)⟩
    rcases List.mem_cons.mp hz with rfl | hz
    · exact ⟨hini, good_of_word (kALL_good _ hini)⟩
    · cases hz
  · have := va_recv hK.1 hP hcl he
    rw [hrc] at this
    exact this
  · exact kk u hu H1 locs1 ls (hw u ▸ kP_plug hP hD hC hn (by simpa using congrArg List.length (hfc u)) hk1 hP1) (kD_same hD (hw u ▸ kPlug_fst hC hn (hfc u))) hS1 hl
end
section
def Out (R R' : Nat → Nat) : Prop := ∀ j, 535 ≤ j → R' j = R j
theorem Out.rf {R : Nat → Nat} : Out R R := fun _ _ => rfl
theorem sum_eq {f g : Nat → Nat} : ∀ n, (∀ r, r < n → f r = g r) → sumN f n = sumN g n
  | 0, _ => rfl
  | n + 1, h => by rw [sumN, sumN, sum_eq n (fun r hr => h r (by omega)), h n (by omega)]
theorem sum_one {f g : Nat → Nat} {b d : Nat} : ∀ n, b < n → (∀ r, r < n → r ≠ b → f r = g r) → f b = g b + d → sumN f n = sumN g n + d
  | 0, hb, _, _ => absurd hb (Nat.not_lt_zero _)
  | n + 1, hb, h, e => by
    rw [sumN, sumN]
    by_cases q : b = n
    · subst q
      rw [sum_eq b (fun r hr => h r (by omega) (by omega)), e]; omega
    · rw [sum_one n (by omega) (fun r hr => h r (by omega)) e, h n (by omega) (by omega)]; omega
theorem cnt_eq {p q : Nat → Bool} : ∀ n, (∀ r, r < n → p r = q r) → cntN p n = cntN q n
  | 0, _ => rfl
  | n + 1, h => by rw [cntN, cntN, cnt_eq n (fun r hr => h r (by omega)), h n (by omega)]
def canM (s : Sg) (v : Nat) : Bool := decide (tGet 5 (sV s) v 3 ≤ tGet 3 (sM s) (tGet 5 (sV s) v 1) 1 ∧ tGet 3 (sM s) (tGet 5 (sV s) v 2) 1 + tGet 5 (sV s) v 3 ≤ 12)
def carM (s : Sg) (v mu : Nat) : Tb := tSet 3 (tSet 3 (sM s) (tGet 5 (sV s) v 1) 1 (tGet 3 (sM s) (tGet 5 (sV s) v 1) 1 - mu)) (tGet 5 (sV s) v 2) 1 (tGet 3 (tSet 3 (sM s) (tGet 5 (sV s) v 1) 1 (tGet 3 (sM s) (tGet 5 (sV s) v 1) 1 - mu)) (tGet 5 (sV s) v 2) 1 + mu)
def carS (s : Sg) (v : Nat) : Sg := uM s (carM s v (if canM s v = true then tGet 5 (sV s) v 3 else 0))
theorem tSet_same {cols r c : Nat} {t : Tb} : tSet cols t r c (tGet cols t r c) = t := by
  show (t.1, va_up t.2 (r * cols + c) (t.2 (r * cols + c))) = t
  have : va_up t.2 (r * cols + c) (t.2 (r * cols + c)) = t.2 := by
    funext j
    by_cases h : j = r * cols + c
    · rw [h, up_same]
    · rw [up_ne _ _ h]
  rw [this]
theorem carM_0 {s : Sg} {v : Nat} : carM s v 0 = sM s := by
  unfold carM
  rw [Nat.sub_zero, tSet_same, Nat.add_zero, tSet_same]
/-- what the reference does to one move, done and not done -/
def mvA (s : Sg) (v : Nat) : Sg := payS (carS s v) (tGet 5 (sV s) v 0) (if canM s v = true then 5 + 2 * tGet 5 (sV s) v 3 else 5)
def mvB (s : Sg) (v : Nat) : Sg := uM (mvA s v) (tSet 3 (sM (mvA s v)) (tGet 5 (sV s) v 1) 2 (if canM s v = true then tGet 5 (sV s) v 0 else tGet 3 (sM (mvA s v)) (tGet 5 (sV s) v 1) 2))
def mvC (s : Sg) (v : Nat) : Sg := uD (mvB s v) (sD (mvB s v) + (if canM s v = true then 1 else 0))
def mvD (s : Sg) (v : Nat) : Sg := uF (mvC s v) (sF (mvC s v) + (if canM s v = true then 0 else 1))
theorem mv_eq {s : Sg} {v : Nat} : uV (mvD s v) (tDel 5 (sV (mvD s v)) v) = clM s v := by
  unfold clM
  by_cases q : canM s v = true
  · have q2 := q
    simp only [canM, decide_eq_true_eq] at q2
    rw [if_neg (by omega)]
    unfold mvD mvC mvB mvA carS
    simp only [if_pos q]
    rfl
  · have q2 := q
    simp only [canM, decide_eq_true_eq] at q2
    rw [if_pos (by omega)]
    unfold mvD mvC mvB mvA carS
    simp only [if_neg q, carM_0, tSet_same]
    rfl
/-- more rounds than open moves change nothing -/
theorem clo_more : ∀ (n : Nat) (s : Sg) (t : Nat), (sV s).1 ≤ n → ∀ k, clo (n + k) s t = clo n s t
  | 0, s, t, h, k => by
    have e : nxt (sV s) t = none := by
      cases q : nxt (sV s) t with
      | none => rfl
      | some v => have := nxt_lt q; omega
    rw [clo_none e, clo_none e]
  | n + 1, s, t, h, k => by
    cases q : nxt (sV s) t with
    | none => rw [clo_none q, clo_none q]
    | some v =>
      have hv := nxt_lt q
      rw [show n + 1 + k = (n + k) + 1 by omega, clo_some q, clo_some q]
      refine clo_more n (clM s v) t ?_ k
      rw [(clM_B s v).2.2.2.1]
      show (sV s).1 - 1 ≤ n
      omega
theorem clo_step {s : Sg} (hn : (sV s).1 ≤ 10) {t v : Nat} (e : nxt (sV s) t = some v) : clo 10 (clM s v) t = clo 10 s t := by
  have hv := nxt_lt e
  have h1 : (sV (clM s v)).1 ≤ 9 := by rw [(clM_B s v).2.2.2.1]; show (sV s).1 - 1 ≤ 9; omega
  rw [show (10 : Nat) = 9 + 1 from rfl, clo_some e]
  exact clo_more 9 (clM s v) t h1 1
theorem del_ge {V : Tb} {v t : Nat} (h : ∀ q, q < V.1 → t ≤ tGet 5 V q 4) : ∀ q, q < (tDel 5 V v).1 → t ≤ tGet 5 (tDel 5 V v) q 4 := by
  intro q hq
  have hq' : q < V.1 - 1 := hq
  rw [get_del hq' (by decide)]
  split
  · exact h _ (by omega)
  · exact h _ (by omega)
def ftS (wt : Option Nat) (b ft k : Nat) : Nat := if wt = some b then k else ft
/-- what becomes of a booking whose half day it is -/
def lifS (s : Sg) (b : Nat) : Sg := if must s b = true then stbS s b else lftS s b
abbrev isNow (s : Sg) (b : Nat) : Prop := tGet 8 (sB s) b 5 = 0 ∧ tGet 8 (sB s) b 2 = sN s
theorem psB_t {s : Sg} {n : Nat} (h : isNow (psB n s).1 n) : (psB (n + 1) s).1 = lifS (psB n s).1 n := by
  rw [psB, stpB, if_pos h]
  unfold lifS
  split <;> rfl
theorem psB_f {s : Sg} {n : Nat} (h : ¬ isNow (psB n s).1 n) : psB (n + 1) s = psB n s := by
  rw [psB, stpB, if_neg h]
def fatP (wt : Option Nat) (s : Sg) (ft : Nat) : Nat → Nat
  | 0 => ft
  | n + 1 => if isNow (psB n s).1 n then ftS wt n (fatP wt s ft n) (fatN (psB n s).1 n) else fatP wt s ft n
theorem fatP_t {wt : Option Nat} {s : Sg} {ft n : Nat} (h : isNow (psB n s).1 n) : fatP wt s ft (n + 1) = ftS wt n (fatP wt s ft n) (fatN (psB n s).1 n) := if_pos h
theorem fatP_f {wt : Option Nat} {s : Sg} {ft n : Nat} (h : ¬ isNow (psB n s).1 n) : fatP wt s ft (n + 1) = fatP wt s ft n := if_neg h
def OKs (s : Sg) : Prop := Wf s ∧ (∀ q, q < (sV s).1 → sN s ≤ tGet 5 (sV s) q 4) ∧ (∀ b, b < (sB s).1 → tGet 8 (sB s) b 5 = 0 → sN s ≤ tGet 8 (sB s) b 2)
theorem cnt_zero {p : Nat → Bool} : ∀ n, (∀ r, r < n → p r = false) → cntN p n = 0
  | 0, _ => rfl
  | n + 1, h => by rw [cntN, cnt_zero n (fun r hr => h r (by omega)), h n (by omega)]; rfl
end
section
theorem okM_mono {a a' c v : Nat} (h1 : a ≤ a') (hc : c < 3) (h : okM a c v) : okM a' c v := by
  rcases (show c = 0 ∨ c = 1 ∨ c = 2 by omega) with rfl | rfl | rfl
  · exact h
  · exact h
  · exact h.elim Or.inl (fun q => Or.inr (Nat.lt_of_lt_of_le q h1))
theorem okB_mono {a a' b b' c v : Nat} (h1 : a ≤ a') (h2 : b ≤ b') (hc : c < 8) (h : okB a b c v) : okB a' b' c v := by
  rcases (show c = 0 ∨ c = 1 ∨ c = 2 ∨ c = 3 ∨ c = 4 ∨ c = 5 ∨ c = 6 ∨ c = 7 by omega) with rfl | rfl | rfl | rfl | rfl | rfl | rfl | rfl
  · exact Nat.lt_of_lt_of_le h h1
  · exact Nat.lt_of_lt_of_le h h2
  all_goals exact h
theorem okV_mono {a a' b b' c v : Nat} (h1 : a ≤ a') (h2 : b ≤ b') (hc : c < 5) (h : okV a b c v) : okV a' b' c v := by
  rcases (show c = 0 ∨ c = 1 ∨ c = 2 ∨ c = 3 ∨ c = 4 by omega) with rfl | rfl | rfl | rfl | rfl
  · exact Nat.lt_of_lt_of_le h h1
  · exact Nat.lt_of_lt_of_le h h2
  · exact Nat.lt_of_lt_of_le h h2
  all_goals exact h
theorem OKs.mach {s : Sg} (h : OKs s) {st bl : Nat} (h1 : 10 ≤ st ∧ st ≤ 200) (h2 : bl ≤ 12) (hm : (sM s).1 < 5) : OKs (pMach s st bl) := by
  obtain ⟨hw, hv, hb⟩ := h
  refine ⟨⟨⟨by show (sM s).1 + 1 ≤ 5; omega, fun r hr c hc => ?_⟩, hw.2.1, hw.2.2.1.imp (fun c v hc q => okB_mono (Nat.le_refl _) (Nat.le_succ _) hc q), hw.2.2.2.1.imp (fun c v hc q => okV_mono (Nat.le_refl _) (Nat.le_succ _) hc q), hw.2.2.2.2.1, hw.2.2.2.2.2⟩, hv, hb⟩
  have hr : r < (sM s).1 + 1 := hr
  show okM _ c (tGet 3 (tSet 3 (tSet 3 (tSet 3 (tAdd 3 (sM s)) (sM s).1 0 st) (sM s).1 1 bl) (sM s).1 2 NN) r c)
  by_cases q : r = (sM s).1
  · subst q
    rcases (show c = 0 ∨ c = 1 ∨ c = 2 by omega) with rfl | rfl | rfl
    · rw [get_set_c (by decide) (by decide) (by decide), get_set_c (by decide) (by decide) (by decide), get_set_s (by decide)]; exact h1
    · rw [get_set_c (by decide) (by decide) (by decide), get_set_s (by decide)]; exact h2
    · rw [get_set_s (by decide)]; exact Or.inl rfl
  · rw [get_set_r (by decide) hc q, get_set_r (by decide) hc q, get_set_r (by decide) hc q, get_add_o (by omega) hc]
    exact hw.1.2 r (by omega) c hc
theorem OKs.memb {s : Sg} (h : OKs s) (hp : (sP s).1 < 8) : OKs (uP s (tAdd 2 (sP s))) := by
  obtain ⟨hw, hv, hb⟩ := h
  exact ⟨⟨hw.1.imp (fun c v hc q => okM_mono (Nat.le_succ _) hc q), by show (sP s).1 + 1 ≤ 8; omega, hw.2.2.1.imp (fun c v hc q => okB_mono (Nat.le_succ _) (Nat.le_refl _) hc q), hw.2.2.2.1.imp (fun c v hc q => okV_mono (Nat.le_succ _) (Nat.le_refl _) hc q), hw.2.2.2.2.1, hw.2.2.2.2.2⟩, hv, hb⟩
theorem OKs.wind {s : Sg} (h : OKs s) {t w : Nat} (hw9 : w ≤ 99) : OKs (uW s (va_up (sW s) t w)) := by
  obtain ⟨hw, hv, hb⟩ := h
  refine ⟨⟨hw.1, hw.2.1, hw.2.2.1, hw.2.2.2.1, fun i hi => ?_, hw.2.2.2.2.2⟩, hv, hb⟩
  show va_up (sW s) t w i ≤ 99
  by_cases q : i = t
  · rw [q, up_same]; exact hw9
  · rw [up_ne _ _ q]; exact hw.w hi
/-- a booking's row, place by place -/
theorem plc_get {s : Sg} {b m t r c : Nat} (hc : c < 8) : tGet 8 (sB (placeS s b m t)) r c = if r = b ∧ c = 6 then sW s t else if r = b ∧ c = 2 then t else if r = b ∧ c = 1 then m else tGet 8 (sB s) r c := by
  show tGet 8 (tSet 8 (tSet 8 (tSet 8 (sB s) b 1 m) b 2 t) b 6 (sW s t)) r c = _
  rw [get_set (by decide) hc, get_set (by decide) hc, get_set (by decide) hc]
theorem OKs.place {s : Sg} (h : OKs s) {b m t : Nat} (hm : m < (sM s).1) (ht : sN s ≤ t ∧ t < 200) : OKs (placeS s b m t) := by
  obtain ⟨hw, hv, hb⟩ := h
  refine ⟨hw.place hm ht.2, hv, fun r hr h5 => ?_⟩
  have hr : r < (sB s).1 := hr
  rw [plc_get (by decide)] at h5 ⊢
  rw [if_neg (by omega), if_neg (by omega), if_neg (by omega)] at h5
  rw [if_neg (by omega)]
  by_cases q : r = b
  · rw [if_pos ⟨q, rfl⟩]; exact ht.1
  · rw [if_neg (fun z => q z.1), if_neg (by omega)]; exact hb r hr h5
theorem OKs.book {s : Sg} (h : OKs s) {p ld r m t : Nat} (hp : p < (sP s).1) (hl : 1 ≤ ld ∧ ld ≤ 2000) (hr9 : 2 ≤ r ∧ r ≤ 60) (hm : m < (sM s).1) (ht : sN s ≤ t ∧ t < 200) (hn : (sB s).1 < 30) : OKs (placeS (pBook s p ld r) (sB s).1 m t) := by
  obtain ⟨hw, hv, hb⟩ := h
  have go : ∀ b c, b < (sB s).1 → c < 8 → tGet 8 (sB (placeS (pBook s p ld r) (sB s).1 m t)) b c = tGet 8 (sB s) b c := fun b c hb2 hc => by
    have q : b ≠ (sB s).1 := by omega
    show tGet 8 (tSet 8 (tSet 8 (tSet 8 (tSet 8 (tSet 8 (tSet 8 (tSet 8 (tAdd 8 (sB s)) (sB s).1 0 p) (sB s).1 3 ld) (sB s).1 4 r) (sB s).1 5 0) (sB s).1 1 m) (sB s).1 2 t) (sB s).1 6 (sW s t)) b c = _
    rw [get_set_r (by decide) hc q, get_set_r (by decide) hc q, get_set_r (by decide) hc q, get_set_r (by decide) hc q, get_set_r (by decide) hc q, get_set_r (by decide) hc q, get_set_r (by decide) hc q, get_add_o hb2 hc]
  have gn : ∀ c, c < 8 → tGet 8 (sB (placeS (pBook s p ld r) (sB s).1 m t)) (sB s).1 c = if c = 6 then sW s t else if c = 2 then t else if c = 1 then m else if c = 5 then 0 else if c = 4 then r else if c = 3 then ld else if c = 0 then p else 0 := fun c hc => by
    show tGet 8 (tSet 8 (tSet 8 (tSet 8 (tSet 8 (tSet 8 (tSet 8 (tSet 8 (tAdd 8 (sB s)) (sB s).1 0 p) (sB s).1 3 ld) (sB s).1 4 r) (sB s).1 5 0) (sB s).1 1 m) (sB s).1 2 t) (sB s).1 6 (sW s t)) (sB s).1 c = _
    simp only [get_set (cols := 8) (show 6 < 8 by decide) hc, get_set (cols := 8) (show 2 < 8 by decide) hc, get_set (cols := 8) (show 1 < 8 by decide) hc, get_set (cols := 8) (show 5 < 8 by decide) hc, get_set (cols := 8) (show 4 < 8 by decide) hc, get_set (cols := 8) (show 3 < 8 by decide) hc, get_set (cols := 8) (show 0 < 8 by decide) hc, true_and, get_add_n hc]
  refine ⟨⟨hw.1, hw.2.1, ⟨by show (sB s).1 + 1 ≤ 30; omega, fun b hb2 c hc => ?_⟩, hw.2.2.2.1, hw.2.2.2.2.1, hw.2.2.2.2.2⟩, hv, fun b hb2 h5 => ?_⟩
  · have hb2 : b < (sB s).1 + 1 := hb2
    by_cases q : b = (sB s).1
    · rw [q, gn c hc]
      rcases (show c = 0 ∨ c = 1 ∨ c = 2 ∨ c = 3 ∨ c = 4 ∨ c = 5 ∨ c = 6 ∨ c = 7 by omega) with rfl | rfl | rfl | rfl | rfl | rfl | rfl | rfl
      · exact hp
      · exact hm
      · exact ht.2
      · exact hl
      · exact hr9
      · exact (show 0 ≤ 3 by decide)
      · exact hw.w ht.2
      · trivial
    · rw [go b c (by omega) hc]; exact hw.2.2.1.2 b (by omega) c hc
  · have hb2 : b < (sB s).1 + 1 := hb2
    by_cases q : b = (sB s).1
    · rw [q, gn 2 (by decide)]; exact ht.1
    · rw [go b 5 (by omega) (by decide)] at h5
      rw [go b 2 (by omega) (by decide)]; exact hb b (by omega) h5
theorem OKs.setB {s : Sg} (h : OKs s) {b c v : Nat} (hc : c < 8) (hv : okB (sP s).1 (sM s).1 c v) (hc2 : c ≠ 2) (h5 : c = 5 → v ≠ 0) : OKs (uB s (tSet 8 (sB s) b c v)) := by
  obtain ⟨hw, hv0, hb⟩ := h
  refine ⟨hw.setB hc hv, hv0, fun r hr h5r => ?_⟩
  have hr : r < (sB s).1 := hr
  have h5r : tGet 8 (tSet 8 (sB s) b c v) r 5 = 0 := h5r
  show sN s ≤ tGet 8 (tSet 8 (sB s) b c v) r 2
  rw [get_set_c hc (by decide) (fun q => hc2 q.symm)]
  rw [get_set hc (by decide)] at h5r
  by_cases q : r = b ∧ 5 = c
  · rw [if_pos q] at h5r; exact absurd h5r (h5 q.2.symm)
  · rw [if_neg q] at h5r; exact hb r hr h5r
theorem OKs.pay {s : Sg} (h : OKs s) {p c : Nat} : OKs (payS s p c) := ⟨h.1.pay, h.2⟩
theorem OKs.can {s : Sg} (h : OKs s) {b : Nat} : OKs (canS s b) := OKs.setB (OKs.pay h) (c := 5) (v := 3) (by decide) (show 3 ≤ 3 by decide) (by decide) (fun _ => by decide)
theorem OKs.swp {s : Sg} (h : OKs s) {b c : Nat} (hb : b < (sB s).1) (hc : c < (sB s).1) (h5b : tGet 8 (sB s) b 5 = 0) (h5c : tGet 8 (sB s) c 5 = 0) : OKs (swpS s b c) := by
  have hb0 := h.1.b hb
  have hc0 := h.1.b hc
  exact OKs.place (OKs.place h hc0.2.1 ⟨h.2.2 c hc h5c, hc0.2.2.1⟩) (show tGet 8 (sB s) b 1 < (sM s).1 from hb0.2.1) ⟨h.2.2 b hb h5b, hb0.2.2.1⟩
theorem OKs.move {s : Sg} (h : OKs s) {p fr to mu t : Nat} (hp : p < (sP s).1) (hf : fr < (sM s).1) (hto : to < (sM s).1) (hm : 1 ≤ mu ∧ mu ≤ 12) (ht : sN s ≤ t ∧ t < 200) (hn : (sV s).1 < 10) : OKs (pMove s p fr to mu t) := by
  obtain ⟨hw, hv, hb⟩ := h
  have go : ∀ b c, b < (sV s).1 → c < 5 → tGet 5 (sV (pMove s p fr to mu t)) b c = tGet 5 (sV s) b c := fun b c hb2 hc => by
    have q : b ≠ (sV s).1 := by omega
    show tGet 5 (tSet 5 (tSet 5 (tSet 5 (tSet 5 (tSet 5 (tAdd 5 (sV s)) (sV s).1 0 p) (sV s).1 1 fr) (sV s).1 2 to) (sV s).1 3 mu) (sV s).1 4 t) b c = _
    rw [get_set_r (by decide) hc q, get_set_r (by decide) hc q, get_set_r (by decide) hc q, get_set_r (by decide) hc q, get_set_r (by decide) hc q, get_add_o hb2 hc]
  have gn : ∀ c, c < 5 → tGet 5 (sV (pMove s p fr to mu t)) (sV s).1 c = if c = 4 then t else if c = 3 then mu else if c = 2 then to else if c = 1 then fr else if c = 0 then p else 0 := fun c hc => by
    show tGet 5 (tSet 5 (tSet 5 (tSet 5 (tSet 5 (tSet 5 (tAdd 5 (sV s)) (sV s).1 0 p) (sV s).1 1 fr) (sV s).1 2 to) (sV s).1 3 mu) (sV s).1 4 t) (sV s).1 c = _
    simp only [get_set (cols := 5) (show 4 < 5 by decide) hc, get_set (cols := 5) (show 2 < 5 by decide) hc, get_set (cols := 5) (show 1 < 5 by decide) hc, get_set (cols := 5) (show 3 < 5 by decide) hc, get_set (cols := 5) (show 0 < 5 by decide) hc, true_and, get_add_n hc]
  refine ⟨⟨hw.1, hw.2.1, hw.2.2.1, ⟨by show (sV s).1 + 1 ≤ 10; omega, fun b hb2 c hc => ?_⟩, hw.2.2.2.2.1, hw.2.2.2.2.2⟩, fun b hb2 => ?_, hb⟩
  · have hb2 : b < (sV s).1 + 1 := hb2
    by_cases q : b = (sV s).1
    · rw [q, gn c hc]
      rcases (show c = 0 ∨ c = 1 ∨ c = 2 ∨ c = 3 ∨ c = 4 by omega) with rfl | rfl | rfl | rfl | rfl
      · exact hp
      · exact hf
      · exact hto
      · exact hm
      · exact ht.2
    · rw [go b c (by omega) hc]; exact hw.2.2.2.1.2 b (by omega) c hc
  · have hb2 : b < (sV s).1 + 1 := hb2
    by_cases q : b = (sV s).1
    · rw [q, gn 4 (by decide)]; exact ht.1
    · rw [go b 4 (by omega) (by decide)]; exact hv b (by omega)
theorem OKs.del {s : Sg} (h : OKs s) {v : Nat} : OKs (uV s (tDel 5 (sV s) v)) :=
  ⟨⟨h.1.1, h.1.2.1, h.1.2.2.1, h.1.2.2.2.1.del, h.1.2.2.2.2.1, h.1.2.2.2.2.2⟩, del_ge h.2.1, h.2.2⟩
theorem nxA_min {V : Tb} {t : Nat} : ∀ n, (nxA V t n).1 = none → ∀ v, v < n → t + 1 ≤ tGet 5 V v 4
  | 0, _, v, hv => absurd hv (Nat.not_lt_zero _)
  | n + 1, h, v, hv => by
    rw [nxA] at h
    by_cases q : tGet 5 V n 4 < (nxA V t n).2
    · rw [if_pos q] at h; cases h
    · rw [if_neg q] at h
      have e : ∀ k, (nxA V t k).1 = none → (nxA V t k).2 = t + 1 := by
        intro k
        induction k with
        | zero => intro _; rfl
        | succ k ih =>
          intro hk
          rw [nxA] at hk ⊢
          by_cases z : tGet 5 V k 4 < (nxA V t k).2
          · rw [if_pos z] at hk; cases hk
          · rw [if_neg z] at hk ⊢; exact ih hk
      have e1 := e n h
      by_cases z : v = n
      · subst z; omega
      · exact nxA_min n h v (by omega)
theorem clo_clear : ∀ (n : Nat) (s : Sg) (t : Nat), (sV s).1 ≤ n → ∀ v, v < (sV (clo n s t)).1 → t + 1 ≤ tGet 5 (sV (clo n s t)) v 4
  | 0, s, t, hn, v, hv => by have hv : v < (sV s).1 := hv; omega
  | n + 1, s, t, hn, v, hv => by
    cases e : nxt (sV s) t with
    | none => rw [clo_none e] at hv ⊢; exact nxA_min _ e v hv
    | some q =>
      rw [clo_some e] at hv ⊢
      have hq := nxt_lt e
      exact clo_clear n (clM s q) t (by rw [(clM_B s q).2.2.2.1]; show (sV s).1 - 1 ≤ n; omega) v hv
/-- what a step does to the bookings: other rows stay, and its own stands later, or is not booked -/
theorem cau_sB {s : Sg} {b : Nat} : sB (cauS s b) = sB s := (cau_B s b).1
theorem lif_row {s : Sg} {b : Nat} (hN : sN s ≤ 199) : (∀ r, r ≠ b → ∀ c, c < 8 → tGet 8 (sB (lifS s b)) r c = tGet 8 (sB s) r c) ∧ (tGet 8 (sB (lifS s b)) b 5 = 0 → sN s + 1 ≤ tGet 8 (sB (lifS s b)) b 2) := by
  by_cases hm : must s b = true
  · have e : lifS s b = cryS (incB (cauS s b) b) b := if_pos hm
    rw [e]
    have eB : sB (incB (cauS s b) b) = tSet 8 (sB s) b 7 (tGet 8 (sB s) b 7 + 1) := by
      show tSet 8 (sB (cauS s b)) b 7 (tGet 8 (sB (cauS s b)) b 7 + 1) = _
      rw [cau_sB]
    have eN : sN (incB (cauS s b) b) = sN s := (cau_B s b).2.1
    unfold cryS
    cases hf : fre (sB (incB (cauS s b) b)) (tGet 8 (sB (incB (cauS s b) b)) b 1) (min (sN (incB (cauS s b) b) + 9) 199 - sN (incB (cauS s b) b)) (sN (incB (cauS s b) b) + 1) with
    | none =>
      show (∀ r, r ≠ b → ∀ c, c < 8 → tGet 8 (tSet 8 (sB (incB (cauS s b) b)) b 5 2) r c = _) ∧ (tGet 8 (tSet 8 (sB (incB (cauS s b) b)) b 5 2) b 5 = 0 → _)
      refine ⟨fun r hr c hc => ?_, fun q => ?_⟩
      · rw [get_set_r (by decide) hc hr, eB, get_set_r (by decide) hc hr]
      · rw [get_set_s (by decide)] at q; exact absurd q (by decide)
    | some i =>
      have hi := fre_in _ _ _ hf
      refine ⟨fun r hr c hc => ?_, fun _ => ?_⟩
      · show tGet 8 (sB (placeS _ b _ i)) r c = _
        rw [plc_get hc, if_neg (fun z => hr z.1), if_neg (fun z => hr z.1), if_neg (fun z => hr z.1), eB, get_set_r (by decide) hc hr]
      · show _ ≤ tGet 8 (sB (placeS _ b _ i)) b 2
        rw [plc_get (by decide), if_neg (by omega), if_pos ⟨rfl, rfl⟩]
        omega
  · have e : lifS s b = lftS s b := if_neg hm
    rw [e]
    show (∀ r, r ≠ b → ∀ c, c < 8 → tGet 8 (tSet 8 (sB s) b 5 1) r c = _) ∧ (tGet 8 (tSet 8 (sB s) b 5 1) b 5 = 0 → _)
    refine ⟨fun r hr c hc => get_set_r (by decide) hc hr, fun q => ?_⟩
    rw [get_set_s (by decide)] at q; exact absurd q (by decide)
theorem psB_row {s : Sg} (hN : sN s ≤ 199) (hb : ∀ b, b < (sB s).1 → tGet 8 (sB s) b 5 = 0 → sN s ≤ tGet 8 (sB s) b 2) : ∀ n, n ≤ (sB s).1 → (∀ r, r < (sB s).1 → n ≤ r → ∀ c, c < 8 → tGet 8 (sB (psB n s).1) r c = tGet 8 (sB s) r c) ∧ (∀ r, r < n → tGet 8 (sB (psB n s).1) r 5 = 0 → sN s + 1 ≤ tGet 8 (sB (psB n s).1) r 2)
  | 0, _ => ⟨fun _ _ _ _ _ => rfl, fun r hr => absurd hr (Nat.not_lt_zero _)⟩
  | n + 1, hn => by
    obtain ⟨i1, i2⟩ := psB_row hN hb n (by omega)
    have eN := (psB_B s n).2.1
    by_cases q : isNow (psB n s).1 n
    · have hl := lif_row (s := (psB n s).1) (b := n) (by rw [eN]; exact hN)
      rw [psB_t q]
      refine ⟨fun r hr hnr c hc => ?_, fun r hr h5 => ?_⟩
      · rw [hl.1 r (by omega) c hc]; exact i1 r hr (by omega) c hc
      · by_cases z : r = n
        · subst z; rw [← eN]; exact hl.2 h5
        · rw [hl.1 r z 5 (by decide)] at h5
          rw [hl.1 r z 2 (by decide)]; exact i2 r (by omega) h5
    · rw [psB_f q]
      refine ⟨fun r hr hnr c hc => i1 r hr (by omega) c hc, fun r hr h5 => ?_⟩
      by_cases z : r = n
      · subst z
        have g2 := i1 r (by omega) (Nat.le_refl _) 2 (by decide)
        have g5 := i1 r (by omega) (Nat.le_refl _) 5 (by decide)
        have h0 := hb r (by omega) (by rw [← g5]; exact h5)
        have : ¬ tGet 8 (sB (psB r s).1) r 2 = sN (psB r s).1 := fun z => q ⟨h5, z⟩
        rw [eN] at this
        omega
      · exact i2 r (by omega) h5
theorem psH_inv {s : Sg} (h : OKs s) : (∀ q, q < (sV (psH s).1).1 → sN s + 1 ≤ tGet 5 (sV (psH s).1) q 4) ∧ (∀ b, b < (sB (psH s).1).1 → tGet 8 (sB (psH s).1) b 5 = 0 → sN s + 1 ≤ tGet 8 (sB (psH s).1) b 2) ∧ sN (psH s).1 = sN s + 1 := by
  have hn := h.1.n
  have c1 := clo_B 10 s (sN s)
  have p1 := psB_B (clo 10 s (sN s)) (sB (clo 10 s (sN s))).1
  refine ⟨fun q hq => ?_, fun b hb h5 => ?_, ?_⟩
  · have e : sV (psH s).1 = sV (clo 10 s (sN s)) := p1.2.2.2.2
    rw [e] at hq ⊢
    exact clo_clear 10 s (sN s) hn.2.2.2.1 q hq
  · have hb : b < (sB (psC s).1).1 := hb
    have hb2 : b < (sB (clo 10 s (sN s))).1 := by rw [← p1.1]; exact hb
    have := (psB_row (s := clo 10 s (sN s)) (by rw [c1.2.1]; exact hn.2.2.2.2) (fun r hr h5 => by rw [c1.1] at hr h5 ⊢; rw [c1.2.1]; exact h.2.2 r hr h5) (sB (clo 10 s (sN s))).1 (Nat.le_refl _)).2 b hb2 h5
    rw [c1.2.1] at this
    exact this
  · show sN (psC s).1 + 1 = _
    rw [psC_N]
theorem OKs.xpsH {s : Sg} (h : OKs s) (hn : sN s < 199) : OKs (psH s).1 := by
  have i := psH_inv h
  exact ⟨h.1.xpsH hn, fun q hq => by rw [i.2.2]; exact i.1 q hq, fun b hb h5 => by rw [i.2.2]; exact i.2.1 b hb h5⟩
theorem OKs.pas {s : Sg} (h : OKs s) : ∀ i, sN s + i < 200 → OKs (pasN i s).1 ∧ sN (pasN i s).1 = sN s + i
  | 0, _ => ⟨h, rfl⟩
  | i + 1, hi => by
    have h1 := OKs.pas h i (by omega)
    exact ⟨OKs.xpsH h1.1 (by rw [h1.2]; omega), by show sN (psH (pasN i s).1).1 = _; rw [(psH_inv h1.1).2.2, h1.2]; omega⟩
end
section
theorem nxA_up {V : Tb} {t h : Nat} (ht : t ≤ h) : ∀ n, (∀ v, (nxA V t n).1 = some v → nxA V h n = nxA V t n) ∧ ((nxA V t n).1 = none → (nxA V t n).2 = t + 1 ∧ t + 1 ≤ (nxA V h n).2)
  | 0 => ⟨fun v e => by simp [nxA] at e, fun _ => ⟨rfl, by show t + 1 ≤ h + 1; omega⟩⟩
  | n + 1 => by
    obtain ⟨i1, i2⟩ := nxA_up ht n
    cases e : (nxA V t n).1 with
    | some w =>
      have e1 := i1 w e
      rw [nxA, nxA, e1]
      refine ⟨fun v _ => rfl, fun z => ?_⟩
      by_cases q : tGet 5 V n 4 < (nxA V t n).2
      · rw [if_pos q] at z; cases z
      · rw [if_neg q, e] at z; cases z
    | none =>
      have e2 := i2 e
      rw [nxA, nxA]
      by_cases q : tGet 5 V n 4 < (nxA V t n).2
      · rw [if_pos q, if_pos (by omega)]
        exact ⟨fun v _ => rfl, fun z => by cases z⟩
      · rw [if_neg q]
        refine ⟨fun v z => (by rw [e] at z; cases z), fun _ => ⟨e2.1, ?_⟩⟩
        by_cases q2 : tGet 5 V n 4 < (nxA V h n).2
        · rw [if_pos q2]; show t + 1 ≤ tGet 5 V n 4; omega
        · rw [if_neg q2]; exact e2.2
theorem nxt_up {V : Tb} {t h v : Nat} (ht : t ≤ h) (e : nxt V t = some v) : nxt V h = some v := by
  unfold nxt at e ⊢
  rw [(nxA_up ht V.1).1 v e]; exact e
/-- the closing of a half day, and then of a later one -/
theorem clo_clo {t h : Nat} (ht : t ≤ h) : ∀ (n : Nat) (s : Sg), (sV s).1 ≤ 10 → clo 10 (clo n s t) h = clo 10 s h
  | 0, _, _ => rfl
  | n + 1, s, hn => by
    cases e : nxt (sV s) t with
    | none => rw [clo_none e]
    | some v =>
      rw [clo_some e, clo_clo ht n (clM s v) (by rw [(clM_B s v).2.2.2.1]; show (sV s).1 - 1 ≤ 10; omega)]
      exact clo_step hn (nxt_up ht e)
theorem clM_MV {s s' : Sg} (hM : sM s = sM s') (hV : sV s = sV s') (v : Nat) : sM (clM s v) = sM (clM s' v) ∧ sV (clM s v) = sV (clM s' v) := by
  refine ⟨?_, by rw [(clM_B s v).2.2.2.1, (clM_B s' v).2.2.2.1, hV]⟩
  unfold clM
  rw [hM, hV]
  split
  · exact hM
  · rfl
theorem clo_MV : ∀ (n : Nat) {s s' : Sg} (_ : sM s = sM s') (_ : sV s = sV s') (t : Nat), sM (clo n s t) = sM (clo n s' t) ∧ sV (clo n s t) = sV (clo n s' t)
  | 0, s, s', hM, hV, t => ⟨hM, hV⟩
  | n + 1, s, s', hM, hV, t => by
    cases e : nxt (sV s) t with
    | none => rw [clo_none e, clo_none (by rw [← hV]; exact e)]; exact ⟨hM, hV⟩
    | some v =>
      have e' : nxt (sV s') t = some v := by rw [← hV]; exact e
      rw [clo_some e, clo_some e']
      have := clM_MV hM hV v
      exact clo_MV n this.1 this.2 t
theorem psH_MV (s : Sg) : sM (psH s).1 = sM (clo 10 s (sN s)) ∧ sV (psH s).1 = sV (clo 10 s (sN s)) ∧ sW (psH s).1 = sW s ∧ (sB (psH s).1).1 = (sB s).1 := by
  have p := psB_B (clo 10 s (sN s)) (sB (clo 10 s (sN s))).1
  have c := clo_B 10 s (sN s)
  exact ⟨p.2.2.1, p.2.2.2.2, p.2.2.2.1.trans c.2.2.1, p.1.trans (by rw [c.1])⟩
theorem psB_keep {s : Sg} {r : Nat} (hN : sN s ≤ 199) (h : ¬ tGet 8 (sB s) r 2 = sN s) : ∀ n, ∀ c, c < 8 → tGet 8 (sB (psB n s).1) r c = tGet 8 (sB s) r c
  | 0, _, _ => rfl
  | n + 1, c, hc => by
    have i := psB_keep hN h n
    have eN := (psB_B s n).2.1
    by_cases q : isNow (psB n s).1 n
    · rw [psB_t q]
      by_cases z : r = n
      · subst z
        exact absurd (by rw [← i 2 (by decide), ← eN]; exact q.2) h
      · rw [(lif_row (s := (psB n s).1) (b := n) (by rw [eN]; exact hN)).1 r z c hc]; exact i c hc
    · rw [psB_f q]; exact i c hc
theorem pasN_far {s : Sg} (hok : OKs s) {b h : Nat} (hb : b < (sB s).1) (e2 : tGet 8 (sB s) b 2 = h) (hh : h < 200) : ∀ k, sN s + k ≤ h → (∀ c, c < 8 → tGet 8 (sB (pasN k s).1) b c = tGet 8 (sB s) b c) ∧ sM (clo 10 (pasN k s).1 h) = sM (clo 10 s h) ∧ sW (pasN k s).1 = sW s ∧ (sB (pasN k s).1).1 = (sB s).1
  | 0, _ => ⟨fun _ _ => rfl, rfl, rfl, rfl⟩
  | k + 1, hk => by
    obtain ⟨i1, i2, i3, i4⟩ := pasN_far hok hb e2 hh k (by omega)
    have hp := hok.pas k (by omega)
    have mv := psH_MV (pasN k s).1
    have c := clo_B 10 (pasN k s).1 (sN (pasN k s).1)
    refine ⟨fun z hz => ?_, ?_, mv.2.2.1.trans i3, mv.2.2.2.trans i4⟩
    · have kp := psB_keep (s := clo 10 (pasN k s).1 (sN (pasN k s).1)) (r := b) (by rw [c.2.1, hp.2]; omega) (by rw [c.1, c.2.1, i1 2 (by decide), e2, hp.2]; omega) (sB (clo 10 (pasN k s).1 (sN (pasN k s).1))).1 z hz
      exact kp.trans (by rw [c.1]; exact i1 z hz)
    · have m1 := clo_MV 10 (s := (psH (pasN k s).1).1) (s' := clo 10 (pasN k s).1 (sN (pasN k s).1)) mv.1 mv.2.1 h
      show sM (clo 10 (psH (pasN k s).1).1 h) = _
      rw [m1.1, clo_clo (by rw [hp.2]; omega) 10 _ hp.1.1.n.2.2.2.1]
      exact i2
theorem fatN_eq {s s' : Sg} {b : Nat} (hM : sM s = sM s') (hW : sW s = sW s') (hB : ∀ c, c < 8 → tGet 8 (sB s) b c = tGet 8 (sB s') b c) : fatN s b = fatN s' b := by
  have h0 := hB 0 (by decide)
  have h1 := hB 1 (by decide)
  have h2 := hB 2 (by decide)
  have h3 := hB 3 (by decide)
  have h4 := hB 4 (by decide)
  have h6 := hB 6 (by decide)
  have e1 : ∀ m, brsB s m b = brsB s' m b := fun m => by unfold brsB; rw [hM, h3, h4]
  have e2 : limO (sB s) b = limO (sB s') b := by unfold limO; rw [h3, h4]
  have e3 : must s b = must s' b := by unfold must; rw [e2, h1, h2, hW, e1]
  have e4 : caus s b = caus s' b := by unfold caus; rw [e2, h0, h1, h6, hM, e1]
  unfold fatN
  rw [e3, e4]
theorem fatP_at {s : Sg} {b ft : Nat} (h : isNow (psB b s).1 b) : ∀ n, b < n → fatP (some b) s ft n = fatN (psB b s).1 b
  | 0, hb => absurd hb (Nat.not_lt_zero _)
  | n + 1, hb => by
    by_cases z : n = b
    · subst z
      rw [fatP_t h]
      exact if_pos rfl
    · have i := fatP_at h n (by omega) (ft := ft)
      by_cases q : isNow (psB n s).1 n
      · rw [fatP_t q]
        exact (if_neg (fun w => z (by cases w; rfl))).trans i
      · rw [fatP_f q]; exact i
/-- the fate field behind the half day of the booking -/
theorem fatP_end {s : Sg} (hok : OKs s) {b h ft : Nat} (hb : b < (sB s).1) (e5 : tGet 8 (sB s) b 5 = 0) (e2 : tGet 8 (sB s) b 2 = h) (hh : h < 200) {k : Nat} (hk : sN s + k = h) : fatP (some b) (clo 10 (pasN k s).1 (sN (pasN k s).1)) ft (sB (clo 10 (pasN k s).1 (sN (pasN k s).1))).1 = fatN (clo 10 s h) b := by
  obtain ⟨i1, i2, i3, i4⟩ := pasN_far hok hb e2 hh k (by omega)
  have hp := hok.pas k (by omega)
  have eN : sN (pasN k s).1 = h := by rw [hp.2]; exact hk
  rw [eN]
  have c := clo_B 10 (pasN k s).1 h
  have c0 := clo_B 10 s h
  have rw0 := psB_row (s := clo 10 (pasN k s).1 h) (by rw [c.2.1, eN]; omega) (fun r hr h5 => by rw [c.1] at hr h5 ⊢; rw [c.2.1]; exact hp.1.2.2 r hr h5) b (by rw [c.1, i4]; omega)
  have row : ∀ z, z < 8 → tGet 8 (sB (psB b (clo 10 (pasN k s).1 h)).1) b z = tGet 8 (sB s) b z := fun z hz => by
    rw [rw0.1 b (by rw [c.1, i4]; omega) (Nat.le_refl _) z hz, c.1]; exact i1 z hz
  have pb := psB_B (clo 10 (pasN k s).1 h) b
  have now : isNow (psB b (clo 10 (pasN k s).1 h)).1 b := ⟨by rw [row 5 (by decide)]; exact e5, by rw [row 2 (by decide), e2, pb.2.1, c.2.1, eN]⟩
  rw [fatP_at now _ (by rw [c.1, i4]; exact hb)]
  refine fatN_eq (pb.2.2.1.trans i2) ((pb.2.2.2.1.trans c.2.2.1).trans (i3.trans c0.2.2.1.symm)) (fun z hz => ?_)
  rw [row z hz, c0.1]
abbrev Rw : Type := Nat × Nat × Nat × Nat
def exB (B : Nat → Nat) (r : Rw) : Nat → Nat := if r.2.2.1 ≤ B r.1 ∧ B r.2.1 + r.2.2.1 ≤ 12 then va_up (va_up B r.1 (B r.1 - r.2.2.1)) r.2.1 (va_up B r.1 (B r.1 - r.2.2.1) r.2.1 + r.2.2.1) else B
def rwV (V : Tb) (v : Nat) : Rw := (tGet 5 V v 1, tGet 5 V v 2, tGet 5 V v 3, tGet 5 V v 4)
def blk (s : Sg) : Nat → Nat := fun i => tGet 3 (sM s) i 1
/-- one move, carried -/
theorem carS_blk {s : Sg} {v : Nat} : blk (carS s v) = exB (blk s) (rwV (sV s) v) ∧ (∀ i, tGet 3 (sM (carS s v)) i 0 = tGet 3 (sM s) i 0) ∧ sV (carS s v) = sV s ∧ sN (carS s v) = sN s := by
  refine ⟨?_, fun i => ?_, rfl, rfl⟩
  · funext i
    show tGet 3 (carM s v _) i 1 = exB (blk s) (rwV (sV s) v) i
    unfold exB
    by_cases q : canM s v = true
    · have q2 := q
      simp only [canM, decide_eq_true_eq] at q2
      rw [if_pos q, if_pos (show (rwV (sV s) v).2.2.1 ≤ blk s (rwV (sV s) v).1 ∧ blk s (rwV (sV s) v).2.1 + (rwV (sV s) v).2.2.1 ≤ 12 from q2)]
      unfold carM
      rw [get_set (by decide) (by decide)]
      show _ = va_up _ (tGet 5 (sV s) v 2) _ i
      by_cases z : i = tGet 5 (sV s) v 2
      · rw [if_pos ⟨z, rfl⟩, z, up_same, get_set (by decide) (by decide)]
        show _ = va_up (blk s) (tGet 5 (sV s) v 1) _ (tGet 5 (sV s) v 2) + _
        by_cases y : tGet 5 (sV s) v 2 = tGet 5 (sV s) v 1
        · rw [if_pos ⟨y, rfl⟩, y, up_same]; rfl
        · rw [if_neg (fun w => y w.1), up_ne _ _ y]; rfl
      · rw [if_neg (fun w => z w.1), up_ne _ _ z, get_set (by decide) (by decide)]
        show _ = va_up (blk s) (tGet 5 (sV s) v 1) _ i
        by_cases y : i = tGet 5 (sV s) v 1
        · rw [if_pos ⟨y, rfl⟩, y, up_same]; rfl
        · rw [if_neg (fun w => y w.1), up_ne _ _ y]; rfl
    · have q2 := q
      simp only [canM, decide_eq_true_eq] at q2
      rw [if_neg q, carM_0, if_neg (show ¬ ((rwV (sV s) v).2.2.1 ≤ blk s (rwV (sV s) v).1 ∧ blk s (rwV (sV s) v).2.1 + (rwV (sV s) v).2.2.1 ≤ 12) from q2)]
      rfl
  · show tGet 3 (carM s v _) i 0 = _
    unfold carM
    rw [get_set_c (by decide) (by decide) (by decide), get_set_c (by decide) (by decide) (by decide)]
theorem clM_blk {s : Sg} {v : Nat} : blk (clM s v) = exB (blk s) (rwV (sV s) v) ∧ (∀ i, tGet 3 (sM (clM s v)) i 0 = tGet 3 (sM s) i 0) := by
  have h := carS_blk (s := s) (v := v)
  rw [← mv_eq]
  have e : sM (uV (mvD s v) (tDel 5 (sV (mvD s v)) v)) = tSet 3 (sM (carS s v)) (tGet 5 (sV s) v 1) 2 (if canM s v = true then tGet 5 (sV s) v 0 else tGet 3 (sM (mvA s v)) (tGet 5 (sV s) v 1) 2) := rfl
  refine ⟨?_, fun i => ?_⟩
  · rw [← h.1]
    funext i
    show tGet 3 (sM (uV (mvD s v) _)) i 1 = tGet 3 (sM (carS s v)) i 1
    rw [e, get_set_c (by decide) (by decide) (by decide)]
  · rw [e, get_set_c (by decide) (by decide) (by decide)]; exact h.2.1 i
end
section
def kQz (D : va_G) {S : Type} (Pr : S → Prop) (w' : S → va_W) (A : Nat → Prop) : Array Value → State → Outcome → State → Prop := fun _ st oc t => (∃ u : S, Pr u ∧ oc = .returned none ∧ va_P D vwCl (w' u) t.heap ∧ va_D A (w' u)) ∧ va_F A st t
def Kz (l : Launch) (D : va_G) (tA : Nat → ClassId) (y : MethodName) (cc : ByteArray) (nL fr lo mc ms : Nat) (av : List Value) (w : va_W) {S : Type} (Pr : S → Prop) (w' : S → va_W) : Prop :=
  ∀ sz : Nat, Met l y (.code y cc nL none :: kALL) ({ frames := fr, cells := mc, slots := ms, locals := lo }) (va_Pc av (fun U => U.heap.size = sz ∧ va_P D vwCl w U.heap ∧ kK D tA U ∧ va_D (fun _ => True) w)) (kQz D Pr w' (va_A w sz)) mc ms (va_A w sz)
def kEz (l : Launch) (D : va_G) (G : kCx) (cc : ByteArray) (mc ms : Nat) {S : Type} (Pr : S → Prop) (w' : S → va_W) : Prop := ∀ (u : S) (lv : List (Nat × Value)) (pc : Nat), Pr u → decode cc pc = .ok (.return_, 1) → J l D G mc ms (w' u) lv pc []
theorem kz_void {l : Launch} {D : va_G} {tA : Nat → ClassId} {y : MethodName} {cc : ByteArray} {nL fr lo mc ms : Nat} {av : List Value} {w : va_W} {S : Type} {Pr : S → Prop} {w' : S → va_W} (hy : plainName y.cls = true) (hi : y.name = "<init>") (hn : (lg_sl av).length ≤ nL)
    (body : ∀ G : kCx, kX D tA G cc nL y.cls fr lo → (mc ≤ (gR G).cells ∧ ms ≤ (gR G).slots) → (gh G).name = "<init>" → kEz l D G cc mc ms Pr w' → J l D G 0 0 w (lv_args 0 av) 0 []) : Kz l D tA y cc nL fr lo mc ms av w Pr w' := by
  intro sz
  refine Met.ofW (cc := cc) (maxL := nL) (ret := none) hy rfl ?_
  intro p e s m args below meth c s₁ B hml hv
  obtain ⟨rfl, hsz, hP, hK, hD0⟩ := hv
  subst hsz
  have hts : ∀ w ∈ kALL, w.before av.toArray s = true := fun w hw => atoms_spec B.pre w (List.mem_cons_of_mem _ hw)
  have hown : s.vm.findClass y.cls = some m.cls := findClass_of_methodNamed B.named
  have hD := hD0.self (sz := s.heap.size)
  have hl := lv_entry av (n := nL) hn
  have hname : meth.name = "<init>" := (name_of_methodNamed B.named B.method).1.trans hi
  rw [lg_entry_eq]
  refine body (p, e, _, s, m, av.toArray, below, meth, c, _, va_A w s.heap.size) ⟨B.exec, B.bytes, hml, hown, hts, hK, fun q h => Or.inr h, Nat.le_refl _, Nat.le_refl _⟩ ⟨Nat.le_refl _, Nat.le_refl _⟩ hname ?_ s.heap [] _ hP hD va_S.rf (by show lv_has _ c.maxLocals _; rw [hml]; exact hl)
  intro u lv pc hu hdg H locs ls hP1 hD1 hS1 hl1
  exact W.vret B.exec B.bytes B.returns (fun t ht hW => ⟨⟨u, hu, rfl, by rw [ht]; exact hP1, hD1⟩, hS1.F ht⟩) hS1.2.2 hdg B.notSynchronized
section
variable {l : Launch} {D : va_G} {tA : Nat → ClassId} {G : kCx} {cc : ByteArray} {nL : Nat} {own : String} {fr lo n k : Nat} {w : va_W} {lv : List (Nat × Value)} {pc : Nat} {st : List Value}
theorem j_endVz {mc ms : Nat} {S : Type} {Pr : S → Prop} {w' : S → va_W} {w0 : va_W} (E : kEz l D G cc mc ms Pr w') (hdg : decode cc pc = .ok (.return_, 1)) (u : S) (hu : Pr u) (hw : w' u = w0) : J l D G mc ms w0 lv pc [] := by
  subst hw; exact E u lv pc hu hdg
theorem j_wd (n' k' : Nat) (h1 : n ≤ n') (h2 : k ≤ k') (kk : J l D G n' k' w lv pc st) : J l D G n k w lv pc st := fun H locs ls hP hD hS hl => W.widen h1 h2 (kk H locs ls hP hD hS hl)
theorem j_obj (X : kX D tA G cc nL own fr lo) {idx a : Nat} (hlink : Cond.methodLink own idx Lib.objectInit ∈ kALL) (hroom : 1 ≤ fr ∧ 12 ≤ lo) (hdg : decode cc pc = .ok (.invokespecial idx, 3)) (kk : J l D G n k w lv (pc + 3) []) : J l D G n k w lv pc [.ref a] := by
  intro H locs ls hP hD hS hl
  have hts := X.2.2.2.2.1
  have hR := X.2.2.2.2.2.2.2
  refine W.objInit X.1 X.2.1 X.2.2.2.1 (hts _ hlink) (hts _ wk_obj) (hts _ wc_obj) rfl hl.1 rfl hdg (Nat.le_trans hroom.1 hR.1) (Nat.le_trans (show _ ≤ 12 from Nat.le_of_ble_eq_true rfl) (Nat.le_trans hroom.2 hR.2)) ?_
  exact W.eq (g2 := F0 (gm G) (pc + 3) ls []) rfl (kk H locs ls hP hD hS hl)
theorem j_new (X : kX D tA G cc nL own fr lo) {C : String} {T : u_T} {N ci index : Nat} {fs : List Value} (hin : ∀ w ∈ u_ws C T N, w ∈ kALL) (ty0 : Nat → FieldType) (hty : ∀ k, k < N → parseFieldDescriptor (T k).2.2.1 = some (ty0 k)) (hcl : Cond.classLink own index C ∈ kALL) (hinst : Cond.instantiable C N ∈ kALL) (hini : Cond.initialized C ∈ kALL) (hc : vwCl[ci]? = some (C, T, N)) (hfs : ∀ j, j < N → defaultValue (ty0 j) = vp_V fs j) (hroom : n + 1 ≤ (gR G).cells ∧ k + N ≤ (gR G).slots) (hdg : decode cc pc = .ok (.new index, 3))
    (kk : ∀ q, J l D G (n + 1) (k + N) (w ++ [(q, .inr (ci, fs))]) lv (pc + 3) (.ref q :: st)) : J l D G n k w lv pc st :=
  fun H locs ls hP hD hS hl => va_new (D := D) (cl := vwCl) (ws := w) (tys := kTY tA) X.1 X.2.1 X.2.2.2.2.1 hin ty0 hty X.2.2.2.1 (X.2.2.2.2.1 _ hcl) (X.2.2.2.2.1 _ hinst) (X.2.2.2.2.1 _ hini) X.2.2.2.2.2.1.1 hP hD hS X.2.2.2.2.2.2.1 hc hfs hroom.1 hroom.2 hdg (fun q H1 hP1 hD1 hS1 => kk q H1 locs ls hP1 hD1 hS1 hl)
theorem j_newi (X : kX D tA G cc nL own fr lo) {N : Nat} (hN : N < 65536) (hroom : n + 1 ≤ (gR G).cells ∧ k + N ≤ (gR G).slots) (hdg : decode cc pc = .ok (.newarray .int, 2))
    (kk : ∀ q, J l D G (n + 1) (k + N) (w ++ [(q, .inl (tA 0, N, .inl (nF (fun _ => 0))))]) lv (pc + 2) (.ref q :: st)) : J l D G n k w lv pc (.int (nI N) :: st) :=
  fun H locs ls hP hD hS hl => va_newa (D := D) (cl := vwCl) (ws := w) (tys := kTY tA) (atype := .int) (ty := .int) (a0 := (N, .inl (nF (fun _ => 0)))) X.1 X.2.1 (X.2.2.2.2.1 _ wa_int) rfl X.2.2.2.2.2.1.1 hP hD hS X.2.2.2.2.2.2.1 (fun _ => rfl) (nI_pos (by omega)) (nI_clamp (by omega)) (show N * 4 ≤ 536870912 by omega) hroom.1 hroom.2 hdg (fun q cA H1 hK1 hP1 hD1 hS1 => by
    have e : cA = tA 0 := Option.some.inj ((show (gs G).vm.findClass _ = some cA from (hK1.2 3 (cA, .int) rfl).2).symm.trans (hK1.2 0 (tA 0, .int) rfl).2)
    subst e
    exact kk q H1 locs ls hP1 hD1 hS1 hl)
theorem j_newc (X : kX D tA G cc nL own fr lo) {N : Nat} (hN : N < 65536) (hroom : n + 1 ≤ (gR G).cells ∧ k + N ≤ (gR G).slots) (hdg : decode cc pc = .ok (.newarray .char, 2))
    (kk : ∀ q, J l D G (n + 1) (k + N) (w ++ [(q, .inl (tA 1, N, .inl (nF (fun _ => 0))))]) lv (pc + 2) (.ref q :: st)) : J l D G n k w lv pc (.int (nI N) :: st) :=
  fun H locs ls hP hD hS hl => va_newa (D := D) (cl := vwCl) (ws := w) (tys := kTY tA) (atype := .char) (ty := .char) (a0 := (N, .inl (nF (fun _ => 0)))) X.1 X.2.1 (X.2.2.2.2.1 _ wa_char) rfl X.2.2.2.2.2.1.1 hP hD hS X.2.2.2.2.2.2.1 (fun _ => rfl) (nI_pos (by omega)) (nI_clamp (by omega)) (show N * 2 ≤ 536870912 by omega) hroom.1 hroom.2 hdg (fun q cA H1 hK1 hP1 hD1 hS1 => by
    have e : cA = tA 1 := Option.some.inj ((show (gs G).vm.findClass _ = some cA from (hK1.2 3 (cA, .char) rfl).2).symm.trans (hK1.2 1 (tA 1, .char) rfl).2)
    subst e
    exact kk q H1 locs ls hP1 hD1 hS1 hl)
theorem j_newq (X : kX D tA G cc nL own fr lo) {N index : Nat} (hcl : Cond.classLink own index "BallastClub$State" ∈ kALL) (hN : N < 65536) (hroom : n + 1 ≤ (gR G).cells ∧ k + N ≤ (gR G).slots) (hdg : decode cc pc = .ok (.anewarray index, 3))
    (kk : ∀ q, J l D G (n + 1) (k + N) (w ++ [(q, .inl (tA 2, N, .inr (.inr (.inr (.inr (fun _ => none))))))]) lv (pc + 3) (.ref q :: st)) : J l D G n k w lv pc (.int (nI N) :: st) :=
  fun H locs ls hP hD hS hl => va_newq (D := D) (cl := vwCl) (ws := w) (tys := kTY tA) X.1 X.2.1 X.2.2.2.1 (X.2.2.2.2.1 _ hcl) X.2.2.2.2.2.1.2.2.2 X.2.2.2.2.2.1.1 hP hD hS X.2.2.2.2.2.2.1 (nI_pos (by omega)) (nI_clamp (by omega)) (by omega) hroom.1 hroom.2 hdg (fun q cA H1 hK1 hP1 hD1 hS1 => by
    obtain ⟨_, _, _, _, _, h1⟩ := (hK1.2 3 (cA, .object "BallastClub$State") rfl).2
    obtain ⟨_, _, _, _, _, h2⟩ := (hK1.2 2 (tA 2, .object "BallastClub$State") rfl).2
    have e : cA = tA 2 := Option.some.inj (h1.symm.trans h2)
    subst e
    exact kk q H1 locs ls hP1 hD1 hS1 hl)
theorem j_putF (X : kX D tA G cc nL own fr lo) (hnm9 : (gh G).name = "<init>") {C : String} {T : u_T} {N ci index a : Nat} (hin : ∀ w ∈ u_ws C T N, w ∈ kALL) (ty0 : Nat → FieldType) (hty : ∀ k, k < N → parseFieldDescriptor (T k).2.2.1 = some (ty0 k)) (hnm : ∀ a, a < N → ∀ b, b < N → a ≠ b → (T a).2.1 ≠ (T b).2.1) (q0 : Nat) {fs : List Value} (he : w[q0]? = some (a, .inr (ci, fs))) (hc : vwCl[ci]? = some (C, T, N)) (k0 : Nat) (hk : k0 < N) (hlink : Cond.fieldLink own index (T k0).1 (T k0).2.1 (T k0).2.2.1 ∈ kALL) (hfin : (T k0).2.2.2 = true) (hdecl : (T k0).1 = own) {v : Value} (hn : narrow (ty0 k0) v = v) (hfit : fits (ty0 k0) v = true) (hl0 : k0 < fs.length) {w' : va_W} (hw : w.set q0 (a, .inr (ci, fs.set k0 v)) = w') (hdg : decode cc pc = .ok (.putfield index, 3)) (kk : J l D G n k w' lv (pc + 3) st) : J l D G n k w lv pc (v :: .ref a :: st) :=
  fun H locs ls hP hD hS hl => va_putF (D := D) (cl := vwCl) (ws := w) (tys := kTY tA) X.1 X.2.1 X.2.2.2.2.1 hin ty0 hty hnm X.2.2.2.1 X.2.2.2.2.2.1.1 hP hD hS q0 he hc k0 hk (X.2.2.2.2.1 _ hlink) (fun _ h => h) hfin hnm9 hdecl (hty k0 hk) hn hfit hl0 hdg (fun H1 locs1 hP1 hD1 hS1 => kk H1 locs1 ls (hw ▸ hP1) (hw ▸ hD1) hS1 hl)
end
section
variable {p : Program} {l : Launch} {e : Env} {R : Room} {s : State} {m : MethodId} {args : Array Value} {below : List Frame} {meth : Method} {c : Code} {H : Heap} {locs : List Loc} {cells slots : Nat} {Q : State → Prop}
theorem k_callz {pc mc ms : Nat} {ls : Array Slot} {rest st0 : List Value} {a : Array Value} {A0 A1 : Nat → Prop} {H0 : Heap} {free : Addr → Prop} {D : va_G} {S : Type} {Pr : S → Prop} {w1 : S → va_W} (hr : va_Run p l e R s m args below meth c H locs cells slots mc ms (F0 m pc ls st0) rest (kQz D Pr w1 A1 a) free) (hS : va_S A0 H0 H locs) (hA : ∀ q, q < H.size → A1 q → A0 q) (hf : ∀ q, free q → A0 q)
    (kk : ∀ (u : S) (H1 : Heap) (locs1 : List Loc), Pr u → va_P D vwCl (w1 u) H1 → va_D A1 (w1 u) → (∀ q : Nat, q < H.size → ¬ A1 q → H1[q]? = H[q]?) → va_S A0 H0 H1 locs1 → W p l e R s m args below meth c H1 locs1 (cells + mc) (slots + ms) Q (F0 m (pc + 3) ls rest)) : W p l e R s m args below meth c H locs cells slots Q (F0 m pc ls st0) := by
  intro T hT X
  obtain ⟨v, st₀, t, T', L, h0, X', hL, e1, e2, ⟨⟨u, hu, hv, hb, hd⟩, hz, hk⟩, st⟩ := hr T hT X
  cases hv
  rw [h0] at hz hk
  obtain ⟨t2, a1, b1⟩ := kk u T'.heap (locs ++ L) hu (by rw [e1]; exact hb) hd (fun q h1 h2 => by rw [e1]; exact hk q h1 h2)
    ⟨Nat.le_trans hS.1 (by rw [e1]; exact hz), fun q h1 h2 => by rw [e1, hk q (Nat.lt_of_lt_of_le h1 hS.1) (fun z => h2 (hA q (Nat.lt_of_lt_of_le h1 hS.1) z))]; exact hS.2.1 q h1 h2, fun q hq => by
      rcases List.mem_append.mp hq with h | h
      · exact hS.2.2 q h
      · exact hf _ (hL q h)⟩ T' rfl X'
  exact ⟨t2, st t2 a1, b1⟩
end
theorem nd_range : ∀ (n s : Nat), va_nd (List.range' s n) = true
  | 0, _ => rfl
  | n + 1, s => by
    show va_nd (s :: List.range' (s + 1) n) = true
    simp only [va_nd, Bool.and_eq_true, decide_eq_true_eq]
    refine ⟨fun h => ?_, nd_range n (s + 1)⟩
    have := (List.mem_range'_1.mp h).1
    omega
theorem range_get {w0 : va_W} {x : Nat × va_E} : (List.range' 0 w0.length).map (fun i => (w0 ++ [x])[i]?) = w0.map some := by
  refine List.ext_getElem (by rw [List.length_map, List.length_map, List.length_range']) (fun i h1 h2 => ?_)
  have hi : i < w0.length := by rw [List.length_map] at h2; exact h2
  rw [List.getElem_map, List.getElem_map, List.getElem_range', Nat.zero_add, Nat.one_mul, List.getElem?_append_left hi, List.getElem?_eq_getElem hi]
theorem last_get {w0 : va_W} {x : Nat × va_E} : [w0.length].map (fun i => (w0 ++ [x])[i]?) = [x].map some := by
  show [(w0 ++ [x])[w0.length]?] = [some x]
  rw [List.getElem?_append_right (Nat.le_refl _), Nat.sub_self]; rfl
theorem j_callI {l : Launch} {D : va_G} {tA : Nat → ClassId} {G : kCx} {cc : ByteArray} {nL : Nat} {own : String} {fr lo n k : Nat} {lv : List (Nat × Value)} {pc : Nat} {st : List Value} (X : kX D tA G cc nL own fr lo) {y : MethodName} {bytes : ByteArray} {maxL frc loc mc ms index b ci : Nat} {fs As : List Value} {S : Type} {Pr : S → Prop} {wf : S → va_W} {w0 : va_W} {stk : List Value}
    (hM : Kz l D tA y bytes maxL frc loc mc ms (.ref b :: As) [(b, .inr (ci, fs))] Pr wf) (hcode : Cond.code y bytes maxL none ∈ kALL) (hini : Cond.initialized y.cls ∈ kALL) (hinst : Cond.instanceMethod y ∈ kALL) (hlink : Cond.methodLink own index y ∈ kALL) (hi : y.name = "<init>")
    (hd : y.cls ≠ "java/lang/invoke/MethodHandle" ∧ y.cls ≠ "java/lang/invoke/VarHandle" ∧ (parseMethodDescriptor y.desc).map (fun d => d.parameters.length) = some As.length)
    (hroom : frc + 1 ≤ fr ∧ 8 + (maxL + 11) + loc ≤ lo) (h0 : n + mc ≤ (gR G).cells ∧ k + ms ≤ (gR G).slots) (hstk : stk = As.reverse ++ .ref b :: st) (hcat : (st.map fun v => v.category).sum ≤ 8) (hdg : decode cc pc = .ok (.invokespecial index, 3))
    (kk : ∀ u, Pr u → J l D G (n + mc) (k + ms) (w0 ++ wf u) lv (pc + 3) st) : J l D G n k (w0 ++ [(b, .inr (ci, fs))]) lv pc stk := by
  subst hstk
  intro H locs ls hP hD hS hl
  obtain ⟨hx, hb, hml, hown, hts, hK, hA, hR⟩ := X
  have hpre := kPre (av := .ref b :: As) hK hP hD [w0.length] last_get rfl
  refine k_callz (va_runI (As := As) (rest := st) (nL := (gc G).maxLocals) (own := own) (Ts := kALL) (bytes := bytes) (maxL := maxL) ⟨hx, hb, rfl, hown, hts⟩ (hM H.size) (cwI As.length hts (kGood hcode) rfl rfl rfl (hts _ hini) (hts _ hlink) (hts _ hinst) hi hd ⟨Nat.le_trans hroom.1 hR.1, Nat.le_trans hroom.2 hR.2⟩) hpre rfl rfl hl.1 rfl (lv_room hcat) hdg h0) hS (fun q _ h => kFree hD hS hA [w0.length] last_get q h) (kFree hD hS hA [w0.length] last_get) (fun u H1 locs1 hu hP1 hD1 hk1 hS1 => ?_)
  have hj := va_join (wr := w0) hP hD [w0.length] (List.range' 0 w0.length) last_get range_get (nd_range _ _) (fun i hi hc => by
    have h1 := (List.mem_range'_1.mp hi).2
    have h2 := List.mem_singleton.mp hc
    omega) hk1 (kFree hD hS hA [w0.length] last_get) hP1 hD1
  exact kk u hu H1 locs1 ls hj.1 hj.2 hS1 hl
end
section
abbrev z0 : Tb := (0, fun _ => 0)
set_option maxHeartbeats 4000000 in
set_option maxRecDepth 100000 in
theorem cz_X2_init (l : Launch) (D : va_G) (tA : Nat → ClassId) (h most cols : Nat) (hm : most < 65536) (hc : cols < 65536) (hmc : most * cols < 65536) : Kz l D tA yX2_init cX2_init 3 1 14 1 (most * cols) [.ref h, .int (nI most), .int (nI cols)] [(h, .inr (2, [.null, .int 0, .int 0, .int 0]))] (fun _ : Nat => True) (fun q => tbW tA h q most cols z0) := by
  refine kz_void rfl rfl (Nat.le_of_ble_eq_true rfl) (fun G X hR hN E => ?_)
  show J l D G 0 0 [(h, .inr (2, [.null, .int 0, .int 0, .int 0]))] [(0, .ref h), (1, .int (nI most)), (2, .int (nI cols))] 0 []
  refine j_aload_n (pc := 0) X dX2_init_0 rfl (q := 0) rfl ?_
  refine j_obj (pc := 1) X wm_X2_3 ⟨Nat.le_of_ble_eq_true rfl, Nat.le_of_ble_eq_true rfl⟩ dX2_init_1 ?_
  refine j_aload_n (pc := 4) X dX2_init_4 rfl (q := 0) rfl ?_
  refine j_iload_n (pc := 5) X dX2_init_5 rfl (q := 1) rfl ?_
  refine j_putF (pc := 6) X hN (C := RX2) (T := TX2) (N := 4) wz_X2 tyX2 tyX2_ok nmX2 0 rfl rfl 1 (by decide) wf_X2_9 rfl rfl rfl rfl (Nat.le_of_ble_eq_true rfl) (w' := [(h, .inr (2, [.null, .int (nI most), .int 0, .int 0]))]) rfl dX2_init_6 ?_
  refine j_aload_n (pc := 9) X dX2_init_9 rfl (q := 0) rfl ?_
  refine j_iload_n (pc := 10) X dX2_init_10 rfl (q := 2) rfl ?_
  refine j_putF (pc := 11) X hN (C := RX2) (T := TX2) (N := 4) wz_X2 tyX2 tyX2_ok nmX2 0 rfl rfl 2 (by decide) wf_X2_15 rfl rfl rfl rfl (Nat.le_of_ble_eq_true rfl) (w' := [(h, .inr (2, [.null, .int (nI most), .int (nI cols), .int 0]))]) rfl dX2_init_11 ?_
  refine j_aload_n (pc := 14) X dX2_init_14 rfl (q := 0) rfl ?_
  refine j_iload_n (pc := 15) X dX2_init_15 rfl (q := 1) rfl ?_
  refine j_iload_n (pc := 16) X dX2_init_16 rfl (q := 2) rfl ?_
  refine j_imul (pc := 17) X (v := nI (most * cols)) dX2_init_17 (pk_mul _ _) ?_
  refine j_iconst (pc := 18) X (v := nI 0) dX2_init_18 (by decide) ?_
  refine j_mmax (pc := 19) X wm_X2_18 (Nat.le_of_ble_eq_true rfl) (Nat.le_of_ble_eq_true rfl) ⟨Nat.zero_le _, Nat.zero_le _⟩ (v := nI (most * cols)) (by rw [nI_max (by omega) (by decide), Nat.max_eq_left (Nat.zero_le _)]) dX2_init_19 ?_
  refine j_newi (pc := 22) X hmc ⟨hR.1, by rw [Nat.zero_add]; exact hR.2⟩ dX2_init_22 (fun q => ?_)
  refine j_putF (pc := 24) X hN (C := RX2) (T := TX2) (N := 4) wz_X2 tyX2 tyX2_ok nmX2 0 rfl rfl 0 (by decide) wf_X2_24 rfl rfl rfl rfl (Nat.le_of_ble_eq_true rfl) (w' := tbW tA h q most cols z0) rfl dX2_init_24 ?_
  refine j_wd 1 (most * cols) (Nat.le_refl _) (by rw [Nat.zero_add]; exact Nat.le_refl _) ?_
  exact j_endVz (pc := 27) E dX2_init_27 q trivial rfl
theorem df_X2 : ∀ j, j < 4 → defaultValue (tyX2 j) = vp_V [.null, .int 0, .int 0, .int 0] j := fun j hj => by
  rcases (show j = 0 ∨ j = 1 ∨ j = 2 ∨ j = 3 by omega) with rfl | rfl | rfl | rfl <;> rfl
def ad4 (a b c d : Nat) : Nat → Nat
  | 0 => a
  | 1 => b
  | 2 => c
  | _ => d
set_option maxHeartbeats 4000000 in
set_option maxRecDepth 100000 in
theorem cz_X3_init (l : Launch) (D : va_G) (tA : Nat → ClassId) (a : Nat) : Kz l D tA yX3_init cX3_init 1 2 36 3 94 [.ref a] [(a, .inr (3, [.null, .int 0, .int 0, .null]))] (fun _ : Nat × Nat × Nat => True) (fun q => txW tA (ad4 a q.1 q.2.1 q.2.2) (fun _ => 0) 0 0 z0) := by
  refine kz_void rfl rfl (Nat.le_of_ble_eq_true rfl) (fun G X hR hN E => ?_)
  show J l D G 0 0 [(a, .inr (3, [.null, .int 0, .int 0, .null]))] [(0, .ref a)] 0 []
  refine j_aload_n (pc := 0) X dX3_init_0 rfl (q := 0) rfl ?_
  refine j_obj (pc := 1) X wm_X3_3 ⟨Nat.le_of_ble_eq_true rfl, Nat.le_of_ble_eq_true rfl⟩ dX3_init_1 ?_
  refine j_aload_n (pc := 4) X dX3_init_4 rfl (q := 0) rfl ?_
  refine j_bipush (pc := 5) X (v := nI 60) dX3_init_5 (by decide +kernel) ?_
  refine j_newc (pc := 7) X (by decide) ⟨by omega, by omega⟩ dX3_init_7 (fun q1 => ?_)
  refine j_putF (pc := 9) X hN (C := RX3) (T := TX3) (N := 4) wz_X3 tyX3 tyX3_ok nmX3 0 rfl rfl 0 (by decide) wf_X3_9 rfl rfl rfl rfl (Nat.le_of_ble_eq_true rfl) (w' := [(a, .inr (3, [.ref q1, .int 0, .int 0, .null])), (q1, .inl (tA 1, 60, .inl (nF (fun _ => 0))))]) rfl dX3_init_9 ?_
  refine j_aload_n (pc := 12) X dX3_init_12 rfl (q := 0) rfl ?_
  refine j_new (pc := 13) X (C := RX2) (T := TX2) (N := 4) (ci := 2) (fs := [.null, .int 0, .int 0, .int 0]) wz_X2 tyX2 tyX2_ok wl_X3_15 wn_X2 wi_X2 rfl df_X2 ⟨by omega, by omega⟩ dX3_init_13 (fun h2 => ?_)
  refine j_dup (pc := 16) X dX3_init_16 rfl ?_
  refine j_bipush (pc := 17) X (v := nI 15) dX3_init_17 (by decide +kernel) ?_
  refine j_iconst (pc := 19) X (v := nI 2) dX3_init_19 (by decide +kernel) ?_
  refine j_callI (pc := 20) X (As := [.int (nI 15), .int (nI 2)]) (st := [.ref h2, .ref a]) (cz_X2_init l D tA h2 15 2 (by decide) (by decide) (by decide)) wc_X2_init wi_X2 wk_X2_init wm_X3_17 rfl (by decide +kernel) ⟨Nat.le_of_ble_eq_true rfl, Nat.le_of_ble_eq_true rfl⟩ ⟨by omega, by omega⟩ rfl (Nat.le_of_ble_eq_true rfl) dX3_init_20 (fun q3 _ => ?_)
  refine j_putF (pc := 23) X hN (C := RX3) (T := TX3) (N := 4) wz_X3 tyX3 tyX3_ok nmX3 0 rfl rfl 3 (by decide) wf_X3_20 rfl rfl rfl rfl (Nat.le_of_ble_eq_true rfl) (w' := txW tA (ad4 a q1 h2 q3) (fun _ => 0) 0 0 z0) rfl dX3_init_23 ?_
  exact j_endVz (pc := 26) E dX3_init_26 (q1, h2, q3) trivial rfl
theorem j_perm {l : Launch} {D : va_G} {G : kCx} {n k : Nat} {w w' : va_W} {lv : List (Nat × Value)} {pc : Nat} {st : List Value} (is : List Nat) (hn : va_nd is = true) (hs : is.map (fun i => w[i]?) = w'.map some) (kk : J l D G n k w' lv pc st) : J l D G n k w lv pc st := fun H locs ls hP hD hS hl => kk H locs ls (kSub hP hs) (hD.sub is hn hs) hS hl
def ad10 (a0 a1 a2 a3 a4 a5 a6 a7 a8 a9 : Nat) : Nat → Nat
  | 0 => a0
  | 1 => a1
  | 2 => a2
  | 3 => a3
  | 4 => a4
  | 5 => a5
  | 6 => a6
  | 7 => a7
  | 8 => a8
  | _ => a9
abbrev s0 : Sg := (z0, z0, z0, z0, fun _ => 0, 0, 0, 0, 0)
theorem df_X1 : ∀ j, j < 9 → defaultValue (tyX1 j) = vp_V [.null, .null, .null, .null, .null, .int 0, .int 0, .int 0, .int 0] j := fun j hj => by
  rcases (show j = 0 ∨ j = 1 ∨ j = 2 ∨ j = 3 ∨ j = 4 ∨ j = 5 ∨ j = 6 ∨ j = 7 ∨ j = 8 by omega) with rfl | rfl | rfl | rfl | rfl | rfl | rfl | rfl | rfl <;> rfl
set_option maxHeartbeats 4000000 in
set_option maxRecDepth 100000 in
theorem cz_X1_init (l : Launch) (D : va_G) (tA : Nat → ClassId) (a : Nat) : Kz l D tA yX1_init cX1_init 1 2 36 9 537 [.ref a] [(a, .inr (1, [.null, .null, .null, .null, .null, .int 0, .int 0, .int 0, .int 0]))] (fun b : Nat → Nat => b 0 = a) (fun b => stW tA b s0) := by
  refine kz_void rfl rfl (Nat.le_of_ble_eq_true rfl) (fun G X hR hN E => ?_)
  show J l D G 0 0 [(a, .inr (1, [.null, .null, .null, .null, .null, .int 0, .int 0, .int 0, .int 0]))] [(0, .ref a)] 0 []
  refine j_aload_n (pc := 0) X dX1_init_0 rfl (q := 0) rfl ?_
  refine j_obj (pc := 1) X wm_X1_3 ⟨Nat.le_of_ble_eq_true rfl, Nat.le_of_ble_eq_true rfl⟩ dX1_init_1 ?_
  refine j_aload_n (pc := 4) X dX1_init_4 rfl (q := 0) rfl ?_
  refine j_new (pc := 5) X (C := RX2) (T := TX2) (N := 4) (ci := 2) (fs := [.null, .int 0, .int 0, .int 0]) wz_X2 tyX2 tyX2_ok wl_X1_9 wn_X2 wi_X2 rfl df_X2 ⟨by omega, by omega⟩ dX1_init_5 (fun h1 => ?_)
  refine j_dup (pc := 8) X dX1_init_8 rfl ?_
  refine j_iconst (pc := 9) X (v := nI 5) dX1_init_9 (by decide +kernel) ?_
  refine j_iconst (pc := 10) X (v := nI 3) dX1_init_10 (by decide +kernel) ?_
  refine j_callI (pc := 11) X (As := [.int (nI 5), .int (nI 3)]) (st := [.ref h1, .ref a]) (cz_X2_init l D tA h1 5 3 (by decide) (by decide) (by decide)) wc_X2_init wi_X2 wk_X2_init wm_X1_11 rfl (by decide +kernel) ⟨Nat.le_of_ble_eq_true rfl, Nat.le_of_ble_eq_true rfl⟩ ⟨by omega, by omega⟩ rfl (Nat.le_of_ble_eq_true rfl) dX1_init_11 (fun q6 _ => ?_)
  refine j_putF (pc := 14) X hN (C := RX1) (T := TX1) (N := 9) wz_X1 tyX1 tyX1_ok nmX1 0 rfl rfl 0 (by decide) wf_X1_14 rfl rfl rfl rfl (Nat.le_of_ble_eq_true rfl) (w' := [(a, .inr (1, [.ref h1, .null, .null, .null, .null, .int 0, .int 0, .int 0, .int 0])), (h1, .inr (2, [.ref q6, .int (nI 5), .int (nI 3), .int (nI 0)])), (q6, .inl (tA 0, 5 * 3, .inl (nF (fun _ => 0))))]) rfl dX1_init_14 ?_
  refine j_aload_n (pc := 17) X dX1_init_17 rfl (q := 0) rfl ?_
  refine j_new (pc := 18) X (C := RX2) (T := TX2) (N := 4) (ci := 2) (fs := [.null, .int 0, .int 0, .int 0]) wz_X2 tyX2 tyX2_ok wl_X1_9 wn_X2 wi_X2 rfl df_X2 ⟨by omega, by omega⟩ dX1_init_18 (fun h2 => ?_)
  refine j_dup (pc := 21) X dX1_init_21 rfl ?_
  refine j_bipush (pc := 22) X (v := nI 8) dX1_init_22 (by decide +kernel) ?_
  refine j_iconst (pc := 24) X (v := nI 2) dX1_init_24 (by decide +kernel) ?_
  refine j_callI (pc := 25) X (As := [.int (nI 8), .int (nI 2)]) (st := [.ref h2, .ref a]) (cz_X2_init l D tA h2 8 2 (by decide) (by decide) (by decide)) wc_X2_init wi_X2 wk_X2_init wm_X1_11 rfl (by decide +kernel) ⟨Nat.le_of_ble_eq_true rfl, Nat.le_of_ble_eq_true rfl⟩ ⟨by omega, by omega⟩ rfl (Nat.le_of_ble_eq_true rfl) dX1_init_25 (fun q7 _ => ?_)
  refine j_putF (pc := 28) X hN (C := RX1) (T := TX1) (N := 9) wz_X1 tyX1 tyX1_ok nmX1 0 rfl rfl 1 (by decide) wf_X1_20 rfl rfl rfl rfl (Nat.le_of_ble_eq_true rfl) (w' := [(a, .inr (1, [.ref h1, .ref h2, .null, .null, .null, .int 0, .int 0, .int 0, .int 0])), (h1, .inr (2, [.ref q6, .int (nI 5), .int (nI 3), .int (nI 0)])), (q6, .inl (tA 0, 5 * 3, .inl (nF (fun _ => 0)))), (h2, .inr (2, [.ref q7, .int (nI 8), .int (nI 2), .int (nI 0)])), (q7, .inl (tA 0, 8 * 2, .inl (nF (fun _ => 0))))]) rfl dX1_init_28 ?_
  refine j_aload_n (pc := 31) X dX1_init_31 rfl (q := 0) rfl ?_
  refine j_new (pc := 32) X (C := RX2) (T := TX2) (N := 4) (ci := 2) (fs := [.null, .int 0, .int 0, .int 0]) wz_X2 tyX2 tyX2_ok wl_X1_9 wn_X2 wi_X2 rfl df_X2 ⟨by omega, by omega⟩ dX1_init_32 (fun h3 => ?_)
  refine j_dup (pc := 35) X dX1_init_35 rfl ?_
  refine j_bipush (pc := 36) X (v := nI 30) dX1_init_36 (by decide +kernel) ?_
  refine j_bipush (pc := 38) X (v := nI 8) dX1_init_38 (by decide +kernel) ?_
  refine j_callI (pc := 40) X (As := [.int (nI 30), .int (nI 8)]) (st := [.ref h3, .ref a]) (cz_X2_init l D tA h3 30 8 (by decide) (by decide) (by decide)) wc_X2_init wi_X2 wk_X2_init wm_X1_11 rfl (by decide +kernel) ⟨Nat.le_of_ble_eq_true rfl, Nat.le_of_ble_eq_true rfl⟩ ⟨by omega, by omega⟩ rfl (Nat.le_of_ble_eq_true rfl) dX1_init_40 (fun q8 _ => ?_)
  refine j_putF (pc := 43) X hN (C := RX1) (T := TX1) (N := 9) wz_X1 tyX1 tyX1_ok nmX1 0 rfl rfl 2 (by decide) wf_X1_23 rfl rfl rfl rfl (Nat.le_of_ble_eq_true rfl) (w' := [(a, .inr (1, [.ref h1, .ref h2, .ref h3, .null, .null, .int 0, .int 0, .int 0, .int 0])), (h1, .inr (2, [.ref q6, .int (nI 5), .int (nI 3), .int (nI 0)])), (q6, .inl (tA 0, 5 * 3, .inl (nF (fun _ => 0)))), (h2, .inr (2, [.ref q7, .int (nI 8), .int (nI 2), .int (nI 0)])), (q7, .inl (tA 0, 8 * 2, .inl (nF (fun _ => 0)))), (h3, .inr (2, [.ref q8, .int (nI 30), .int (nI 8), .int (nI 0)])), (q8, .inl (tA 0, 30 * 8, .inl (nF (fun _ => 0))))]) rfl dX1_init_43 ?_
  refine j_aload_n (pc := 46) X dX1_init_46 rfl (q := 0) rfl ?_
  refine j_new (pc := 47) X (C := RX2) (T := TX2) (N := 4) (ci := 2) (fs := [.null, .int 0, .int 0, .int 0]) wz_X2 tyX2 tyX2_ok wl_X1_9 wn_X2 wi_X2 rfl df_X2 ⟨by omega, by omega⟩ dX1_init_47 (fun h4 => ?_)
  refine j_dup (pc := 50) X dX1_init_50 rfl ?_
  refine j_bipush (pc := 51) X (v := nI 10) dX1_init_51 (by decide +kernel) ?_
  refine j_iconst (pc := 53) X (v := nI 5) dX1_init_53 (by decide +kernel) ?_
  refine j_callI (pc := 54) X (As := [.int (nI 10), .int (nI 5)]) (st := [.ref h4, .ref a]) (cz_X2_init l D tA h4 10 5 (by decide) (by decide) (by decide)) wc_X2_init wi_X2 wk_X2_init wm_X1_11 rfl (by decide +kernel) ⟨Nat.le_of_ble_eq_true rfl, Nat.le_of_ble_eq_true rfl⟩ ⟨by omega, by omega⟩ rfl (Nat.le_of_ble_eq_true rfl) dX1_init_54 (fun q9 _ => ?_)
  refine j_putF (pc := 57) X hN (C := RX1) (T := TX1) (N := 9) wz_X1 tyX1 tyX1_ok nmX1 0 rfl rfl 3 (by decide) wf_X1_26 rfl rfl rfl rfl (Nat.le_of_ble_eq_true rfl) (w' := [(a, .inr (1, [.ref h1, .ref h2, .ref h3, .ref h4, .null, .int 0, .int 0, .int 0, .int 0])), (h1, .inr (2, [.ref q6, .int (nI 5), .int (nI 3), .int (nI 0)])), (q6, .inl (tA 0, 5 * 3, .inl (nF (fun _ => 0)))), (h2, .inr (2, [.ref q7, .int (nI 8), .int (nI 2), .int (nI 0)])), (q7, .inl (tA 0, 8 * 2, .inl (nF (fun _ => 0)))), (h3, .inr (2, [.ref q8, .int (nI 30), .int (nI 8), .int (nI 0)])), (q8, .inl (tA 0, 30 * 8, .inl (nF (fun _ => 0)))), (h4, .inr (2, [.ref q9, .int (nI 10), .int (nI 5), .int (nI 0)])), (q9, .inl (tA 0, 10 * 5, .inl (nF (fun _ => 0))))]) rfl dX1_init_57 ?_
  refine j_aload_n (pc := 60) X dX1_init_60 rfl (q := 0) rfl ?_
  refine j_sipush (pc := 61) X (v := nI 200) dX1_init_61 (by decide +kernel) ?_
  refine j_newi (pc := 64) X (by decide) ⟨by omega, by omega⟩ dX1_init_64 (fun q5 => ?_)
  refine j_putF (pc := 66) X hN (C := RX1) (T := TX1) (N := 9) wz_X1 tyX1 tyX1_ok nmX1 0 rfl rfl 4 (by decide) wf_X1_29 rfl rfl rfl rfl (Nat.le_of_ble_eq_true rfl) (w' := [(a, .inr (1, [.ref h1, .ref h2, .ref h3, .ref h4, .ref q5, .int 0, .int 0, .int 0, .int 0])), (h1, .inr (2, [.ref q6, .int (nI 5), .int (nI 3), .int (nI 0)])), (q6, .inl (tA 0, 5 * 3, .inl (nF (fun _ => 0)))), (h2, .inr (2, [.ref q7, .int (nI 8), .int (nI 2), .int (nI 0)])), (q7, .inl (tA 0, 8 * 2, .inl (nF (fun _ => 0)))), (h3, .inr (2, [.ref q8, .int (nI 30), .int (nI 8), .int (nI 0)])), (q8, .inl (tA 0, 30 * 8, .inl (nF (fun _ => 0)))), (h4, .inr (2, [.ref q9, .int (nI 10), .int (nI 5), .int (nI 0)])), (q9, .inl (tA 0, 10 * 5, .inl (nF (fun _ => 0)))), (q5, .inl (tA 0, 200, .inl (nF (fun _ => 0))))]) rfl dX1_init_66 ?_
  refine j_perm [0, 9, 1, 2, 3, 4, 5, 6, 7, 8] rfl (w' := stW tA (ad10 a h1 h2 h3 h4 q5 q6 q7 q8 q9) s0) rfl ?_
  exact j_endVz (pc := 69) E dX1_init_69 (ad10 a h1 h2 h3 h4 q5 q6 q7 q8 q9) rfl rfl
section
variable {l : Launch} {D : va_G} {tA : Nat → ClassId} {G : kCx} {cc : ByteArray} {nL : Nat} {own : String} {fr lo n k : Nat} {w : va_W} {lv : List (Nat × Value)} {pc : Nat} {st : List Value}
theorem j_aast (X : kX D tA G cc nL own fr lo) (q0 qk ci : Nat) {a N i v : Nat} {vs : List Value} {f : Nat → Option Nat} {r : vw_C} (he : w[q0]? = some (a, .inl (tA 2, N, .inr (.inr (.inr (.inr f)))))) (hv : w[qk]? = some (v, .inr (ci, vs))) (hc : vwCl[ci]? = some r) (hr : r.1 = "BallastClub$State") (hi : i < N) (hN : N < 65536) {w' : va_W} (hw : w.set q0 (a, .inl (tA 2, N, .inr (.inr (.inr (.inr (va_up f i (some v))))))) = w') (hdg : decode cc pc = .ok (.aastore, 1)) (kk : J l D G n k w' lv (pc + 1) st) : J l D G n k w lv pc (.ref v :: .int (nI i) :: .ref a :: st) :=
  fun H locs ls hP hD hS hl => va_astq (D := D) (cl := vwCl) (ws := w) (tys := kTY tA) X.1 X.2.1 X.2.2.2.2.2.1.1 hP hD hS q0 2 qk ci he (by rw [hr]; rfl) hv hc (vp_in_nI hi (by omega)) hdg (fun H1 locs1 hP1 hD1 hS1 => by
    rw [nI_clamp (by omega), hw] at hP1 hD1
    exact kk H1 locs1 ls hP1 hD1 hS1 hl)
theorem arq_eq {cA : ClassId} {N : Nat} {f f' : Nat → Option Nat} (h : ∀ j, j < N → f j = f' j) : vp_cell cA (N, .inr (.inr (.inr (.inr f)))) = vp_cell cA (N, .inr (.inr (.inr (.inr f')))) := by
  have e : (fun j : Fin N => va_rf (f j.val)) = (fun j : Fin N => va_rf (f' j.val)) := funext (fun j => by rw [h j.val j.isLt])
  exact congrArg (fun g : Fin N → Value => ({ cls := cA, slots := Array.ofFn g, vm := .none } : Cell)) e
theorem j_arq (q0 : Nat) {a N : Nat} {f f' : Nat → Option Nat} (he : w[q0]? = some (a, .inl (tA 2, N, .inr (.inr (.inr (.inr f)))))) (hf : ∀ j, j < N → f j = f' j) {w' : va_W} (hw : w.set q0 (a, .inl (tA 2, N, .inr (.inr (.inr (.inr f'))))) = w') (kk : J l D G n k w' lv pc st) : J l D G n k w lv pc st := by
  subst hw
  intro H locs ls hP hD hS hl
  have hlen := (List.getElem?_eq_some_iff.mp he).1
  refine kk H locs ls (fun j q hj => ?_) (hD.set he) hS hl
  by_cases z : j = q0
  · subst z
    rw [List.getElem?_set_self hlen] at hj
    cases hj
    have h := hP j _ he
    simp only [va_at] at h ⊢
    rw [← arq_eq hf]
    exact h
  · rw [List.getElem?_set_ne (fun h => z h.symm)] at hj
    exact hP j q hj
end
def ad2 (a b : Nat) : Nat → Nat
  | 0 => a
  | _ => b
def dd4 (b0 b1 b2 b3 : Nat → Nat) : Nat → Nat → Nat
  | 0 => b0
  | 1 => b1
  | 2 => b2
  | _ => b3
set_option maxHeartbeats 4000000 in
set_option maxRecDepth 100000 in
theorem cz_X0_init (l : Launch) (D : va_G) (tA : Nat → ClassId) (a : Nat) : Kz l D tA yX0_init cX0_init 2 3 56 41 2188 [.ref a] [(a, .inr (0, [.null, .int 0, .int 0]))] (fun u : (Nat → Nat) × (Nat → Nat → Nat) => u.1 0 = a) (fun u => hsW tA u.1 u.2 (fun _ => s0, 0, 0)) := by
  refine kz_void rfl rfl (Nat.le_of_ble_eq_true rfl) (fun G X hR hN E => ?_)
  show J l D G 0 0 [(a, .inr (0, [.null, .int 0, .int 0]))] [(0, .ref a)] 0 []
  refine j_aload_n (pc := 0) X dX0_init_0 rfl (q := 0) rfl ?_
  refine j_obj (pc := 1) X wm_X0_3 ⟨Nat.le_of_ble_eq_true rfl, Nat.le_of_ble_eq_true rfl⟩ dX0_init_1 ?_
  refine j_aload_n (pc := 4) X dX0_init_4 rfl (q := 0) rfl ?_
  refine j_iconst (pc := 5) X (v := nI 4) dX0_init_5 (by decide +kernel) ?_
  refine j_newq (pc := 6) X wl_X0_9 (by decide) ⟨by omega, by omega⟩ dX0_init_6 (fun q1 => ?_)
  refine j_putF (pc := 9) X hN (C := RX0) (T := TX0) (N := 3) wz_X0 tyX0 tyX0_ok nmX0 0 rfl rfl 0 (by decide) wf_X0_11 rfl rfl rfl rfl (Nat.le_of_ble_eq_true rfl) (w' := [(a, .inr (0, [.ref q1, .int 0, .int 0])), (q1, .inl (tA 2, 4, .inr (.inr (.inr (.inr (fun _ => none))))))]) rfl dX0_init_9 ?_
  refine j_iconst (pc := 12) X (v := nI 0) dX0_init_12 (by decide +kernel) ?_
  refine j_istore_n (pc := 13) X (lv' := [(1, .int (nI 0)), (0, .ref a)]) dX0_init_13 rfl (by decide) rfl ?_
  refine j_iload_n (pc := 14) X dX0_init_14 rfl (q := 0) rfl ?_
  refine j_iconst (pc := 15) X (v := nI 4) dX0_init_15 (by decide +kernel) ?_
  refine j_icmp_ge_f (pc := 16) X (tgt := 38) dX0_init_16 (by decide) (by decide +kernel) ?_
  refine j_aload_n (pc := 19) X dX0_init_19 rfl (q := 1) rfl ?_
  refine j_get (pc := 20) X (C := RX0) (T := TX0) (N := 3) wz_X0 0 rfl rfl 0 (by decide) wf_X0_11 rfl dX0_init_20 ?_
  refine j_iload_n (pc := 23) X dX0_init_23 rfl (q := 0) rfl ?_
  refine j_new (pc := 24) X (C := RX1) (T := TX1) (N := 9) (ci := 1) (fs := [.null, .null, .null, .null, .null, .int 0, .int 0, .int 0, .int 0]) wz_X1 tyX1 tyX1_ok wl_X0_9 wn_X1 wi_X1 rfl df_X1 ⟨by omega, by omega⟩ dX0_init_24 (fun x0 => ?_)
  refine j_dup (pc := 27) X dX0_init_27 rfl ?_
  refine j_callI (pc := 28) X (As := []) (st := [.ref x0, .int (nI 0), .ref q1]) (cz_X1_init l D tA x0) wc_X1_init wi_X1 wk_X1_init wm_X0_17 rfl (by decide +kernel) ⟨Nat.le_of_ble_eq_true rfl, Nat.le_of_ble_eq_true rfl⟩ ⟨by omega, by omega⟩ rfl (Nat.le_of_ble_eq_true rfl) dX0_init_28 (fun b0 e0 => ?_)
  subst e0
  refine j_aast (pc := 31) X 1 2 1 rfl rfl rfl rfl (by decide) (by decide) (w' := ([(a, .inr (0, [.ref q1, .int 0, .int 0])), (q1, .inl (tA 2, 4, .inr (.inr (.inr (.inr (va_up (fun _ => none) 0 (some (b0 0))))))))] ++ stW tA b0 s0)) rfl dX0_init_31 ?_
  refine j_iinc (pc := 32) X (v := nI 1) (lv' := [(1, .int (nI 1)), (0, .ref a)]) dX0_init_32 (q := 0) rfl (by decide +kernel) (by decide) rfl ?_
  refine j_goto (pc := 35) X (tgt := 14) dX0_init_35 (by decide) ?_
  refine j_iload_n (pc := 14) X dX0_init_14 rfl (q := 0) rfl ?_
  refine j_iconst (pc := 15) X (v := nI 4) dX0_init_15 (by decide +kernel) ?_
  refine j_icmp_ge_f (pc := 16) X (tgt := 38) dX0_init_16 (by decide) (by decide +kernel) ?_
  refine j_aload_n (pc := 19) X dX0_init_19 rfl (q := 1) rfl ?_
  refine j_get (pc := 20) X (C := RX0) (T := TX0) (N := 3) wz_X0 0 rfl rfl 0 (by decide) wf_X0_11 rfl dX0_init_20 ?_
  refine j_iload_n (pc := 23) X dX0_init_23 rfl (q := 0) rfl ?_
  refine j_new (pc := 24) X (C := RX1) (T := TX1) (N := 9) (ci := 1) (fs := [.null, .null, .null, .null, .null, .int 0, .int 0, .int 0, .int 0]) wz_X1 tyX1 tyX1_ok wl_X0_9 wn_X1 wi_X1 rfl df_X1 ⟨by omega, by omega⟩ dX0_init_24 (fun x1 => ?_)
  refine j_dup (pc := 27) X dX0_init_27 rfl ?_
  refine j_callI (pc := 28) X (As := []) (st := [.ref x1, .int (nI 1), .ref q1]) (cz_X1_init l D tA x1) wc_X1_init wi_X1 wk_X1_init wm_X0_17 rfl (by decide +kernel) ⟨Nat.le_of_ble_eq_true rfl, Nat.le_of_ble_eq_true rfl⟩ ⟨by omega, by omega⟩ rfl (Nat.le_of_ble_eq_true rfl) dX0_init_28 (fun b1 e1 => ?_)
  subst e1
  refine j_aast (pc := 31) X 1 12 1 rfl rfl rfl rfl (by decide) (by decide) (w' := (([(a, .inr (0, [.ref q1, .int 0, .int 0])), (q1, .inl (tA 2, 4, .inr (.inr (.inr (.inr (va_up (va_up (fun _ => none) 0 (some (b0 0))) 1 (some (b1 0))))))))] ++ stW tA b0 s0) ++ stW tA b1 s0)) rfl dX0_init_31 ?_
  refine j_iinc (pc := 32) X (v := nI 2) (lv' := [(1, .int (nI 2)), (0, .ref a)]) dX0_init_32 (q := 0) rfl (by decide +kernel) (by decide) rfl ?_
  refine j_goto (pc := 35) X (tgt := 14) dX0_init_35 (by decide) ?_
  refine j_iload_n (pc := 14) X dX0_init_14 rfl (q := 0) rfl ?_
  refine j_iconst (pc := 15) X (v := nI 4) dX0_init_15 (by decide +kernel) ?_
  refine j_icmp_ge_f (pc := 16) X (tgt := 38) dX0_init_16 (by decide) (by decide +kernel) ?_
  refine j_aload_n (pc := 19) X dX0_init_19 rfl (q := 1) rfl ?_
  refine j_get (pc := 20) X (C := RX0) (T := TX0) (N := 3) wz_X0 0 rfl rfl 0 (by decide) wf_X0_11 rfl dX0_init_20 ?_
  refine j_iload_n (pc := 23) X dX0_init_23 rfl (q := 0) rfl ?_
  refine j_new (pc := 24) X (C := RX1) (T := TX1) (N := 9) (ci := 1) (fs := [.null, .null, .null, .null, .null, .int 0, .int 0, .int 0, .int 0]) wz_X1 tyX1 tyX1_ok wl_X0_9 wn_X1 wi_X1 rfl df_X1 ⟨by omega, by omega⟩ dX0_init_24 (fun x2 => ?_)
  refine j_dup (pc := 27) X dX0_init_27 rfl ?_
  refine j_callI (pc := 28) X (As := []) (st := [.ref x2, .int (nI 2), .ref q1]) (cz_X1_init l D tA x2) wc_X1_init wi_X1 wk_X1_init wm_X0_17 rfl (by decide +kernel) ⟨Nat.le_of_ble_eq_true rfl, Nat.le_of_ble_eq_true rfl⟩ ⟨by omega, by omega⟩ rfl (Nat.le_of_ble_eq_true rfl) dX0_init_28 (fun b2 e2 => ?_)
  subst e2
  refine j_aast (pc := 31) X 1 22 1 rfl rfl rfl rfl (by decide) (by decide) (w' := ((([(a, .inr (0, [.ref q1, .int 0, .int 0])), (q1, .inl (tA 2, 4, .inr (.inr (.inr (.inr (va_up (va_up (va_up (fun _ => none) 0 (some (b0 0))) 1 (some (b1 0))) 2 (some (b2 0))))))))] ++ stW tA b0 s0) ++ stW tA b1 s0) ++ stW tA b2 s0)) rfl dX0_init_31 ?_
  refine j_iinc (pc := 32) X (v := nI 3) (lv' := [(1, .int (nI 3)), (0, .ref a)]) dX0_init_32 (q := 0) rfl (by decide +kernel) (by decide) rfl ?_
  refine j_goto (pc := 35) X (tgt := 14) dX0_init_35 (by decide) ?_
  refine j_iload_n (pc := 14) X dX0_init_14 rfl (q := 0) rfl ?_
  refine j_iconst (pc := 15) X (v := nI 4) dX0_init_15 (by decide +kernel) ?_
  refine j_icmp_ge_f (pc := 16) X (tgt := 38) dX0_init_16 (by decide) (by decide +kernel) ?_
  refine j_aload_n (pc := 19) X dX0_init_19 rfl (q := 1) rfl ?_
  refine j_get (pc := 20) X (C := RX0) (T := TX0) (N := 3) wz_X0 0 rfl rfl 0 (by decide) wf_X0_11 rfl dX0_init_20 ?_
  refine j_iload_n (pc := 23) X dX0_init_23 rfl (q := 0) rfl ?_
  refine j_new (pc := 24) X (C := RX1) (T := TX1) (N := 9) (ci := 1) (fs := [.null, .null, .null, .null, .null, .int 0, .int 0, .int 0, .int 0]) wz_X1 tyX1 tyX1_ok wl_X0_9 wn_X1 wi_X1 rfl df_X1 ⟨by omega, by omega⟩ dX0_init_24 (fun x3 => ?_)
  refine j_dup (pc := 27) X dX0_init_27 rfl ?_
  refine j_callI (pc := 28) X (As := []) (st := [.ref x3, .int (nI 3), .ref q1]) (cz_X1_init l D tA x3) wc_X1_init wi_X1 wk_X1_init wm_X0_17 rfl (by decide +kernel) ⟨Nat.le_of_ble_eq_true rfl, Nat.le_of_ble_eq_true rfl⟩ ⟨by omega, by omega⟩ rfl (Nat.le_of_ble_eq_true rfl) dX0_init_28 (fun b3 e3 => ?_)
  subst e3
  refine j_aast (pc := 31) X 1 32 1 rfl rfl rfl rfl (by decide) (by decide) (w' := (((([(a, .inr (0, [.ref q1, .int 0, .int 0])), (q1, .inl (tA 2, 4, .inr (.inr (.inr (.inr (va_up (va_up (va_up (va_up (fun _ => none) 0 (some (b0 0))) 1 (some (b1 0))) 2 (some (b2 0))) 3 (some (b3 0))))))))] ++ stW tA b0 s0) ++ stW tA b1 s0) ++ stW tA b2 s0) ++ stW tA b3 s0)) rfl dX0_init_31 ?_
  refine j_iinc (pc := 32) X (v := nI 4) (lv' := [(1, .int (nI 4)), (0, .ref a)]) dX0_init_32 (q := 0) rfl (by decide +kernel) (by decide) rfl ?_
  refine j_goto (pc := 35) X (tgt := 14) dX0_init_35 (by decide) ?_
  refine j_iload_n (pc := 14) X dX0_init_14 rfl (q := 0) rfl ?_
  refine j_iconst (pc := 15) X (v := nI 4) dX0_init_15 (by decide +kernel) ?_
  refine j_icmp_ge_t (pc := 16) X (tgt := 38) dX0_init_16 (by decide) (by decide +kernel) ?_
  refine j_arq (tA := tA) 1 (f' := fun i => some (dd4 b0 b1 b2 b3 i 0)) rfl (fun j hj => by rcases (show j = 0 ∨ j = 1 ∨ j = 2 ∨ j = 3 by omega) with rfl | rfl | rfl | rfl <;> rfl) (w' := (((([(a, .inr (0, [.ref q1, .int 0, .int 0])), (q1, .inl (tA 2, 4, .inr (.inr (.inr (.inr (fun i => some (dd4 b0 b1 b2 b3 i 0)))))))] ++ stW tA b0 s0) ++ stW tA b1 s0) ++ stW tA b2 s0) ++ stW tA b3 s0)) rfl ?_
  refine j_ws (w2 := hsW tA (ad2 a q1) (dd4 b0 b1 b2 b3) (fun _ => s0, 0, 0)) (by simp only [hsW, List.append_assoc]; rfl) ?_
  exact j_endVz (pc := 38) E dX0_init_38 (ad2 a q1, dd4 b0 b1 b2 b3) rfl rfl
end
section
theorem df_X0 : ∀ j, j < 3 → defaultValue (tyX0 j) = vp_V [.null, .int 0, .int 0] j := fun j hj => by
  rcases (show j = 0 ∨ j = 1 ∨ j = 2 by omega) with rfl | rfl | rfl <;> rfl
theorem df_X3 : ∀ j, j < 4 → defaultValue (tyX3 j) = vp_V [.null, .int 0, .int 0, .null] j := fun j hj => by
  rcases (show j = 0 ∨ j = 1 ∨ j = 2 ∨ j = 3 by omega) with rfl | rfl | rfl | rfl <;> rfl
abbrev v0 : Hs := (fun _ => s0, 0, 0)
/-- the cells of a new club -/
def clZ (tA : Nat → ClassId) (c : Nat) (u : (Nat → Nat) × (Nat → Nat) × (Nat → Nat) × ((Nat → Nat) × (Nat → Nat → Nat)) × (Nat → Nat)) : va_W := clW c u.1 u.2.1 u.2.2.1 u.2.2.2.1.1 u.2.2.2.2 false ++ (stW tA u.1 s0 ++ (stW tA u.2.1 s0 ++ (stW tA u.2.2.1 s0 ++ (hsW tA u.2.2.2.1.1 u.2.2.2.1.2 v0 ++ txW tA u.2.2.2.2 (fun _ => 0) 0 0 z0))))
set_option maxHeartbeats 4000000 in
set_option maxRecDepth 100000 in
theorem cz_X4_init (l : Launch) (D : va_G) (tA : Nat → ClassId) (c : Nat) : Kz l D tA yX4_init cX4_init 1 4 77 76 3927 [.ref c] [(c, .inr (4, [.null, .null, .null, .null, .null, .int 0]))] (fun _ : (Nat → Nat) × (Nat → Nat) × (Nat → Nat) × ((Nat → Nat) × (Nat → Nat → Nat)) × (Nat → Nat) => True) (fun u => clZ tA c u) := by
  refine kz_void rfl rfl (Nat.le_of_ble_eq_true rfl) (fun G X hR hN E => ?_)
  show J l D G 0 0 [(c, .inr (4, [.null, .null, .null, .null, .null, .int 0]))] [(0, .ref c)] 0 []
  refine j_aload_n (pc := 0) X dX4_init_0 rfl (q := 0) rfl ?_
  refine j_obj (pc := 1) X wm_X4_3 ⟨Nat.le_of_ble_eq_true rfl, Nat.le_of_ble_eq_true rfl⟩ dX4_init_1 ?_
  refine j_aload_n (pc := 4) X dX4_init_4 rfl (q := 0) rfl ?_
  refine j_new (pc := 5) X (C := RX1) (T := TX1) (N := 9) (ci := 1) (fs := [.null, .null, .null, .null, .null, .int 0, .int 0, .int 0, .int 0]) wz_X1 tyX1 tyX1_ok wl_X4_9 wn_X1 wi_X1 rfl df_X1 ⟨by omega, by omega⟩ dX4_init_5 (fun x0 => ?_)
  refine j_dup (pc := 8) X dX4_init_8 rfl ?_
  refine j_callI (pc := 9) X (As := []) (st := [.ref x0, .ref c]) (cz_X1_init l D tA x0) wc_X1_init wi_X1 wk_X1_init wm_X4_11 rfl (by decide +kernel) ⟨Nat.le_of_ble_eq_true rfl, Nat.le_of_ble_eq_true rfl⟩ ⟨by omega, by omega⟩ rfl (Nat.le_of_ble_eq_true rfl) dX4_init_9 (fun b0 e0 => ?_)
  subst e0
  refine j_putF (pc := 12) X hN (C := RX4) (T := TX4) (N := 6) wz_X4 tyX4 tyX4_ok nmX4 0 rfl rfl 0 (by decide) wf_X4_12 rfl rfl rfl rfl (Nat.le_of_ble_eq_true rfl) (w' := ([(c, .inr (4, [.ref (b0 0), .null, .null, .null, .null, .int 0]))] ++ stW tA b0 s0)) rfl dX4_init_12 ?_
  refine j_aload_n (pc := 15) X dX4_init_15 rfl (q := 0) rfl ?_
  refine j_new (pc := 16) X (C := RX1) (T := TX1) (N := 9) (ci := 1) (fs := [.null, .null, .null, .null, .null, .int 0, .int 0, .int 0, .int 0]) wz_X1 tyX1 tyX1_ok wl_X4_9 wn_X1 wi_X1 rfl df_X1 ⟨by omega, by omega⟩ dX4_init_16 (fun x1 => ?_)
  refine j_dup (pc := 19) X dX4_init_19 rfl ?_
  refine j_callI (pc := 20) X (As := []) (st := [.ref x1, .ref c]) (cz_X1_init l D tA x1) wc_X1_init wi_X1 wk_X1_init wm_X4_11 rfl (by decide +kernel) ⟨Nat.le_of_ble_eq_true rfl, Nat.le_of_ble_eq_true rfl⟩ ⟨by omega, by omega⟩ rfl (Nat.le_of_ble_eq_true rfl) dX4_init_20 (fun b1 e1 => ?_)
  subst e1
  refine j_putF (pc := 23) X hN (C := RX4) (T := TX4) (N := 6) wz_X4 tyX4 tyX4_ok nmX4 0 rfl rfl 1 (by decide) wf_X4_16 rfl rfl rfl rfl (Nat.le_of_ble_eq_true rfl) (w' := (([(c, .inr (4, [.ref (b0 0), .ref (b1 0), .null, .null, .null, .int 0]))] ++ stW tA b0 s0) ++ stW tA b1 s0)) rfl dX4_init_23 ?_
  refine j_aload_n (pc := 26) X dX4_init_26 rfl (q := 0) rfl ?_
  refine j_new (pc := 27) X (C := RX1) (T := TX1) (N := 9) (ci := 1) (fs := [.null, .null, .null, .null, .null, .int 0, .int 0, .int 0, .int 0]) wz_X1 tyX1 tyX1_ok wl_X4_9 wn_X1 wi_X1 rfl df_X1 ⟨by omega, by omega⟩ dX4_init_27 (fun x2 => ?_)
  refine j_dup (pc := 30) X dX4_init_30 rfl ?_
  refine j_callI (pc := 31) X (As := []) (st := [.ref x2, .ref c]) (cz_X1_init l D tA x2) wc_X1_init wi_X1 wk_X1_init wm_X4_11 rfl (by decide +kernel) ⟨Nat.le_of_ble_eq_true rfl, Nat.le_of_ble_eq_true rfl⟩ ⟨by omega, by omega⟩ rfl (Nat.le_of_ble_eq_true rfl) dX4_init_31 (fun b2 e2 => ?_)
  subst e2
  refine j_putF (pc := 34) X hN (C := RX4) (T := TX4) (N := 6) wz_X4 tyX4 tyX4_ok nmX4 0 rfl rfl 2 (by decide) wf_X4_19 rfl rfl rfl rfl (Nat.le_of_ble_eq_true rfl) (w' := ((([(c, .inr (4, [.ref (b0 0), .ref (b1 0), .ref (b2 0), .null, .null, .int 0]))] ++ stW tA b0 s0) ++ stW tA b1 s0) ++ stW tA b2 s0)) rfl dX4_init_34 ?_
  refine j_aload_n (pc := 37) X dX4_init_37 rfl (q := 0) rfl ?_
  refine j_new (pc := 38) X (C := RX0) (T := TX0) (N := 3) (ci := 0) (fs := [.null, .int 0, .int 0]) wz_X0 tyX0 tyX0_ok wl_X4_22 wn_X0 wi_X0 rfl df_X0 ⟨by omega, by omega⟩ dX4_init_38 (fun x3 => ?_)
  refine j_dup (pc := 41) X dX4_init_41 rfl ?_
  refine j_callI (pc := 42) X (As := []) (st := [.ref x3, .ref c]) (cz_X0_init l D tA x3) wc_X0_init wi_X0 wk_X0_init wm_X4_24 rfl (by decide +kernel) ⟨Nat.le_of_ble_eq_true rfl, Nat.le_of_ble_eq_true rfl⟩ ⟨by omega, by omega⟩ rfl (Nat.le_of_ble_eq_true rfl) dX4_init_42 (fun b3 e3 => ?_)
  subst e3
  refine j_putF (pc := 45) X hN (C := RX4) (T := TX4) (N := 6) wz_X4 tyX4 tyX4_ok nmX4 0 rfl rfl 3 (by decide) wf_X4_25 rfl rfl rfl rfl (Nat.le_of_ble_eq_true rfl) (w' := (((([(c, .inr (4, [.ref (b0 0), .ref (b1 0), .ref (b2 0), .ref (b3.1 0), .null, .int 0]))] ++ stW tA b0 s0) ++ stW tA b1 s0) ++ stW tA b2 s0) ++ hsW tA b3.1 b3.2 v0)) rfl dX4_init_45 ?_
  refine j_aload_n (pc := 48) X dX4_init_48 rfl (q := 0) rfl ?_
  refine j_new (pc := 49) X (C := RX3) (T := TX3) (N := 4) (ci := 3) (fs := [.null, .int 0, .int 0, .null]) wz_X3 tyX3 tyX3_ok wl_X4_29 wn_X3 wi_X3 rfl df_X3 ⟨by omega, by omega⟩ dX4_init_49 (fun x4 => ?_)
  refine j_dup (pc := 52) X dX4_init_52 rfl ?_
  refine j_callI (pc := 53) X (As := []) (st := [.ref x4, .ref c]) (cz_X3_init l D tA x4) wc_X3_init wi_X3 wk_X3_init wm_X4_31 rfl (by decide +kernel) ⟨Nat.le_of_ble_eq_true rfl, Nat.le_of_ble_eq_true rfl⟩ ⟨by omega, by omega⟩ rfl (Nat.le_of_ble_eq_true rfl) dX4_init_53 (fun b4 e4 => ?_)
  refine j_putF (pc := 56) X hN (C := RX4) (T := TX4) (N := 6) wz_X4 tyX4 tyX4_ok nmX4 0 rfl rfl 4 (by decide) wf_X4_32 rfl rfl rfl rfl (Nat.le_of_ble_eq_true rfl) (w' := ((((([(c, .inr (4, [.ref (b0 0), .ref (b1 0), .ref (b2 0), .ref (b3.1 0), .ref x4, .int 0]))] ++ stW tA b0 s0) ++ stW tA b1 s0) ++ stW tA b2 s0) ++ hsW tA b3.1 b3.2 v0) ++ txW tA (ad4 x4 b4.1 b4.2.1 b4.2.2) (fun _ => 0) 0 0 z0)) rfl dX4_init_56 ?_
  refine j_aload_n (pc := 59) X dX4_init_59 rfl (q := 0) rfl ?_
  refine j_iconst (pc := 60) X (v := nI 0) dX4_init_60 (by decide +kernel) ?_
  refine j_put (pc := 61) X (C := RX4) (T := TX4) (N := 6) wz_X4 tyX4 tyX4_ok nmX4 0 rfl rfl 5 (by decide) wf_X4_36 rfl rfl rfl (Nat.le_of_ble_eq_true rfl) (w' := ((((([(c, .inr (4, [.ref (b0 0), .ref (b1 0), .ref (b2 0), .ref (b3.1 0), .ref x4, .int 0]))] ++ stW tA b0 s0) ++ stW tA b1 s0) ++ stW tA b2 s0) ++ hsW tA b3.1 b3.2 v0) ++ txW tA (ad4 x4 b4.1 b4.2.1 b4.2.2) (fun _ => 0) 0 0 z0)) rfl dX4_init_61 ?_
  refine j_ws (w2 := clZ tA c (b0, b1, b2, b3, ad4 x4 b4.1 b4.2.1 b4.2.2)) (by simp only [clZ, List.append_assoc]; rfl) ?_
  exact j_endVz (pc := 64) E dX4_init_64 (b0, b1, b2, b3, ad4 x4 b4.1 b4.2.1 b4.2.2) trivial rfl
theorem Wf_0 : Wf s0 := ⟨⟨Nat.zero_le _, fun r hr => absurd hr (Nat.not_lt_zero _)⟩, Nat.zero_le _, ⟨Nat.zero_le _, fun r hr => absurd hr (Nat.not_lt_zero _)⟩, ⟨Nat.zero_le _, fun r hr => absurd hr (Nat.not_lt_zero _)⟩, fun _ _ => Nat.zero_le _, Nat.zero_le _⟩
theorem OKs_0 : OKs s0 := ⟨Wf_0, fun _ _ => Nat.zero_le _, fun _ _ _ => Nat.zero_le _⟩
end
section
theorem kP_perm {D : va_G} {w w' : va_W} {H : Heap} (h : w.Perm w') (hP : va_P D vwCl w H) : va_P D vwCl w' H := fun k q hk => by
  have hm : q ∈ w := h.mem_iff.mpr (List.mem_of_getElem? hk)
  obtain ⟨i, hi⟩ := List.getElem?_of_mem hm
  exact hP i q hi
theorem kD_pw {A : Nat → Prop} {w : va_W} : va_D A w ↔ (w.Pairwise (fun p q => p.1 ≠ q.1) ∧ ∀ q ∈ w, A q.1) := by
  constructor
  · intro h
    refine ⟨List.pairwise_iff_getElem.mpr (fun i j hi hj hij e => ?_), fun q hq => ?_⟩
    · have := h.1 i j _ _ (List.getElem?_eq_getElem hi) (List.getElem?_eq_getElem hj) e
      omega
    · obtain ⟨i, hi⟩ := List.getElem?_of_mem hq
      exact h.2 i q hi
  · intro h
    refine ⟨fun i j p q hi hj e => ?_, fun k q hk => h.2 q (List.mem_of_getElem? hk)⟩
    obtain ⟨hi1, hi2⟩ := List.getElem?_eq_some_iff.mp hi
    obtain ⟨hj1, hj2⟩ := List.getElem?_eq_some_iff.mp hj
    rcases Nat.lt_trichotomy i j with z | z | z
    · exact absurd (by rw [hi2, hj2]; exact e) (List.pairwise_iff_getElem.mp h.1 i j hi1 hj1 z)
    · exact z
    · exact absurd (by rw [hi2, hj2]; exact e.symm) (List.pairwise_iff_getElem.mp h.1 j i hj1 hi1 z)
theorem kD_perm {A : Nat → Prop} {w w' : va_W} (h : w.Perm w') (hD : va_D A w) : va_D A w' := by
  rw [kD_pw] at hD ⊢
  exact ⟨(h.pairwise_iff (fun e z => e z.symm)).mp hD.1, fun q hq => hD.2 q (h.mem_iff.mpr hq)⟩
theorem j_lperm {l : Launch} {D : va_G} {G : kCx} {n k : Nat} {w w' : va_W} {lv : List (Nat × Value)} {pc : Nat} {st : List Value} (h : w.Perm w') (kk : J l D G n k w' lv pc st) : J l D G n k w lv pc st := fun H locs ls hP hD hS hl => kk H locs ls (kP_perm h hP) (kD_perm h hD) hS hl
theorem suf_get {w0 wc : va_W} : (List.range' w0.length wc.length).map (fun i => (w0 ++ wc)[i]?) = wc.map some := by
  refine List.ext_getElem (by rw [List.length_map, List.length_map, List.length_range']) (fun i h1 h2 => ?_)
  have hi : i < wc.length := by rw [List.length_map] at h2; exact h2
  rw [List.getElem_map, List.getElem_map, List.getElem_range', Nat.one_mul, List.getElem?_append_right (by omega), Nat.add_sub_cancel_left, List.getElem?_eq_getElem hi]
theorem pre_get {w0 wc : va_W} : (List.range' 0 w0.length).map (fun i => (w0 ++ wc)[i]?) = w0.map some := by
  refine List.ext_getElem (by rw [List.length_map, List.length_map, List.length_range']) (fun i h1 h2 => ?_)
  have hi : i < w0.length := by rw [List.length_map] at h2; exact h2
  rw [List.getElem_map, List.getElem_map, List.getElem_range', Nat.zero_add, Nat.one_mul, List.getElem?_append_left hi, List.getElem?_eq_getElem hi]
theorem kPlug_suf : ∀ (wc wc' w0 : va_W), wc'.length = wc.length → kPlug (w0 ++ wc) (List.range' w0.length wc.length) wc' = w0 ++ wc'
  | [], [], w0, _ => by show w0 ++ [] = w0 ++ []; rfl
  | [], _ :: _, _, h => by cases h
  | _ :: _, [], _, h => by cases h
  | c :: wc, x :: wc', w0, h => by
    show kPlug ((w0 ++ c :: wc).set w0.length x) (List.range' (w0.length + 1) wc.length) wc' = _
    have e : (w0 ++ c :: wc).set w0.length x = (w0 ++ [x]) ++ wc := by
      rw [List.set_append_right _ _ (Nat.le_refl _), Nat.sub_self, List.append_assoc]; rfl
    have e2 : w0.length + 1 = (w0 ++ [x]).length := by rw [List.length_append]; rfl
    rw [e, e2, kPlug_suf wc wc' (w0 ++ [x]) (Nat.succ.inj h), List.append_assoc]
    rfl
section
variable {l : Launch} {D : va_G} {tA : Nat → ClassId} {G : kCx} {cc : ByteArray} {nL : Nat} {own : String} {fr lo n k : Nat} {lv : List (Nat × Value)} {pc : Nat} {st : List Value}
theorem j_cxV (X : kX D tA G cc nL own fr lo) {y : MethodName} {bytes : ByteArray} {maxL : Nat} {ret : Option FieldType} {frc loc index b : Nat} {As : List Value} {w0 wc wc' : va_W} {res : Option Value} {stk : List Value}
    (hM : Kx l D tA y bytes maxL ret frc loc (.ref b :: As) wc res wc') (hcd : kCardV y bytes maxL ret As.length) (hlink : Cond.methodLink own index y ∈ kALL)
    (q0 : Nat) {ci : Nat} {fs : List Value} {r : vw_C} (he : wc[q0]? = some (b, .inr (ci, fs))) (hcl : vwCl[ci]? = some r) (hrc : r.1 = y.cls) (hfc : wc'.map Prod.fst = wc.map Prod.fst)
    (hroom : frc + 1 ≤ fr ∧ 8 + (maxL + 11) + loc ≤ lo) (h0 : n ≤ (gR G).cells ∧ k ≤ (gR G).slots) (hstk : stk = As.reverse ++ .ref b :: st) (hcat : (st.map fun v => v.category).sum ≤ 8) (hdg : decode cc pc = .ok (.invokevirtual index, 3))
    (kk : J l D G n k (w0 ++ wc') lv (pc + 3) (res.toList ++ st)) : J l D G n k (w0 ++ wc) lv pc stk :=
  j_callV X hM hcd hlink (w0.length + q0) (by rw [List.getElem?_append_right (Nat.le_add_right _ _), Nat.add_sub_cancel_left]; exact he) hcl hrc (List.range' w0.length wc.length) suf_get (nd_range _ _) hfc (kPlug_suf wc wc' w0 (by simpa using congrArg List.length hfc)) hroom h0 hstk hcat hdg kk
theorem j_cyV (X : kX D tA G cc nL own fr lo) {y : MethodName} {bytes : ByteArray} {maxL : Nat} {ret : Option FieldType} {frc loc index b : Nat} {As : List Value} {w0 wc : va_W} {S : Type} {Pr : S → Prop} {res : S → Option Value} {wf : S → va_W} {stk : List Value}
    (hM : Ky l D tA y bytes maxL ret frc loc (.ref b :: As) wc Pr res wf) (hcd : kCardV y bytes maxL ret As.length) (hlink : Cond.methodLink own index y ∈ kALL)
    (q0 : Nat) {ci : Nat} {fs : List Value} {r : vw_C} (he : wc[q0]? = some (b, .inr (ci, fs))) (hcl : vwCl[ci]? = some r) (hrc : r.1 = y.cls) (hfc : ∀ u, (wf u).map Prod.fst = wc.map Prod.fst)
    (hroom : frc + 1 ≤ fr ∧ 8 + (maxL + 11) + loc ≤ lo) (h0 : n ≤ (gR G).cells ∧ k ≤ (gR G).slots) (hstk : stk = As.reverse ++ .ref b :: st) (hcat : (st.map fun v => v.category).sum ≤ 8) (hdg : decode cc pc = .ok (.invokevirtual index, 3))
    (kk : ∀ u, Pr u → J l D G n k (w0 ++ wf u) lv (pc + 3) ((res u).toList ++ st)) : J l D G n k (w0 ++ wc) lv pc stk :=
  j_callVy X hM hcd hlink (w0.length + q0) (by rw [List.getElem?_append_right (Nat.le_add_right _ _), Nat.add_sub_cancel_left]; exact he) hcl hrc (List.range' w0.length wc.length) suf_get (nd_range _ _) hfc (fun u => kPlug_suf wc (wf u) w0 (by simpa using congrArg List.length (hfc u))) hroom h0 hstk hcat hdg kk
end
theorem blk_perm (l : List va_W) (is js : List Nat) (h : is.Perm js) : ((is.map (fun i => l.getD i [])).flatten).Perm ((js.map (fun i => l.getD i [])).flatten) := (h.map _).flatten
theorem perm8 (b0 b1 b2 b3 b4 b5 b6 b7 : va_W) (js : List Nat) (h : (List.range 8).Perm js) {w' : va_W} (hw : (js.map (fun i => [b0, b1, b2, b3, b4, b5, b6, b7].getD i [])).flatten = w') : (b0 ++ (b1 ++ (b2 ++ (b3 ++ (b4 ++ (b5 ++ (b6 ++ b7))))))).Perm w' := by
  have e := blk_perm [b0, b1, b2, b3, b4, b5, b6, b7] (List.range 8) js h
  rw [hw] at e
  have e0 : ((List.range 8).map (fun i => [b0, b1, b2, b3, b4, b5, b6, b7].getD i [])).flatten = b0 ++ (b1 ++ (b2 ++ (b3 ++ (b4 ++ (b5 ++ (b6 ++ b7)))))) := by
    show b0 ++ (b1 ++ (b2 ++ (b3 ++ (b4 ++ (b5 ++ (b6 ++ (b7 ++ []))))))) = _
    rw [List.append_nil]
  rw [e0] at e
  exact e
theorem hh_push {s : Sg} {v : Hs} (hh : ∀ i, Wf (v.1 i)) (hw : Wf s) (o : Option Sg) : ∀ i, Wf ((aH v s o).1 i) := by
  cases o with
  | none => exact hh
  | some s' =>
    intro i
    show Wf (va_up v.1 v.2.1 s i)
    by_cases q : i = v.2.1
    · rw [q, up_same]; exact hw
    · rw [up_ne _ _ q]; exact hh i
section
variable {l : Launch} {D : va_G} {tA : Nat → ClassId} {G : kCx} {cc : ByteArray} {nL : Nat} {own : String} {fr lo n k : Nat} {w : va_W} {lv : List (Nat × Value)} {pc : Nat} {st : List Value}
theorem j_sld (X : kX D tA G cc nL own fr lo) {b L : Nat} {xs : Nat → Int32} (hX : va_X b L xs (gs G) (gs G).heap) (hbl : b < (gs G).heap.size) (hbA : ¬ gA G b) {i : Nat} (hi : i < L) (hL : L < 65536) (hdg : decode cc pc = .ok (.iaload, 1)) (kk : J l D G n k w lv (pc + 1) (.int (xs i) :: st)) : J l D G n k w lv pc (.int (nI i) :: .ref b :: st) :=
  fun H locs ls hP hD hS hl => va_sld X.1 X.2.1 hX hbl hbA hS (vp_in_nI hi (by omega)) hdg (by rw [nI_clamp (by omega)]; exact kk H locs ls hP hD hS hl)
theorem j_slen (X : kX D tA G cc nL own fr lo) {b L : Nat} {xs : Nat → Int32} (hX : va_X b L xs (gs G) (gs G).heap) (hbl : b < (gs G).heap.size) (hbA : ¬ gA G b) (hdg : decode cc pc = .ok (.arraylength, 1)) (kk : J l D G n k w lv (pc + 1) (.int (nI L) :: st)) : J l D G n k w lv pc (.ref b :: st) :=
  fun H locs ls hP hD hS hl => va_slen X.1 X.2.1 hX hbl hbA hS hdg (kk H locs ls hP hD hS hl)
end
end
