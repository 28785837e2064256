section
-- ===== PART A: goes FIRST, ahead of the names: the tables' words, and 'selects' of the private methods out of them =====
/-- a private method of a class that the tables say can be made, by its rows of tables_1 -/
def lw_okq (q : MethodName × Nat) : Prop := (q.1.cls ≠ "java/lang/invoke/MethodHandle" ∧ q.1.cls ≠ "java/lang/invoke/VarHandle") ∧ Cond.instantiable q.1.cls q.2 ∈ tables_1 ∧ Cond.privateMethod q.1 ∈ tables_1 ∧ Cond.instanceMethod q.1 ∈ tables_1
theorem lw_p0 : lw_okq (⟨"ShiftMaps$State", "openingPressure", "()F"⟩, 11) := ⟨⟨by decide +kernel, by decide +kernel⟩, List.mem_of_getElem? (i := 18) (by decide +kernel), List.mem_of_getElem? (i := 221) (by decide +kernel), List.mem_of_getElem? (i := 222) (by decide +kernel)⟩
theorem lw_p1 : lw_okq (⟨"ShiftMaps$State", "closingPressure", "()F"⟩, 11) := ⟨⟨by decide +kernel, by decide +kernel⟩, List.mem_of_getElem? (i := 18) (by decide +kernel), List.mem_of_getElem? (i := 227) (by decide +kernel), List.mem_of_getElem? (i := 228) (by decide +kernel)⟩
theorem lw_p2 : lw_okq (⟨"ShiftMaps$History", "rowAt", "(I)LShiftMaps$State;"⟩, 3) := ⟨⟨by decide +kernel, by decide +kernel⟩, List.mem_of_getElem? (i := 100) (by decide +kernel), List.mem_of_getElem? (i := 334) (by decide +kernel), List.mem_of_getElem? (i := 335) (by decide +kernel)⟩
theorem lw_p3 : lw_okq (⟨"ShiftMaps$State", "swings", "(I)Z"⟩, 11) := ⟨⟨by decide +kernel, by decide +kernel⟩, List.mem_of_getElem? (i := 18) (by decide +kernel), List.mem_of_getElem? (i := 393) (by decide +kernel), List.mem_of_getElem? (i := 394) (by decide +kernel)⟩
theorem lw_p4 : lw_okq (⟨"ShiftMaps$State", "countOneMore", "(I)V"⟩, 11) := ⟨⟨by decide +kernel, by decide +kernel⟩, List.mem_of_getElem? (i := 18) (by decide +kernel), List.mem_of_getElem? (i := 408) (by decide +kernel), List.mem_of_getElem? (i := 409) (by decide +kernel)⟩
theorem lw_p5 : lw_okq (⟨"ShiftMaps$State", "goOnWithChange", "()V"⟩, 11) := ⟨⟨by decide +kernel, by decide +kernel⟩, List.mem_of_getElem? (i := 18) (by decide +kernel), List.mem_of_getElem? (i := 437) (by decide +kernel), List.mem_of_getElem? (i := 438) (by decide +kernel)⟩
theorem lw_p6 : lw_okq (⟨"ShiftMaps$State", "reasonToChange", "(FF)I"⟩, 11) := ⟨⟨by decide +kernel, by decide +kernel⟩, List.mem_of_getElem? (i := 18) (by decide +kernel), List.mem_of_getElem? (i := 441) (by decide +kernel), List.mem_of_getElem? (i := 442) (by decide +kernel)⟩
theorem lw_p7 : lw_okq (⟨"ShiftMaps$State", "kickdownGear", "(F)I"⟩, 11) := ⟨⟨by decide +kernel, by decide +kernel⟩, List.mem_of_getElem? (i := 18) (by decide +kernel), List.mem_of_getElem? (i := 449) (by decide +kernel), List.mem_of_getElem? (i := 450) (by decide +kernel)⟩
theorem lw_p8 : lw_okq (⟨"ShiftMaps$State", "gearChosenBy", "(IF)I"⟩, 11) := ⟨⟨by decide +kernel, by decide +kernel⟩, List.mem_of_getElem? (i := 18) (by decide +kernel), List.mem_of_getElem? (i := 465) (by decide +kernel), List.mem_of_getElem? (i := 466) (by decide +kernel)⟩
theorem lw_p9 : lw_okq (⟨"ShiftMaps$State", "countTick", "()V"⟩, 11) := ⟨⟨by decide +kernel, by decide +kernel⟩, List.mem_of_getElem? (i := 18) (by decide +kernel), List.mem_of_getElem? (i := 470) (by decide +kernel), List.mem_of_getElem? (i := 471) (by decide +kernel)⟩
theorem lw_p10 : lw_okq (⟨"ShiftMaps$DriveText", "expectNumber", "(I)V"⟩, 7) := ⟨⟨by decide +kernel, by decide +kernel⟩, List.mem_of_getElem? (i := 119) (by decide +kernel), List.mem_of_getElem? (i := 528) (by decide +kernel), List.mem_of_getElem? (i := 529) (by decide +kernel)⟩
theorem lw_p11 : lw_okq (⟨"ShiftMaps$DriveText", "takes", "(C)Z"⟩, 7) := ⟨⟨by decide +kernel, by decide +kernel⟩, List.mem_of_getElem? (i := 119) (by decide +kernel), List.mem_of_getElem? (i := 532) (by decide +kernel), List.mem_of_getElem? (i := 533) (by decide +kernel)⟩
theorem lw_p12 : lw_okq (⟨"ShiftMaps$DriveText", "endNumber", "(I)Z"⟩, 7) := ⟨⟨by decide +kernel, by decide +kernel⟩, List.mem_of_getElem? (i := 119) (by decide +kernel), List.mem_of_getElem? (i := 536) (by decide +kernel), List.mem_of_getElem? (i := 537) (by decide +kernel)⟩
theorem lw_p13 : lw_okq (⟨"ShiftMaps$DriveText", "putNumber", "(II)V"⟩, 7) := ⟨⟨by decide +kernel, by decide +kernel⟩, List.mem_of_getElem? (i := 119) (by decide +kernel), List.mem_of_getElem? (i := 540) (by decide +kernel), List.mem_of_getElem? (i := 541) (by decide +kernel)⟩
theorem lw_p14 : lw_okq (⟨"ShiftMaps$DriveText", "endPart", "()Z"⟩, 7) := ⟨⟨by decide +kernel, by decide +kernel⟩, List.mem_of_getElem? (i := 119) (by decide +kernel), List.mem_of_getElem? (i := 544) (by decide +kernel), List.mem_of_getElem? (i := 545) (by decide +kernel)⟩
theorem lw_p15 : lw_okq (⟨"ShiftMaps$DriveText", "takesDigit", "(I)Z"⟩, 7) := ⟨⟨by decide +kernel, by decide +kernel⟩, List.mem_of_getElem? (i := 119) (by decide +kernel), List.mem_of_getElem? (i := 548) (by decide +kernel), List.mem_of_getElem? (i := 549) (by decide +kernel)⟩
def lw_privs_1 : List (MethodName × Nat) := [(⟨"ShiftMaps$State", "openingPressure", "()F"⟩, 11), (⟨"ShiftMaps$State", "closingPressure", "()F"⟩, 11), (⟨"ShiftMaps$History", "rowAt", "(I)LShiftMaps$State;"⟩, 3), (⟨"ShiftMaps$State", "swings", "(I)Z"⟩, 11), (⟨"ShiftMaps$State", "countOneMore", "(I)V"⟩, 11), (⟨"ShiftMaps$State", "goOnWithChange", "()V"⟩, 11), (⟨"ShiftMaps$State", "reasonToChange", "(FF)I"⟩, 11), (⟨"ShiftMaps$State", "kickdownGear", "(F)I"⟩, 11), (⟨"ShiftMaps$State", "gearChosenBy", "(IF)I"⟩, 11), (⟨"ShiftMaps$State", "countTick", "()V"⟩, 11), (⟨"ShiftMaps$DriveText", "expectNumber", "(I)V"⟩, 7), (⟨"ShiftMaps$DriveText", "takes", "(C)Z"⟩, 7), (⟨"ShiftMaps$DriveText", "endNumber", "(I)Z"⟩, 7), (⟨"ShiftMaps$DriveText", "putNumber", "(II)V"⟩, 7), (⟨"ShiftMaps$DriveText", "endPart", "()Z"⟩, 7), (⟨"ShiftMaps$DriveText", "takesDigit", "(I)Z"⟩, 7)]
theorem lw_r1 : ∀ q ∈ lw_privs_1, lw_okq q := List.forall_mem_cons.mpr ⟨lw_p0, List.forall_mem_cons.mpr ⟨lw_p1, List.forall_mem_cons.mpr ⟨lw_p2, List.forall_mem_cons.mpr ⟨lw_p3, List.forall_mem_cons.mpr ⟨lw_p4, List.forall_mem_cons.mpr ⟨lw_p5, List.forall_mem_cons.mpr ⟨lw_p6, List.forall_mem_cons.mpr ⟨lw_p7, List.forall_mem_cons.mpr ⟨lw_p8, List.forall_mem_cons.mpr ⟨lw_p9, List.forall_mem_cons.mpr ⟨lw_p10, List.forall_mem_cons.mpr ⟨lw_p11, List.forall_mem_cons.mpr ⟨lw_p12, List.forall_mem_cons.mpr ⟨lw_p13, List.forall_mem_cons.mpr ⟨lw_p14, List.forall_mem_cons.mpr ⟨lw_p15, fun _ h => absurd h List.not_mem_nil⟩⟩⟩⟩⟩⟩⟩⟩⟩⟩⟩⟩⟩⟩⟩⟩
theorem lw_p16 : lw_okq (⟨"ShiftMaps$DriveText", "numberOf", "(II)I"⟩, 7) := ⟨⟨by decide +kernel, by decide +kernel⟩, List.mem_of_getElem? (i := 119) (by decide +kernel), List.mem_of_getElem? (i := 562) (by decide +kernel), List.mem_of_getElem? (i := 563) (by decide +kernel)⟩
def lw_privs_2 : List (MethodName × Nat) := [(⟨"ShiftMaps$DriveText", "numberOf", "(II)I"⟩, 7)]
theorem lw_r2 : ∀ q ∈ lw_privs_2, lw_okq q := List.forall_mem_cons.mpr ⟨lw_p16, fun _ h => absurd h List.not_mem_nil⟩
def lw_privs : List (MethodName × Nat) := lw_privs_1 ++ (lw_privs_2)
def lw_tbl : List Cond := k2_sels lw_privs ++ tables_1
theorem lw_privs_ok : ∀ q ∈ lw_privs, lw_okq q := by
  show ∀ q ∈ lw_privs_1 ++ (lw_privs_2), lw_okq q
  exact List.forall_mem_append.mpr ⟨lw_r1, lw_r2⟩
/-- the streams that the claim lets the run draw from -/
abbrev lw_cs : List Choice := [Jvm.Choice.named "NaN.bits"]
theorem lw_bits : nanBits ∈ lw_cs := by first | decide | exact List.mem_cons_self | simp [lw_cs, nanBits]
theorem uin_at {ws us : List Cond} (i : Nat) (h : (ws.drop i).take us.length = us) : ∀ w ∈ us, w ∈ ws := by
  intro w hw
  rw [← h] at hw
  exact List.mem_of_mem_drop (List.mem_of_mem_take hw)
theorem pl_at {ws us : List Cond} (ps : List Nat) (h : ps.map (fun i => ws[i]?) = us.map some) : ∀ w ∈ us, w ∈ ws := by
  intro w hw
  have h1 : some w ∈ us.map some := List.mem_map.mpr ⟨w, hw, rfl⟩
  rw [← h] at h1
  obtain ⟨i, -, hi⟩ := List.mem_map.mp h1
  exact List.mem_of_getElem? hi
/-! ===== BEGIN words of one list among another's, by their places ===== -/
theorem goodIn_r {big : List Cond} (ws : List Cond) (ps : List Nat) (hp : ws = ps.filterMap (fun i => big[i]?)) (h : ws.all goodWord = true) : GoodIn big ws := by
  intro w hw
  have h1 := List.all_eq_true.mp h w hw
  rw [hp] at hw
  obtain ⟨i, -, hi⟩ := List.mem_filterMap.mp hw
  have hm : w ∈ big := by first | exact List.mem_of_getElem? hi | exact List.getElem?_mem hi
  exact ⟨hm, good_of_word h1⟩
theorem goodIn_app {big a b : List Cond} (ha : GoodIn big a) (hb : GoodIn big b) : GoodIn big (a ++ b) := fun w h => (List.mem_append.mp h).elim (ha w) (hb w)
theorem goodIn_ca {big a b : List Cond} {c : Cond} (ha : GoodIn big (c :: a)) (hb : GoodIn big b) : GoodIn big (c :: (a ++ b)) := fun w h => (List.mem_cons.mp h).elim (fun e => ha w (List.mem_cons.mpr (Or.inl e))) (fun h => (List.mem_append.mp h).elim (fun h => ha w (List.mem_cons.mpr (Or.inr h))) (hb w))
theorem goodIn_sub {big ws : List Cond} (hm : ∀ w ∈ ws, w ∈ big) (h : ws.all goodWord = true) : GoodIn big ws := fun w hw => ⟨hm w hw, good_of_word (List.all_eq_true.mp h w hw)⟩
/-! ===== END ===== -/

/-! ===== BEGIN printed: names, fields, word lists, decode rows ===== -/
def RX0 : String := "ShiftMaps$DriveText"
def TX0 : u_T := fun k => match k with
  | 0 => ("ShiftMaps$DriveText", "characters", "[C", true)
  | 1 => ("ShiftMaps$DriveText", "length", "I", false)
  | 2 => ("ShiftMaps$DriveText", "numbers", "[I", true)
  | 3 => ("ShiftMaps$DriveText", "parts", "I", false)
  | 4 => ("ShiftMaps$DriveText", "place", "I", false)
  | 5 => ("ShiftMaps$DriveText", "value", "I", false)
  | _ => ("ShiftMaps$DriveText", "digits", "I", false)
def tyX0 : Nat → FieldType := fun k => match k with
  | 0 => .array .char
  | 1 => .int
  | 2 => .array .int
  | 3 => .int
  | 4 => .int
  | 5 => .int
  | _ => .int
abbrev wsX00 : List Cond := u_ws RX0 TX0 7
theorem nmX0 : ∀ a, a < 7 → ∀ b, b < 7 → a ≠ b → (TX0 a).2.1 ≠ (TX0 b).2.1 := by decide +kernel
theorem tyX0_ok : ∀ k, k < 7 → parseFieldDescriptor (TX0 k).2.2.1 = some (tyX0 k) := by decide +kernel
abbrev cX0_init : ByteArray := prog_2_method_1_code
def yX0_init : MethodName := ⟨RX0, "<init>", "()V"⟩
abbrev cX0_append : ByteArray := prog_2_method_2_code
def yX0_append : MethodName := ⟨RX0, "append", "(C)Z"⟩
abbrev cX0_length : ByteArray := prog_2_method_3_code
def yX0_length : MethodName := ⟨RX0, "length", "()I"⟩
abbrev cX0_clear : ByteArray := prog_2_method_4_code
def yX0_clear : MethodName := ⟨RX0, "clear", "()V"⟩
abbrev cX0_partCount : ByteArray := prog_2_method_5_code
def yX0_partCount : MethodName := ⟨RX0, "partCount", "()I"⟩
abbrev cX0_speedOf : ByteArray := prog_2_method_6_code
def yX0_speedOf : MethodName := ⟨RX0, "speedOf", "(I)I"⟩
abbrev cX0_hundredthsOf : ByteArray := prog_2_method_7_code
def yX0_hundredthsOf : MethodName := ⟨RX0, "hundredthsOf", "(I)I"⟩
abbrev cX0_ticksOf : ByteArray := prog_2_method_8_code
def yX0_ticksOf : MethodName := ⟨RX0, "ticksOf", "(I)I"⟩
abbrev cX0_ticksOfAllParts : ByteArray := prog_2_method_9_code
def yX0_ticksOfAllParts : MethodName := ⟨RX0, "ticksOfAllParts", "()I"⟩
abbrev cX0_read : ByteArray := prog_2_method_10_code
def yX0_read : MethodName := ⟨RX0, "read", "()I"⟩
abbrev cX0_expectNumber : ByteArray := prog_2_method_11_code
def yX0_expectNumber : MethodName := ⟨RX0, "expectNumber", "(I)V"⟩
abbrev cX0_takes : ByteArray := prog_2_method_12_code
def yX0_takes : MethodName := ⟨RX0, "takes", "(C)Z"⟩
abbrev cX0_takesDigit : ByteArray := prog_2_method_13_code
def yX0_takesDigit : MethodName := ⟨RX0, "takesDigit", "(I)Z"⟩
abbrev cX0_endNumber : ByteArray := prog_2_method_14_code
def yX0_endNumber : MethodName := ⟨RX0, "endNumber", "(I)Z"⟩
abbrev cX0_endPart : ByteArray := prog_2_method_15_code
def yX0_endPart : MethodName := ⟨RX0, "endPart", "()Z"⟩
abbrev cX0_putNumber : ByteArray := prog_2_method_16_code
def yX0_putNumber : MethodName := ⟨RX0, "putNumber", "(II)V"⟩
abbrev cX0_numberOf : ByteArray := prog_2_method_17_code
def yX0_numberOf : MethodName := ⟨RX0, "numberOf", "(II)I"⟩
def RX1 : String := "ShiftMaps$History"
def TX1 : u_T := fun k => match k with
  | 0 => ("ShiftMaps$History", "states", "[LShiftMaps$State;", true)
  | 1 => ("ShiftMaps$History", "next", "I", false)
  | _ => ("ShiftMaps$History", "size", "I", false)
def tyX1 : Nat → FieldType := fun k => match k with
  | 0 => .array (.object "ShiftMaps$State")
  | 1 => .int
  | _ => .int
abbrev wsX10 : List Cond := u_ws RX1 TX1 3
theorem nmX1 : ∀ a, a < 3 → ∀ b, b < 3 → a ≠ b → (TX1 a).2.1 ≠ (TX1 b).2.1 := by decide +kernel
theorem tyX1_ok : ∀ k, k < 3 → parseFieldDescriptor (TX1 k).2.2.1 = some (tyX1 k) := by decide +kernel
abbrev cX1_init : ByteArray := prog_3_method_1_code
def yX1_init : MethodName := ⟨RX1, "<init>", "()V"⟩
abbrev cX1_size : ByteArray := prog_3_method_2_code
def yX1_size : MethodName := ⟨RX1, "size", "()I"⟩
abbrev cX1_record : ByteArray := prog_3_method_3_code
def yX1_record : MethodName := ⟨RX1, "record", "(LShiftMaps$State;)V"⟩
abbrev cX1_takeLatestInto : ByteArray := prog_3_method_4_code
def yX1_takeLatestInto : MethodName := ⟨RX1, "takeLatestInto", "(LShiftMaps$State;)Z"⟩
abbrev cX1_rowAt : ByteArray := prog_3_method_5_code
def yX1_rowAt : MethodName := ⟨RX1, "rowAt", "(I)LShiftMaps$State;"⟩
def RX2 : String := "ShiftMaps$Log"
def TX2 : u_T := fun k => match k with
  | 0 => ("ShiftMaps$Log", "cells", "[I", true)
  | 1 => ("ShiftMaps$Log", "next", "I", false)
  | _ => ("ShiftMaps$Log", "size", "I", false)
def tyX2 : Nat → FieldType := fun k => match k with
  | 0 => .array .int
  | 1 => .int
  | _ => .int
abbrev wsX20 : List Cond := u_ws RX2 TX2 3
theorem nmX2 : ∀ a, a < 3 → ∀ b, b < 3 → a ≠ b → (TX2 a).2.1 ≠ (TX2 b).2.1 := by decide +kernel
theorem tyX2_ok : ∀ k, k < 3 → parseFieldDescriptor (TX2 k).2.2.1 = some (tyX2 k) := by decide +kernel
abbrev cX2_init : ByteArray := prog_4_method_1_code
def yX2_init : MethodName := ⟨RX2, "<init>", "()V"⟩
abbrev cX2_add : ByteArray := prog_4_method_2_code
def yX2_add : MethodName := ⟨RX2, "add", "(IIIIZ)V"⟩
abbrev cX2_told : ByteArray := prog_4_method_3_code
def yX2_told : MethodName := ⟨RX2, "told", "(II)I"⟩
abbrev cX2_copyFrom : ByteArray := prog_4_method_4_code
def yX2_copyFrom : MethodName := ⟨RX2, "copyFrom", "(LShiftMaps$Log;)V"⟩
def RX3 : String := "ShiftMaps$Maps"
def TX3 : u_T := fun k => match k with
  | _ => ("ShiftMaps$Maps", "speeds", "[F", true)
def tyX3 : Nat → FieldType := fun k => match k with
  | _ => .array .float
abbrev wsX30 : List Cond := u_ws RX3 TX3 1
theorem nmX3 : ∀ a, a < 1 → ∀ b, b < 1 → a ≠ b → (TX3 a).2.1 ≠ (TX3 b).2.1 := by decide +kernel
theorem tyX3_ok : ∀ k, k < 1 → parseFieldDescriptor (TX3 k).2.2.1 = some (tyX3 k) := by decide +kernel
abbrev cX3_init : ByteArray := prog_5_method_1_code
def yX3_init : MethodName := ⟨RX3, "<init>", "()V"⟩
abbrev cX3_has : ByteArray := prog_5_method_2_code
def yX3_has : MethodName := ⟨RX3, "has", "(II)Z"⟩
abbrev cX3_speed : ByteArray := prog_5_method_3_code
def yX3_speed : MethodName := ⟨RX3, "speed", "(II)F"⟩
abbrev cX3_put : ByteArray := prog_5_method_4_code
def yX3_put : MethodName := ⟨RX3, "put", "(IIF)V"⟩
abbrev cX3_upFrom : ByteArray := prog_5_method_5_code
def yX3_upFrom : MethodName := ⟨RX3, "upFrom", "(IF)F"⟩
abbrev cX3_downTo : ByteArray := prog_5_method_6_code
def yX3_downTo : MethodName := ⟨RX3, "downTo", "(IF)F"⟩
abbrev cX3_exceeds : ByteArray := prog_5_method_7_code
def yX3_exceeds : MethodName := ⟨RX3, "exceeds", "(FI)Z"⟩
abbrev cX3_copyFrom : ByteArray := prog_5_method_8_code
def yX3_copyFrom : MethodName := ⟨RX3, "copyFrom", "(LShiftMaps$Maps;)V"⟩
def RX4 : String := "ShiftMaps$State"
def TX4 : u_T := fun k => match k with
  | 0 => ("ShiftMaps$State", "maps", "LShiftMaps$Maps;", true)
  | 1 => ("ShiftMaps$State", "log", "LShiftMaps$Log;", true)
  | 2 => ("ShiftMaps$State", "counts", "[I", true)
  | 3 => ("ShiftMaps$State", "settings", "[I", true)
  | 4 => ("ShiftMaps$State", "gear", "I", false)
  | 5 => ("ShiftMaps$State", "target", "I", false)
  | 6 => ("ShiftMaps$State", "done", "I", false)
  | 7 => ("ShiftMaps$State", "held", "I", false)
  | 8 => ("ShiftMaps$State", "handMode", "Z", false)
  | 9 => ("ShiftMaps$State", "latestSpeed", "F", false)
  | _ => ("ShiftMaps$State", "latestPedal", "F", false)
def tyX4 : Nat → FieldType := fun k => match k with
  | 0 => .object "ShiftMaps$Maps"
  | 1 => .object "ShiftMaps$Log"
  | 2 => .array .int
  | 3 => .array .int
  | 4 => .int
  | 5 => .int
  | 6 => .int
  | 7 => .int
  | 8 => .boolean
  | 9 => .float
  | _ => .float
abbrev wsX40 : List Cond := u_ws RX4 TX4 11
theorem nmX4 : ∀ a, a < 11 → ∀ b, b < 11 → a ≠ b → (TX4 a).2.1 ≠ (TX4 b).2.1 := by decide +kernel
theorem tyX4_ok : ∀ k, k < 11 → parseFieldDescriptor (TX4 k).2.2.1 = some (tyX4 k) := by decide +kernel
abbrev cX4_init : ByteArray := prog_6_method_1_code
def yX4_init : MethodName := ⟨RX4, "<init>", "()V"⟩
abbrev cX4_copyFrom : ByteArray := prog_6_method_2_code
def yX4_copyFrom : MethodName := ⟨RX4, "copyFrom", "(LShiftMaps$State;)V"⟩
abbrev cX4_setting : ByteArray := prog_6_method_3_code
def yX4_setting : MethodName := ⟨RX4, "setting", "(I)I"⟩
abbrev cX4_putSetting : ByteArray := prog_6_method_4_code
def yX4_putSetting : MethodName := ⟨RX4, "putSetting", "(II)V"⟩
abbrev cX4_allows : ByteArray := prog_6_method_5_code
def yX4_allows : MethodName := ⟨RX4, "allows", "(II)Z"⟩
abbrev cX4_counted : ByteArray := prog_6_method_6_code
def yX4_counted : MethodName := ⟨RX4, "counted", "(I)I"⟩
abbrev cX4_countOneMore : ByteArray := prog_6_method_7_code
def yX4_countOneMore : MethodName := ⟨RX4, "countOneMore", "(I)V"⟩
abbrev cX4_tick : ByteArray := prog_6_method_8_code
def yX4_tick : MethodName := ⟨RX4, "tick", "()I"⟩
abbrev cX4_isChanging : ByteArray := prog_6_method_9_code
def yX4_isChanging : MethodName := ⟨RX4, "isChanging", "()Z"⟩
abbrev cX4_passTicks : ByteArray := prog_6_method_10_code
def yX4_passTicks : MethodName := ⟨RX4, "passTicks", "(FFI)I"⟩
abbrev cX4_passTick : ByteArray := prog_6_method_11_code
def yX4_passTick : MethodName := ⟨RX4, "passTick", "(FF)Z"⟩
abbrev cX4_goOnWithChange : ByteArray := prog_6_method_12_code
def yX4_goOnWithChange : MethodName := ⟨RX4, "goOnWithChange", "()V"⟩
abbrev cX4_reasonToChange : ByteArray := prog_6_method_13_code
def yX4_reasonToChange : MethodName := ⟨RX4, "reasonToChange", "(FF)I"⟩
abbrev cX4_isDeep : ByteArray := prog_6_method_14_code
def yX4_isDeep : MethodName := ⟨RX4, "isDeep", "(F)Z"⟩
abbrev cX4_kickdownGear : ByteArray := prog_6_method_15_code
def yX4_kickdownGear : MethodName := ⟨RX4, "kickdownGear", "(F)I"⟩
abbrev cX4_gearChosenBy : ByteArray := prog_6_method_16_code
def yX4_gearChosenBy : MethodName := ⟨RX4, "gearChosenBy", "(IF)I"⟩
abbrev cX4_countTick : ByteArray := prog_6_method_17_code
def yX4_countTick : MethodName := ⟨RX4, "countTick", "()V"⟩
abbrev cX4_mayShiftTo : ByteArray := prog_6_method_18_code
def yX4_mayShiftTo : MethodName := ⟨RX4, "mayShiftTo", "(I)Z"⟩
abbrev cX4_begin : ByteArray := prog_6_method_19_code
def yX4_begin : MethodName := ⟨RX4, "begin", "(II)V"⟩
abbrev cX4_swings : ByteArray := prog_6_method_20_code
def yX4_swings : MethodName := ⟨RX4, "swings", "(I)Z"⟩
abbrev cX4_isClosed : ByteArray := prog_6_method_21_code
def yX4_isClosed : MethodName := ⟨RX4, "isClosed", "(II)Z"⟩
abbrev cX4_closedOnlyIn : ByteArray := prog_6_method_22_code
def yX4_closedOnlyIn : MethodName := ⟨RX4, "closedOnlyIn", "(II)I"⟩
abbrev cX4_opening : ByteArray := prog_6_method_23_code
def yX4_opening : MethodName := ⟨RX4, "opening", "()I"⟩
abbrev cX4_closing : ByteArray := prog_6_method_24_code
def yX4_closing : MethodName := ⟨RX4, "closing", "()I"⟩
abbrev cX4_pressureOf : ByteArray := prog_6_method_25_code
def yX4_pressureOf : MethodName := ⟨RX4, "pressureOf", "(I)F"⟩
abbrev cX4_openingPressure : ByteArray := prog_6_method_26_code
def yX4_openingPressure : MethodName := ⟨RX4, "openingPressure", "()F"⟩
abbrev cX4_closingPressure : ByteArray := prog_6_method_27_code
def yX4_closingPressure : MethodName := ⟨RX4, "closingPressure", "()F"⟩
abbrev cX4_greaterPressure : ByteArray := prog_6_method_28_code
def yX4_greaterPressure : MethodName := ⟨RX4, "greaterPressure", "()F"⟩
def RX5 : String := "ShiftMaps"
def TX5 : u_T := fun k => match k with
  | 0 => ("ShiftMaps", "now", "LShiftMaps$State;", true)
  | 1 => ("ShiftMaps", "snapshot", "LShiftMaps$State;", true)
  | 2 => ("ShiftMaps", "forecast", "LShiftMaps$State;", true)
  | 3 => ("ShiftMaps", "history", "LShiftMaps$History;", true)
  | 4 => ("ShiftMaps", "text", "LShiftMaps$DriveText;", true)
  | _ => ("ShiftMaps", "hasSnapshot", "Z", false)
def tyX5 : Nat → FieldType := fun k => match k with
  | 0 => .object "ShiftMaps$State"
  | 1 => .object "ShiftMaps$State"
  | 2 => .object "ShiftMaps$State"
  | 3 => .object "ShiftMaps$History"
  | 4 => .object "ShiftMaps$DriveText"
  | _ => .boolean
abbrev wsX50 : List Cond := u_ws RX5 TX5 6
theorem nmX5 : ∀ a, a < 6 → ∀ b, b < 6 → a ≠ b → (TX5 a).2.1 ≠ (TX5 b).2.1 := by decide +kernel
theorem tyX5_ok : ∀ k, k < 6 → parseFieldDescriptor (TX5 k).2.2.1 = some (tyX5 k) := by decide +kernel
abbrev cX5_init : ByteArray := prog_1_method_1_code
def yX5_init : MethodName := ⟨RX5, "<init>", "()V"⟩
abbrev cX5_setMap : ByteArray := prog_1_method_2_code
def yX5_setMap : MethodName := ⟨RX5, "setMap", "(III)I"⟩
abbrev cX5_setNumber : ByteArray := prog_1_method_3_code
def yX5_setNumber : MethodName := ⟨RX5, "setNumber", "(II)I"⟩
abbrev cX5_byHand : ByteArray := prog_1_method_4_code
def yX5_byHand : MethodName := ⟨RX5, "byHand", "(Z)I"⟩
abbrev cX5_drive : ByteArray := prog_1_method_5_code
def yX5_drive : MethodName := ⟨RX5, "drive", "(III)I"⟩
abbrev cX5_readDrive : ByteArray := prog_1_method_6_code
def yX5_readDrive : MethodName := ⟨RX5, "readDrive", "()I"⟩
abbrev cX5_shift : ByteArray := prog_1_method_7_code
def yX5_shift : MethodName := ⟨RX5, "shift", "(Z)I"⟩
abbrev cX5_type : ByteArray := prog_1_method_8_code
def yX5_type : MethodName := ⟨RX5, "type", "(C)I"⟩
abbrev cX5_clearText : ByteArray := prog_1_method_9_code
def yX5_clearText : MethodName := ⟨RX5, "clearText", "()I"⟩
abbrev cX5_undo : ByteArray := prog_1_method_10_code
def yX5_undo : MethodName := ⟨RX5, "undo", "()I"⟩
abbrev cX5_car : ByteArray := prog_1_method_13_code
def yX5_car : MethodName := ⟨RX5, "car", "(I)I"⟩
abbrev cX5_pressed : ByteArray := prog_1_method_14_code
def yX5_pressed : MethodName := ⟨RX5, "pressed", "(I)F"⟩
abbrev cX5_force : ByteArray := prog_1_method_15_code
def yX5_force : MethodName := ⟨RX5, "force", "()F"⟩
abbrev cX5_map : ByteArray := prog_1_method_16_code
def yX5_map : MethodName := ⟨RX5, "map", "(II)F"⟩
abbrev cX5_border : ByteArray := prog_1_method_17_code
def yX5_border : MethodName := ⟨RX5, "border", "(IIZ)F"⟩
abbrev cX5_number : ByteArray := prog_1_method_18_code
def yX5_number : MethodName := ⟨RX5, "number", "(I)I"⟩
abbrev cX5_wouldChoose : ByteArray := prog_1_method_19_code
def yX5_wouldChoose : MethodName := ⟨RX5, "wouldChoose", "(II)I"⟩
abbrev cX5_settles : ByteArray := prog_1_method_20_code
def yX5_settles : MethodName := ⟨RX5, "settles", "(II)I"⟩
abbrev cX5_change : ByteArray := prog_1_method_21_code
def yX5_change : MethodName := ⟨RX5, "change", "(II)I"⟩
abbrev cX5_count : ByteArray := prog_1_method_22_code
def yX5_count : MethodName := ⟨RX5, "count", "(I)I"⟩
abbrev cX5_isSpeed : ByteArray := prog_1_method_23_code
def yX5_isSpeed : MethodName := ⟨RX5, "isSpeed", "(I)Z"⟩
abbrev cX5_isPedal : ByteArray := prog_1_method_24_code
def yX5_isPedal : MethodName := ⟨RX5, "isPedal", "(I)Z"⟩
abbrev cX5_floatOf : ByteArray := prog_1_method_25_code
def yX5_floatOf : MethodName := ⟨RX5, "floatOf", "(I)F"⟩
abbrev cX5_notANumber : ByteArray := prog_1_method_26_code
def yX5_notANumber : MethodName := ⟨RX5, "notANumber", "()F"⟩
def RX6 : String := "ShiftMapsModel"
def TX6 : u_T := fun k => match k with
  | _ => ("", "", "", false)
def tyX6 : Nat → FieldType := fun k => match k with
  | _ => .int
abbrev wsX60 : List Cond := u_ws RX6 TX6 0
theorem nmX6 : ∀ a, a < 0 → ∀ b, b < 0 → a ≠ b → (TX6 a).2.1 ≠ (TX6 b).2.1 := by decide +kernel
theorem tyX6_ok : ∀ k, k < 0 → parseFieldDescriptor (TX6 k).2.2.1 = some (tyX6 k) := by decide +kernel
def RJ9 : String := "java/lang/Math"
def TJ9 : u_T := fun k => match k with
  | _ => ("", "", "", false)
def tyJ9 : Nat → FieldType := fun k => match k with
  | _ => .int
abbrev wsJ90 : List Cond := u_ws RJ9 TJ9 0
theorem nmJ9 : ∀ a, a < 0 → ∀ b, b < 0 → a ≠ b → (TJ9 a).2.1 ≠ (TJ9 b).2.1 := by decide +kernel
theorem tyJ9_ok : ∀ k, k < 0 → parseFieldDescriptor (TJ9 k).2.2.1 = some (tyJ9 k) := by decide +kernel
abbrev cJ9_max_7cf53 : ByteArray := prog_9_method_65_code
def yJ9_max_7cf53 : MethodName := ⟨RJ9, "max", "(II)I"⟩
abbrev cJ9_min_7cf53 : ByteArray := prog_9_method_69_code
def yJ9_min_7cf53 : MethodName := ⟨RJ9, "min", "(II)I"⟩
def RJ10 : String := "java/lang/System"
def TJ10 : u_T := fun k => match k with
  | _ => ("", "", "", false)
def tyJ10 : Nat → FieldType := fun k => match k with
  | _ => .int
abbrev wsJ100 : List Cond := u_ws RJ10 TJ10 0
theorem nmJ10 : ∀ a, a < 0 → ∀ b, b < 0 → a ≠ b → (TJ10 a).2.1 ≠ (TJ10 b).2.1 := by decide +kernel
theorem tyJ10_ok : ∀ k, k < 0 → parseFieldDescriptor (TJ10 k).2.2.1 = some (tyJ10 k) := by decide +kernel
def RL : String := "ShiftMapsLaw"
abbrev cL_cell : ByteArray := method_2_code
def yL_cell : MethodName := ⟨RL, "cell", "([II)I"⟩
abbrev cL_low : ByteArray := method_3_code
def yL_low : MethodName := ⟨RL, "low", "(II)I"⟩
abbrev cL_speed : ByteArray := method_4_code
def yL_speed : MethodName := ⟨RL, "speed", "(I)I"⟩
abbrev cL_fast : ByteArray := method_5_code
def yL_fast : MethodName := ⟨RL, "fast", "(I)F"⟩
abbrev cL_pedal : ByteArray := method_6_code
def yL_pedal : MethodName := ⟨RL, "pedal", "(I)I"⟩
abbrev cL_deep : ByteArray := method_7_code
def yL_deep : MethodName := ⟨RL, "deep", "(I)F"⟩
abbrev cL_isNone : ByteArray := method_8_code
def yL_isNone : MethodName := ⟨RL, "isNone", "(F)Z"⟩
abbrev cL_isClosed : ByteArray := method_9_code
def yL_isClosed : MethodName := ⟨RL, "isClosed", "(II)Z"⟩
abbrev cL_told : ByteArray := method_10_code
def yL_told : MethodName := ⟨RL, "told", "(LShiftMaps;)Z"⟩
abbrev cL_tick : ByteArray := method_11_code
def yL_tick : MethodName := ⟨RL, "tick", "(LShiftMaps;II)Z"⟩
abbrev cL_wentToAndFro : ByteArray := method_12_code
def yL_wentToAndFro : MethodName := ⟨RL, "wentToAndFro", "(LShiftMaps;)Z"⟩
abbrev cL_acts : ByteArray := method_13_code
def yL_acts : MethodName := ⟨RL, "acts", "(LShiftMaps;II)Z"⟩
abbrev cL_settles : ByteArray := method_14_code
def yL_settles : MethodName := ⟨RL, "settles", "(LShiftMaps;II)Z"⟩
abbrev cL_errors : ByteArray := method_15_code
def yL_errors : MethodName := ⟨RL, "errors", "(LShiftMaps;)Z"⟩
abbrev cL_law : ByteArray := code
def yL_law : MethodName := ⟨RL, "law", "([I)Z"⟩
def wsX0_init : List Cond := .code yX0_init cX0_init 1 none :: ([.methodLink RX0 3 objectInit, .instanceMethod objectInit, .code objectInit ⟨#[0xb1]⟩ 1 none, .arrayClass .char, .fieldLink RX0 9 "ShiftMaps$DriveText" "characters" "[C", .fieldLink RX0 13 "ShiftMaps$DriveText" "length" "I", .arrayClass .int, .fieldLink RX0 17 "ShiftMaps$DriveText" "numbers" "[I", .fieldLink RX0 21 "ShiftMaps$DriveText" "parts" "I", .fieldLink RX0 24 "ShiftMaps$DriveText" "place" "I", .fieldLink RX0 27 "ShiftMaps$DriveText" "value" "I", .fieldLink RX0 30 "ShiftMaps$DriveText" "digits" "I"] ++ wsX00)
def wsX0_append : List Cond := .code yX0_append cX0_append 2 (some .boolean) :: ([.fieldLink RX0 13 "ShiftMaps$DriveText" "length" "I", .fieldLink RX0 9 "ShiftMaps$DriveText" "characters" "[C"] ++ wsX00)
def wsX0_length : List Cond := .code yX0_length cX0_length 1 (some .int) :: ([.fieldLink RX0 13 "ShiftMaps$DriveText" "length" "I"] ++ wsX00)
def wsX0_clear : List Cond := .code yX0_clear cX0_clear 1 none :: ([.fieldLink RX0 13 "ShiftMaps$DriveText" "length" "I"] ++ wsX00)
def wsX0_partCount : List Cond := .code yX0_partCount cX0_partCount 1 (some .int) :: ([.fieldLink RX0 21 "ShiftMaps$DriveText" "parts" "I"] ++ wsX00)
def wsX0_numberOf : List Cond := .code yX0_numberOf cX0_numberOf 4 (some .int) :: ([.fieldLink RX0 17 "ShiftMaps$DriveText" "numbers" "[I"] ++ wsX00)
def wsX0_speedOf : List Cond := .code yX0_speedOf cX0_speedOf 2 (some .int) :: ([.methodLink RX0 33 yX0_numberOf, .instanceMethod yX0_numberOf, .selects RX0 yX0_numberOf yX0_numberOf, .initialized RX0, .code yX0_numberOf cX0_numberOf 4 (some .int), .fieldLink RX0 17 "ShiftMaps$DriveText" "numbers" "[I"] ++ wsX00)
def wsX0_hundredthsOf : List Cond := .code yX0_hundredthsOf cX0_hundredthsOf 2 (some .int) :: ([.methodLink RX0 33 yX0_numberOf, .instanceMethod yX0_numberOf, .selects RX0 yX0_numberOf yX0_numberOf, .initialized RX0, .code yX0_numberOf cX0_numberOf 4 (some .int), .fieldLink RX0 17 "ShiftMaps$DriveText" "numbers" "[I"] ++ wsX00)
def wsX0_ticksOf : List Cond := .code yX0_ticksOf cX0_ticksOf 2 (some .int) :: ([.methodLink RX0 33 yX0_numberOf, .instanceMethod yX0_numberOf, .selects RX0 yX0_numberOf yX0_numberOf, .initialized RX0, .code yX0_numberOf cX0_numberOf 4 (some .int), .fieldLink RX0 17 "ShiftMaps$DriveText" "numbers" "[I"] ++ wsX00)
def wsX0_ticksOfAllParts : List Cond := .code yX0_ticksOfAllParts cX0_ticksOfAllParts 3 (some .int) :: ([.fieldLink RX0 21 "ShiftMaps$DriveText" "parts" "I", .methodLink RX0 37 yX0_ticksOf, .instanceMethod yX0_ticksOf, .selects RX0 yX0_ticksOf yX0_ticksOf, .initialized RX0, .code yX0_ticksOf cX0_ticksOf 2 (some .int), .methodLink RX0 33 yX0_numberOf, .instanceMethod yX0_numberOf, .selects RX0 yX0_numberOf yX0_numberOf, .code yX0_numberOf cX0_numberOf 4 (some .int), .fieldLink RX0 17 "ShiftMaps$DriveText" "numbers" "[I"] ++ wsX00)
def wsX0_expectNumber : List Cond := .code yX0_expectNumber cX0_expectNumber 2 none :: ([.fieldLink RX0 24 "ShiftMaps$DriveText" "place" "I", .fieldLink RX0 27 "ShiftMaps$DriveText" "value" "I", .fieldLink RX0 30 "ShiftMaps$DriveText" "digits" "I"] ++ wsX00)
def wsX0_putNumber : List Cond := .code yX0_putNumber cX0_putNumber 4 none :: ([.fieldLink RX0 21 "ShiftMaps$DriveText" "parts" "I", .fieldLink RX0 17 "ShiftMaps$DriveText" "numbers" "[I"] ++ wsX00)
def wsX0_endNumber : List Cond := .code yX0_endNumber cX0_endNumber 2 (some .boolean) :: ([.fieldLink RX0 30 "ShiftMaps$DriveText" "digits" "I", .fieldLink RX0 24 "ShiftMaps$DriveText" "place" "I", .fieldLink RX0 27 "ShiftMaps$DriveText" "value" "I", .methodLink RX0 63 yX0_putNumber, .instanceMethod yX0_putNumber, .selects RX0 yX0_putNumber yX0_putNumber, .initialized RX0, .code yX0_putNumber cX0_putNumber 4 none, .fieldLink RX0 21 "ShiftMaps$DriveText" "parts" "I", .fieldLink RX0 17 "ShiftMaps$DriveText" "numbers" "[I", .methodLink RX0 41 yX0_expectNumber, .instanceMethod yX0_expectNumber, .selects RX0 yX0_expectNumber yX0_expectNumber, .code yX0_expectNumber cX0_expectNumber 2 none] ++ wsX00)
def wsX0_endPart : List Cond := .code yX0_endPart cX0_endPart 2 (some .boolean) :: ([.fieldLink RX0 24 "ShiftMaps$DriveText" "place" "I", .fieldLink RX0 21 "ShiftMaps$DriveText" "parts" "I", .methodLink RX0 53 yX0_endNumber, .instanceMethod yX0_endNumber, .selects RX0 yX0_endNumber yX0_endNumber, .initialized RX0, .code yX0_endNumber cX0_endNumber 2 (some .boolean), .fieldLink RX0 30 "ShiftMaps$DriveText" "digits" "I", .fieldLink RX0 27 "ShiftMaps$DriveText" "value" "I", .methodLink RX0 63 yX0_putNumber, .instanceMethod yX0_putNumber, .selects RX0 yX0_putNumber yX0_putNumber, .code yX0_putNumber cX0_putNumber 4 none, .fieldLink RX0 17 "ShiftMaps$DriveText" "numbers" "[I", .methodLink RX0 41 yX0_expectNumber, .instanceMethod yX0_expectNumber, .selects RX0 yX0_expectNumber yX0_expectNumber, .code yX0_expectNumber cX0_expectNumber 2 none] ++ wsX00)
def wsX0_takesDigit : List Cond := .code yX0_takesDigit cX0_takesDigit 3 (some .boolean) :: ([.fieldLink RX0 30 "ShiftMaps$DriveText" "digits" "I", .fieldLink RX0 27 "ShiftMaps$DriveText" "value" "I", .fieldLink RX0 24 "ShiftMaps$DriveText" "place" "I", .fieldLink RX0 60 "ShiftMaps$DriveText" "GREATEST" "[I"] ++ wsX00)
def wsX0_takes_r1 : List Cond := [Cond.fieldLink RX0 24 "ShiftMaps$DriveText" "place" "I", Cond.methodLink RX0 53 yX0_endNumber, Cond.instanceMethod yX0_endNumber, Cond.selects RX0 yX0_endNumber yX0_endNumber, Cond.initialized RX0, Cond.code yX0_endNumber cX0_endNumber 2 (some .boolean), Cond.fieldLink RX0 30 "ShiftMaps$DriveText" "digits" "I", Cond.fieldLink RX0 27 "ShiftMaps$DriveText" "value" "I", Cond.methodLink RX0 63 yX0_putNumber, Cond.instanceMethod yX0_putNumber, Cond.selects RX0 yX0_putNumber yX0_putNumber, Cond.code yX0_putNumber cX0_putNumber 4 none, Cond.fieldLink RX0 21 "ShiftMaps$DriveText" "parts" "I", Cond.fieldLink RX0 17 "ShiftMaps$DriveText" "numbers" "[I", Cond.methodLink RX0 41 yX0_expectNumber, Cond.instanceMethod yX0_expectNumber, Cond.selects RX0 yX0_expectNumber yX0_expectNumber, Cond.code yX0_expectNumber cX0_expectNumber 2 none, Cond.methodLink RX0 49 yX0_endPart, Cond.instanceMethod yX0_endPart, Cond.selects RX0 yX0_endPart yX0_endPart, Cond.code yX0_endPart cX0_endPart 2 (some .boolean), Cond.methodLink RX0 57 yX0_takesDigit, Cond.instanceMethod yX0_takesDigit]
def wsX0_takes_r2 : List Cond := [Cond.selects RX0 yX0_takesDigit yX0_takesDigit, Cond.code yX0_takesDigit cX0_takesDigit 3 (some .boolean), Cond.fieldLink RX0 60 "ShiftMaps$DriveText" "GREATEST" "[I"]
def wsX0_takes : List Cond := .code yX0_takes cX0_takes 2 (some .boolean) :: ((wsX0_takes_r1 ++ wsX0_takes_r2) ++ wsX00)
def wsX0_read_r1 : List Cond := [Cond.fieldLink RX0 21 "ShiftMaps$DriveText" "parts" "I", Cond.fieldLink RX0 13 "ShiftMaps$DriveText" "length" "I", Cond.fieldLink RX0 9 "ShiftMaps$DriveText" "characters" "[C", Cond.methodLink RX0 41 yX0_expectNumber, Cond.instanceMethod yX0_expectNumber, Cond.selects RX0 yX0_expectNumber yX0_expectNumber, Cond.initialized RX0, Cond.code yX0_expectNumber cX0_expectNumber 2 none, Cond.fieldLink RX0 24 "ShiftMaps$DriveText" "place" "I", Cond.fieldLink RX0 27 "ShiftMaps$DriveText" "value" "I", Cond.fieldLink RX0 30 "ShiftMaps$DriveText" "digits" "I", Cond.methodLink RX0 45 yX0_takes, Cond.instanceMethod yX0_takes, Cond.selects RX0 yX0_takes yX0_takes, Cond.code yX0_takes cX0_takes 2 (some .boolean), Cond.methodLink RX0 53 yX0_endNumber, Cond.instanceMethod yX0_endNumber, Cond.selects RX0 yX0_endNumber yX0_endNumber, Cond.code yX0_endNumber cX0_endNumber 2 (some .boolean), Cond.methodLink RX0 63 yX0_putNumber, Cond.instanceMethod yX0_putNumber, Cond.selects RX0 yX0_putNumber yX0_putNumber, Cond.code yX0_putNumber cX0_putNumber 4 none, Cond.fieldLink RX0 17 "ShiftMaps$DriveText" "numbers" "[I"]
def wsX0_read_r2 : List Cond := [Cond.methodLink RX0 49 yX0_endPart, Cond.instanceMethod yX0_endPart, Cond.selects RX0 yX0_endPart yX0_endPart, Cond.code yX0_endPart cX0_endPart 2 (some .boolean), Cond.methodLink RX0 57 yX0_takesDigit, Cond.instanceMethod yX0_takesDigit, Cond.selects RX0 yX0_takesDigit yX0_takesDigit, Cond.code yX0_takesDigit cX0_takesDigit 3 (some .boolean), Cond.fieldLink RX0 60 "ShiftMaps$DriveText" "GREATEST" "[I"]
def wsX0_read : List Cond := .code yX0_read cX0_read 2 (some .int) :: ((wsX0_read_r1 ++ wsX0_read_r2) ++ wsX00)
def wsX3_init : List Cond := .code yX3_init cX3_init 2 none :: ([.methodLink RX3 3 objectInit, .instanceMethod objectInit, .code objectInit ⟨#[0xb1]⟩ 1 none, .fieldLink RX3 9 "ShiftMaps$Maps" "AT_FIRST" "[I", .arrayClass .float, .fieldLink RX3 15 "ShiftMaps$Maps" "speeds" "[F"] ++ wsX30)
def wsX2_init : List Cond := .code yX2_init cX2_init 1 none :: ([.methodLink RX2 3 objectInit, .instanceMethod objectInit, .code objectInit ⟨#[0xb1]⟩ 1 none, .arrayClass .int, .fieldLink RX2 11 "ShiftMaps$Log" "cells" "[I", .fieldLink RX2 15 "ShiftMaps$Log" "next" "I", .fieldLink RX2 19 "ShiftMaps$Log" "size" "I"] ++ wsX20)
def wsX4_init_r1 : List Cond := [Cond.methodLink RX4 3 objectInit, Cond.instanceMethod objectInit, Cond.code objectInit ⟨#[0xb1]⟩ 1 none, Cond.classLink RX4 9 RX3, Cond.instantiable RX3 1, Cond.initialized RX3, Cond.fieldLink RX4 12 "ShiftMaps$State" "maps" "LShiftMaps$Maps;", Cond.classLink RX4 18 RX2, Cond.instantiable RX2 3, Cond.initialized RX2, Cond.fieldLink RX4 21 "ShiftMaps$State" "log" "LShiftMaps$Log;", Cond.arrayClass .int, Cond.fieldLink RX4 25 "ShiftMaps$State" "counts" "[I", Cond.fieldLink RX4 29 "ShiftMaps$State" "SETTINGS_AT_FIRST" "[I", Cond.fieldLink RX4 32 "ShiftMaps$State" "settings" "[I", Cond.fieldLink RX4 35 "ShiftMaps$State" "gear" "I", Cond.fieldLink RX4 39 "ShiftMaps$State" "target" "I", Cond.fieldLink RX4 42 "ShiftMaps$State" "done" "I", Cond.fieldLink RX4 45 "ShiftMaps$State" "held" "I", Cond.fieldLink RX4 48 "ShiftMaps$State" "handMode" "Z", Cond.fieldLink RX4 52 "ShiftMaps$State" "latestSpeed" "F", Cond.fieldLink RX4 56 "ShiftMaps$State" "latestPedal" "F", Cond.methodLink RX4 59 arraycopyName, Cond.native arraycopyName]
def wsX4_init_r2 : List Cond := [Cond.static arraycopyName, Cond.initialized "java/lang/System", Cond.methodLink RX4 11 yX3_init, Cond.instanceMethod yX3_init, Cond.code yX3_init cX3_init 2 none, Cond.methodLink RX3 3 objectInit, Cond.fieldLink RX3 9 "ShiftMaps$Maps" "AT_FIRST" "[I", Cond.arrayClass .float, Cond.fieldLink RX3 15 "ShiftMaps$Maps" "speeds" "[F", Cond.instanceMethod yX2_init, Cond.code yX2_init cX2_init 1 none, Cond.methodLink RX2 3 objectInit, Cond.fieldLink RX2 11 "ShiftMaps$Log" "cells" "[I", Cond.fieldLink RX2 15 "ShiftMaps$Log" "next" "I", Cond.fieldLink RX2 19 "ShiftMaps$Log" "size" "I"]
def wsX4_init : List Cond := .code yX4_init cX4_init 1 none :: ((wsX4_init_r1 ++ wsX4_init_r2) ++ wsX30 ++ wsX40 ++ wsX20)
def wsX1_init_r1 : List Cond := [Cond.methodLink RX1 1 objectInit, Cond.instanceMethod objectInit, Cond.code objectInit ⟨#[0xb1]⟩ 1 none, Cond.classLink RX1 9 RX4, Cond.fieldLink RX1 11 "ShiftMaps$History" "states" "[LShiftMaps$State;", Cond.fieldLink RX1 15 "ShiftMaps$History" "next" "I", Cond.fieldLink RX1 19 "ShiftMaps$History" "size" "I", Cond.instantiable RX4 11, Cond.initialized RX4, Cond.methodLink RX1 22 yX4_init, Cond.instanceMethod yX4_init, Cond.code yX4_init cX4_init 1 none, Cond.methodLink RX4 3 objectInit, Cond.classLink RX4 9 RX3, Cond.instantiable RX3 1, Cond.initialized RX3, Cond.fieldLink RX4 12 "ShiftMaps$State" "maps" "LShiftMaps$Maps;", Cond.classLink RX4 18 RX2, Cond.instantiable RX2 3, Cond.initialized RX2, Cond.fieldLink RX4 21 "ShiftMaps$State" "log" "LShiftMaps$Log;", Cond.arrayClass .int, Cond.fieldLink RX4 25 "ShiftMaps$State" "counts" "[I", Cond.fieldLink RX4 29 "ShiftMaps$State" "SETTINGS_AT_FIRST" "[I"]
def wsX1_init_r2 : List Cond := [Cond.fieldLink RX4 32 "ShiftMaps$State" "settings" "[I", Cond.fieldLink RX4 35 "ShiftMaps$State" "gear" "I", Cond.fieldLink RX4 39 "ShiftMaps$State" "target" "I", Cond.fieldLink RX4 42 "ShiftMaps$State" "done" "I", Cond.fieldLink RX4 45 "ShiftMaps$State" "held" "I", Cond.fieldLink RX4 48 "ShiftMaps$State" "handMode" "Z", Cond.fieldLink RX4 52 "ShiftMaps$State" "latestSpeed" "F", Cond.fieldLink RX4 56 "ShiftMaps$State" "latestPedal" "F", Cond.methodLink RX4 59 arraycopyName, Cond.native arraycopyName, Cond.static arraycopyName, Cond.initialized "java/lang/System", Cond.methodLink RX4 11 yX3_init, Cond.instanceMethod yX3_init, Cond.code yX3_init cX3_init 2 none, Cond.methodLink RX3 3 objectInit, Cond.fieldLink RX3 9 "ShiftMaps$Maps" "AT_FIRST" "[I", Cond.arrayClass .float, Cond.fieldLink RX3 15 "ShiftMaps$Maps" "speeds" "[F", Cond.instanceMethod yX2_init, Cond.code yX2_init cX2_init 1 none, Cond.methodLink RX2 3 objectInit, Cond.fieldLink RX2 11 "ShiftMaps$Log" "cells" "[I", Cond.fieldLink RX2 15 "ShiftMaps$Log" "next" "I"]
def wsX1_init_r3 : List Cond := [Cond.fieldLink RX2 19 "ShiftMaps$Log" "size" "I"]
def wsX1_init : List Cond := .code yX1_init cX1_init 2 none :: ((wsX1_init_r1 ++ (wsX1_init_r2 ++ wsX1_init_r3)) ++ wsX10 ++ wsX40 ++ wsX30 ++ wsX20)
def wsX1_size : List Cond := .code yX1_size cX1_size 1 (some .int) :: ([.fieldLink RX1 19 "ShiftMaps$History" "size" "I"] ++ wsX10)
def wsX1_rowAt : List Cond := .code yX1_rowAt cX1_rowAt 2 (some (.object "ShiftMaps$State")) :: ([.fieldLink RX1 11 "ShiftMaps$History" "states" "[LShiftMaps$State;"] ++ wsX10)
def wsX3_copyFrom : List Cond := .code yX3_copyFrom cX3_copyFrom 2 none :: ([.fieldLink RX3 15 "ShiftMaps$Maps" "speeds" "[F", .methodLink RX3 31 arraycopyName, .native arraycopyName, .static arraycopyName, .initialized "java/lang/System"] ++ wsX30)
def wsX2_copyFrom : List Cond := .code yX2_copyFrom cX2_copyFrom 2 none :: ([.fieldLink RX2 11 "ShiftMaps$Log" "cells" "[I", .methodLink RX2 28 arraycopyName, .native arraycopyName, .static arraycopyName, .initialized "java/lang/System", .fieldLink RX2 15 "ShiftMaps$Log" "next" "I", .fieldLink RX2 19 "ShiftMaps$Log" "size" "I"] ++ wsX20)
def wsX4_copyFrom_r1 : List Cond := [Cond.fieldLink RX4 12 "ShiftMaps$State" "maps" "LShiftMaps$Maps;", Cond.fieldLink RX4 21 "ShiftMaps$State" "log" "LShiftMaps$Log;", Cond.fieldLink RX4 25 "ShiftMaps$State" "counts" "[I", Cond.methodLink RX4 59 arraycopyName, Cond.native arraycopyName, Cond.static arraycopyName, Cond.initialized "java/lang/System", Cond.fieldLink RX4 32 "ShiftMaps$State" "settings" "[I", Cond.fieldLink RX4 35 "ShiftMaps$State" "gear" "I", Cond.fieldLink RX4 39 "ShiftMaps$State" "target" "I", Cond.fieldLink RX4 42 "ShiftMaps$State" "done" "I", Cond.fieldLink RX4 45 "ShiftMaps$State" "held" "I", Cond.fieldLink RX4 48 "ShiftMaps$State" "handMode" "Z", Cond.fieldLink RX4 52 "ShiftMaps$State" "latestSpeed" "F", Cond.fieldLink RX4 56 "ShiftMaps$State" "latestPedal" "F", Cond.methodLink RX4 65 yX3_copyFrom, Cond.instanceMethod yX3_copyFrom, Cond.selects RX3 yX3_copyFrom yX3_copyFrom, Cond.initialized RX3, Cond.code yX3_copyFrom cX3_copyFrom 2 none, Cond.fieldLink RX3 15 "ShiftMaps$Maps" "speeds" "[F", Cond.methodLink RX3 31 arraycopyName, Cond.methodLink RX4 69 yX2_copyFrom, Cond.instanceMethod yX2_copyFrom]
def wsX4_copyFrom_r2 : List Cond := [Cond.selects RX2 yX2_copyFrom yX2_copyFrom, Cond.initialized RX2, Cond.code yX2_copyFrom cX2_copyFrom 2 none, Cond.fieldLink RX2 11 "ShiftMaps$Log" "cells" "[I", Cond.methodLink RX2 28 arraycopyName, Cond.fieldLink RX2 15 "ShiftMaps$Log" "next" "I", Cond.fieldLink RX2 19 "ShiftMaps$Log" "size" "I"]
def wsX4_copyFrom : List Cond := .code yX4_copyFrom cX4_copyFrom 2 none :: ((wsX4_copyFrom_r1 ++ wsX4_copyFrom_r2) ++ wsX40 ++ wsX30 ++ wsX20)
def wsX1_record_r1 : List Cond := [Cond.fieldLink RX1 15 "ShiftMaps$History" "next" "I", Cond.fieldLink RX1 19 "ShiftMaps$History" "size" "I", Cond.methodLink RX1 31 Lib.Math.min.name, Cond.static Lib.Math.min.name, Cond.initialized "java/lang/Math", Cond.code Lib.Math.min.name Lib.Math.min.code 2 (some .int), Cond.methodLink RX1 23 yX1_rowAt, Cond.instanceMethod yX1_rowAt, Cond.selects RX1 yX1_rowAt yX1_rowAt, Cond.initialized RX1, Cond.code yX1_rowAt cX1_rowAt 2 (some (.object "ShiftMaps$State")), Cond.fieldLink RX1 11 "ShiftMaps$History" "states" "[LShiftMaps$State;", Cond.methodLink RX1 27 yX4_copyFrom, Cond.instanceMethod yX4_copyFrom, Cond.selects RX4 yX4_copyFrom yX4_copyFrom, Cond.initialized RX4, Cond.code yX4_copyFrom cX4_copyFrom 2 none, Cond.fieldLink RX4 12 "ShiftMaps$State" "maps" "LShiftMaps$Maps;", Cond.fieldLink RX4 21 "ShiftMaps$State" "log" "LShiftMaps$Log;", Cond.fieldLink RX4 25 "ShiftMaps$State" "counts" "[I", Cond.methodLink RX4 59 arraycopyName, Cond.native arraycopyName, Cond.static arraycopyName, Cond.initialized "java/lang/System"]
def wsX1_record_r2 : List Cond := [Cond.fieldLink RX4 32 "ShiftMaps$State" "settings" "[I", Cond.fieldLink RX4 35 "ShiftMaps$State" "gear" "I", Cond.fieldLink RX4 39 "ShiftMaps$State" "target" "I", Cond.fieldLink RX4 42 "ShiftMaps$State" "done" "I", Cond.fieldLink RX4 45 "ShiftMaps$State" "held" "I", Cond.fieldLink RX4 48 "ShiftMaps$State" "handMode" "Z", Cond.fieldLink RX4 52 "ShiftMaps$State" "latestSpeed" "F", Cond.fieldLink RX4 56 "ShiftMaps$State" "latestPedal" "F", Cond.methodLink RX4 65 yX3_copyFrom, Cond.instanceMethod yX3_copyFrom, Cond.selects RX3 yX3_copyFrom yX3_copyFrom, Cond.initialized RX3, Cond.code yX3_copyFrom cX3_copyFrom 2 none, Cond.fieldLink RX3 15 "ShiftMaps$Maps" "speeds" "[F", Cond.methodLink RX3 31 arraycopyName, Cond.methodLink RX4 69 yX2_copyFrom, Cond.instanceMethod yX2_copyFrom, Cond.selects RX2 yX2_copyFrom yX2_copyFrom, Cond.initialized RX2, Cond.code yX2_copyFrom cX2_copyFrom 2 none, Cond.fieldLink RX2 11 "ShiftMaps$Log" "cells" "[I", Cond.methodLink RX2 28 arraycopyName, Cond.fieldLink RX2 15 "ShiftMaps$Log" "next" "I", Cond.fieldLink RX2 19 "ShiftMaps$Log" "size" "I"]
def wsX1_record : List Cond := .code yX1_record cX1_record 3 none :: ((wsX1_record_r1 ++ wsX1_record_r2) ++ wsX10 ++ wsX40 ++ wsX30 ++ wsX20)
def wsX1_takeLatestInto_r1 : List Cond := [Cond.fieldLink RX1 15 "ShiftMaps$History" "next" "I", Cond.fieldLink RX1 19 "ShiftMaps$History" "size" "I", Cond.methodLink RX1 23 yX1_rowAt, Cond.instanceMethod yX1_rowAt, Cond.selects RX1 yX1_rowAt yX1_rowAt, Cond.initialized RX1, Cond.code yX1_rowAt cX1_rowAt 2 (some (.object "ShiftMaps$State")), Cond.fieldLink RX1 11 "ShiftMaps$History" "states" "[LShiftMaps$State;", Cond.methodLink RX1 27 yX4_copyFrom, Cond.instanceMethod yX4_copyFrom, Cond.selects RX4 yX4_copyFrom yX4_copyFrom, Cond.initialized RX4, Cond.code yX4_copyFrom cX4_copyFrom 2 none, Cond.fieldLink RX4 12 "ShiftMaps$State" "maps" "LShiftMaps$Maps;", Cond.fieldLink RX4 21 "ShiftMaps$State" "log" "LShiftMaps$Log;", Cond.fieldLink RX4 25 "ShiftMaps$State" "counts" "[I", Cond.methodLink RX4 59 arraycopyName, Cond.native arraycopyName, Cond.static arraycopyName, Cond.initialized "java/lang/System", Cond.fieldLink RX4 32 "ShiftMaps$State" "settings" "[I", Cond.fieldLink RX4 35 "ShiftMaps$State" "gear" "I", Cond.fieldLink RX4 39 "ShiftMaps$State" "target" "I", Cond.fieldLink RX4 42 "ShiftMaps$State" "done" "I"]
def wsX1_takeLatestInto_r2 : List Cond := [Cond.fieldLink RX4 45 "ShiftMaps$State" "held" "I", Cond.fieldLink RX4 48 "ShiftMaps$State" "handMode" "Z", Cond.fieldLink RX4 52 "ShiftMaps$State" "latestSpeed" "F", Cond.fieldLink RX4 56 "ShiftMaps$State" "latestPedal" "F", Cond.methodLink RX4 65 yX3_copyFrom, Cond.instanceMethod yX3_copyFrom, Cond.selects RX3 yX3_copyFrom yX3_copyFrom, Cond.initialized RX3, Cond.code yX3_copyFrom cX3_copyFrom 2 none, Cond.fieldLink RX3 15 "ShiftMaps$Maps" "speeds" "[F", Cond.methodLink RX3 31 arraycopyName, Cond.methodLink RX4 69 yX2_copyFrom, Cond.instanceMethod yX2_copyFrom, Cond.selects RX2 yX2_copyFrom yX2_copyFrom, Cond.initialized RX2, Cond.code yX2_copyFrom cX2_copyFrom 2 none, Cond.fieldLink RX2 11 "ShiftMaps$Log" "cells" "[I", Cond.methodLink RX2 28 arraycopyName, Cond.fieldLink RX2 15 "ShiftMaps$Log" "next" "I", Cond.fieldLink RX2 19 "ShiftMaps$Log" "size" "I"]
def wsX1_takeLatestInto : List Cond := .code yX1_takeLatestInto cX1_takeLatestInto 4 (some .boolean) :: ((wsX1_takeLatestInto_r1 ++ wsX1_takeLatestInto_r2) ++ wsX10 ++ wsX40 ++ wsX30 ++ wsX20)
def wsX2_add : List Cond := .code yX2_add cX2_add 7 none :: ([.fieldLink RX2 15 "ShiftMaps$Log" "next" "I", .fieldLink RX2 11 "ShiftMaps$Log" "cells" "[I", .fieldLink RX2 19 "ShiftMaps$Log" "size" "I", .methodLink RX2 22 Lib.Math.min.name, .static Lib.Math.min.name, .initialized "java/lang/Math", .code Lib.Math.min.name Lib.Math.min.code 2 (some .int)] ++ wsX20)
def wsX2_told : List Cond := .code yX2_told cX2_told 5 (some .int) :: ([.fieldLink RX2 19 "ShiftMaps$Log" "size" "I", .fieldLink RX2 15 "ShiftMaps$Log" "next" "I", .fieldLink RX2 11 "ShiftMaps$Log" "cells" "[I"] ++ wsX20)
def wsX3_has : List Cond := .code yX3_has cX3_has 2 (some .boolean) :: ([])
def wsX3_speed : List Cond := .code yX3_speed cX3_speed 4 (some .float) :: ([.fieldLink RX3 15 "ShiftMaps$Maps" "speeds" "[F"] ++ wsX30)
def wsX3_put : List Cond := .code yX3_put cX3_put 4 none :: ([.fieldLink RX3 15 "ShiftMaps$Maps" "speeds" "[F", .methodLink RX3 19 yX3_has, .static yX3_has, .initialized RX3, .code yX3_has cX3_has 2 (some .boolean)] ++ wsX30)
def wsX3_upFrom : List Cond := .code yX3_upFrom cX3_upFrom 4 (some .float) :: ([.methodLink RX3 23 yX3_speed, .instanceMethod yX3_speed, .selects RX3 yX3_speed yX3_speed, .initialized RX3, .code yX3_speed cX3_speed 4 (some .float), .fieldLink RX3 15 "ShiftMaps$Maps" "speeds" "[F"] ++ wsX30)
def wsX3_downTo : List Cond := .code yX3_downTo cX3_downTo 3 (some .float) :: ([.methodLink RX3 27 yX3_upFrom, .instanceMethod yX3_upFrom, .selects RX3 yX3_upFrom yX3_upFrom, .initialized RX3, .code yX3_upFrom cX3_upFrom 4 (some .float), .methodLink RX3 23 yX3_speed, .instanceMethod yX3_speed, .selects RX3 yX3_speed yX3_speed, .code yX3_speed cX3_speed 4 (some .float), .fieldLink RX3 15 "ShiftMaps$Maps" "speeds" "[F"] ++ wsX30)
def wsX3_exceeds : List Cond := .code yX3_exceeds cX3_exceeds 3 (some .boolean) :: ([.methodLink RX3 23 yX3_speed, .instanceMethod yX3_speed, .selects RX3 yX3_speed yX3_speed, .initialized RX3, .code yX3_speed cX3_speed 4 (some .float), .fieldLink RX3 15 "ShiftMaps$Maps" "speeds" "[F"] ++ wsX30)
def wsX4_setting : List Cond := .code yX4_setting cX4_setting 2 (some .int) :: ([.fieldLink RX4 32 "ShiftMaps$State" "settings" "[I"] ++ wsX40)
def wsX4_putSetting : List Cond := .code yX4_putSetting cX4_putSetting 3 none :: ([.fieldLink RX4 32 "ShiftMaps$State" "settings" "[I"] ++ wsX40)
def wsX4_allows : List Cond := .code yX4_allows cX4_allows 3 (some .boolean) :: ([.methodLink RX4 72 yX4_setting, .instanceMethod yX4_setting, .selects RX4 yX4_setting yX4_setting, .initialized RX4, .code yX4_setting cX4_setting 2 (some .int), .fieldLink RX4 32 "ShiftMaps$State" "settings" "[I"] ++ wsX40)
def wsX4_counted : List Cond := .code yX4_counted cX4_counted 2 (some .int) :: ([.fieldLink RX4 25 "ShiftMaps$State" "counts" "[I"] ++ wsX40)
def wsX4_countOneMore : List Cond := .code yX4_countOneMore cX4_countOneMore 2 none :: ([.fieldLink RX4 25 "ShiftMaps$State" "counts" "[I"] ++ wsX40)
def wsX4_tick : List Cond := .code yX4_tick cX4_tick 1 (some .int) :: ([.methodLink RX4 76 yX4_counted, .instanceMethod yX4_counted, .selects RX4 yX4_counted yX4_counted, .initialized RX4, .code yX4_counted cX4_counted 2 (some .int), .fieldLink RX4 25 "ShiftMaps$State" "counts" "[I"] ++ wsX40)
def wsX4_isChanging : List Cond := .code yX4_isChanging cX4_isChanging 1 (some .boolean) :: ([.fieldLink RX4 39 "ShiftMaps$State" "target" "I"] ++ wsX40)
def wsX4_goOnWithChange : List Cond := .code yX4_goOnWithChange cX4_goOnWithChange 1 none :: ([.fieldLink RX4 42 "ShiftMaps$State" "done" "I", .fieldLink RX4 39 "ShiftMaps$State" "target" "I", .fieldLink RX4 35 "ShiftMaps$State" "gear" "I", .methodLink RX4 86 yX4_isChanging, .instanceMethod yX4_isChanging, .selects RX4 yX4_isChanging yX4_isChanging, .initialized RX4, .code yX4_isChanging cX4_isChanging 1 (some .boolean), .methodLink RX4 72 yX4_setting, .instanceMethod yX4_setting, .selects RX4 yX4_setting yX4_setting, .code yX4_setting cX4_setting 2 (some .int), .fieldLink RX4 32 "ShiftMaps$State" "settings" "[I"] ++ wsX40)
def wsX4_isDeep : List Cond := .code yX4_isDeep cX4_isDeep 1 (some .boolean) :: ([.constantFloat RX4 124 (1064514355)])
def wsX4_kickdownGear : List Cond := .code yX4_kickdownGear cX4_kickdownGear 3 (some .int) :: ([.fieldLink RX4 35 "ShiftMaps$State" "gear" "I", .methodLink RX4 125 Lib.Math.max.name, .static Lib.Math.max.name, .initialized "java/lang/Math", .code Lib.Math.max.name Lib.Math.max.code 2 (some .int), .fieldLink RX4 12 "ShiftMaps$State" "maps" "LShiftMaps$Maps;", .methodLink RX4 105 yX3_exceeds, .instanceMethod yX3_exceeds, .selects RX3 yX3_exceeds yX3_exceeds, .initialized RX3, .code yX3_exceeds cX3_exceeds 3 (some .boolean), .methodLink RX3 23 yX3_speed, .instanceMethod yX3_speed, .selects RX3 yX3_speed yX3_speed, .code yX3_speed cX3_speed 4 (some .float), .fieldLink RX3 15 "ShiftMaps$Maps" "speeds" "[F"] ++ wsX40 ++ wsX30)
def wsX4_reasonToChange_r1 : List Cond := [Cond.fieldLink RX4 35 "ShiftMaps$State" "gear" "I", Cond.fieldLink RX4 12 "ShiftMaps$State" "maps" "LShiftMaps$Maps;", Cond.fieldLink RX4 56 "ShiftMaps$State" "latestPedal" "F", Cond.fieldLink RX4 48 "ShiftMaps$State" "handMode" "Z", Cond.fieldLink RX4 45 "ShiftMaps$State" "held" "I", Cond.methodLink RX4 105 yX3_exceeds, Cond.instanceMethod yX3_exceeds, Cond.selects RX3 yX3_exceeds yX3_exceeds, Cond.initialized RX3, Cond.code yX3_exceeds cX3_exceeds 3 (some .boolean), Cond.methodLink RX3 23 yX3_speed, Cond.instanceMethod yX3_speed, Cond.selects RX3 yX3_speed yX3_speed, Cond.code yX3_speed cX3_speed 4 (some .float), Cond.fieldLink RX3 15 "ShiftMaps$Maps" "speeds" "[F", Cond.methodLink RX4 109 yX4_isDeep, Cond.static yX4_isDeep, Cond.initialized RX4, Cond.code yX4_isDeep cX4_isDeep 1 (some .boolean), Cond.constantFloat RX4 124 (1064514355), Cond.methodLink RX4 113 yX4_kickdownGear, Cond.instanceMethod yX4_kickdownGear, Cond.selects RX4 yX4_kickdownGear yX4_kickdownGear, Cond.code yX4_kickdownGear cX4_kickdownGear 3 (some .int)]
def wsX4_reasonToChange_r2 : List Cond := [Cond.methodLink RX4 125 Lib.Math.max.name, Cond.static Lib.Math.max.name, Cond.initialized "java/lang/Math", Cond.code Lib.Math.max.name Lib.Math.max.code 2 (some .int), Cond.methodLink RX4 117 yX3_upFrom, Cond.instanceMethod yX3_upFrom, Cond.selects RX3 yX3_upFrom yX3_upFrom, Cond.code yX3_upFrom cX3_upFrom 4 (some .float), Cond.methodLink RX4 121 yX3_downTo, Cond.instanceMethod yX3_downTo, Cond.selects RX3 yX3_downTo yX3_downTo, Cond.code yX3_downTo cX3_downTo 3 (some .float), Cond.methodLink RX3 27 yX3_upFrom]
def wsX4_reasonToChange : List Cond := .code yX4_reasonToChange cX4_reasonToChange 3 (some .int) :: ((wsX4_reasonToChange_r1 ++ wsX4_reasonToChange_r2) ++ wsX40 ++ wsX30)
def wsX4_gearChosenBy : List Cond := .code yX4_gearChosenBy cX4_gearChosenBy 3 (some .int) :: ([.fieldLink RX4 35 "ShiftMaps$State" "gear" "I", .methodLink RX4 113 yX4_kickdownGear, .instanceMethod yX4_kickdownGear, .selects RX4 yX4_kickdownGear yX4_kickdownGear, .initialized RX4, .code yX4_kickdownGear cX4_kickdownGear 3 (some .int), .methodLink RX4 125 Lib.Math.max.name, .static Lib.Math.max.name, .initialized "java/lang/Math", .code Lib.Math.max.name Lib.Math.max.code 2 (some .int), .fieldLink RX4 12 "ShiftMaps$State" "maps" "LShiftMaps$Maps;", .methodLink RX4 105 yX3_exceeds, .instanceMethod yX3_exceeds, .selects RX3 yX3_exceeds yX3_exceeds, .initialized RX3, .code yX3_exceeds cX3_exceeds 3 (some .boolean), .methodLink RX3 23 yX3_speed, .instanceMethod yX3_speed, .selects RX3 yX3_speed yX3_speed, .code yX3_speed cX3_speed 4 (some .float), .fieldLink RX3 15 "ShiftMaps$Maps" "speeds" "[F"] ++ wsX40 ++ wsX30)
def wsX4_swings : List Cond := .code yX4_swings cX4_swings 3 (some .boolean) :: ([.fieldLink RX4 21 "ShiftMaps$State" "log" "LShiftMaps$Log;", .methodLink RX4 147 yX2_told, .instanceMethod yX2_told, .selects RX2 yX2_told yX2_told, .initialized RX2, .code yX2_told cX2_told 5 (some .int), .fieldLink RX2 19 "ShiftMaps$Log" "size" "I", .fieldLink RX2 15 "ShiftMaps$Log" "next" "I", .fieldLink RX2 11 "ShiftMaps$Log" "cells" "[I", .methodLink RX4 139 yX4_tick, .instanceMethod yX4_tick, .selects RX4 yX4_tick yX4_tick, .initialized RX4, .code yX4_tick cX4_tick 1 (some .int), .methodLink RX4 76 yX4_counted, .instanceMethod yX4_counted, .selects RX4 yX4_counted yX4_counted, .code yX4_counted cX4_counted 2 (some .int), .fieldLink RX4 25 "ShiftMaps$State" "counts" "[I", .methodLink RX4 72 yX4_setting, .instanceMethod yX4_setting, .selects RX4 yX4_setting yX4_setting, .code yX4_setting cX4_setting 2 (some .int), .fieldLink RX4 32 "ShiftMaps$State" "settings" "[I"] ++ wsX40 ++ wsX20)
def wsX4_begin_r1 : List Cond := [Cond.fieldLink RX4 21 "ShiftMaps$State" "log" "LShiftMaps$Log;", Cond.fieldLink RX4 35 "ShiftMaps$State" "gear" "I", Cond.fieldLink RX4 39 "ShiftMaps$State" "target" "I", Cond.fieldLink RX4 42 "ShiftMaps$State" "done" "I", Cond.fieldLink RX4 45 "ShiftMaps$State" "held" "I", Cond.methodLink RX4 135 yX4_swings, Cond.instanceMethod yX4_swings, Cond.selects RX4 yX4_swings yX4_swings, Cond.initialized RX4, Cond.code yX4_swings cX4_swings 3 (some .boolean), Cond.methodLink RX4 147 yX2_told, Cond.instanceMethod yX2_told, Cond.selects RX2 yX2_told yX2_told, Cond.initialized RX2, Cond.code yX2_told cX2_told 5 (some .int), Cond.fieldLink RX2 19 "ShiftMaps$Log" "size" "I", Cond.fieldLink RX2 15 "ShiftMaps$Log" "next" "I", Cond.fieldLink RX2 11 "ShiftMaps$Log" "cells" "[I", Cond.methodLink RX4 139 yX4_tick, Cond.instanceMethod yX4_tick, Cond.selects RX4 yX4_tick yX4_tick, Cond.code yX4_tick cX4_tick 1 (some .int), Cond.methodLink RX4 76 yX4_counted, Cond.instanceMethod yX4_counted]
def wsX4_begin_r2 : List Cond := [Cond.selects RX4 yX4_counted yX4_counted, Cond.code yX4_counted cX4_counted 2 (some .int), Cond.fieldLink RX4 25 "ShiftMaps$State" "counts" "[I", Cond.methodLink RX4 72 yX4_setting, Cond.instanceMethod yX4_setting, Cond.selects RX4 yX4_setting yX4_setting, Cond.code yX4_setting cX4_setting 2 (some .int), Cond.fieldLink RX4 32 "ShiftMaps$State" "settings" "[I", Cond.methodLink RX4 143 yX2_add, Cond.instanceMethod yX2_add, Cond.selects RX2 yX2_add yX2_add, Cond.code yX2_add cX2_add 7 none, Cond.methodLink RX2 22 Lib.Math.min.name, Cond.static Lib.Math.min.name, Cond.initialized "java/lang/Math", Cond.code Lib.Math.min.name Lib.Math.min.code 2 (some .int), Cond.methodLink RX4 131 yX4_countOneMore, Cond.instanceMethod yX4_countOneMore, Cond.selects RX4 yX4_countOneMore yX4_countOneMore, Cond.code yX4_countOneMore cX4_countOneMore 2 none]
def wsX4_begin : List Cond := .code yX4_begin cX4_begin 4 none :: ((wsX4_begin_r1 ++ wsX4_begin_r2) ++ wsX40 ++ wsX20)
def wsX4_countTick : List Cond := .code yX4_countTick cX4_countTick 1 none :: ([.fieldLink RX4 35 "ShiftMaps$State" "gear" "I", .methodLink RX4 131 yX4_countOneMore, .instanceMethod yX4_countOneMore, .selects RX4 yX4_countOneMore yX4_countOneMore, .initialized RX4, .code yX4_countOneMore cX4_countOneMore 2 none, .fieldLink RX4 25 "ShiftMaps$State" "counts" "[I", .methodLink RX4 86 yX4_isChanging, .instanceMethod yX4_isChanging, .selects RX4 yX4_isChanging yX4_isChanging, .code yX4_isChanging cX4_isChanging 1 (some .boolean), .fieldLink RX4 39 "ShiftMaps$State" "target" "I"] ++ wsX40)
def wsX4_passTick_r1 : List Cond := [Cond.fieldLink RX4 45 "ShiftMaps$State" "held" "I", Cond.fieldLink RX4 52 "ShiftMaps$State" "latestSpeed" "F", Cond.fieldLink RX4 56 "ShiftMaps$State" "latestPedal" "F", Cond.methodLink RX4 83 yX4_goOnWithChange, Cond.instanceMethod yX4_goOnWithChange, Cond.selects RX4 yX4_goOnWithChange yX4_goOnWithChange, Cond.initialized RX4, Cond.code yX4_goOnWithChange cX4_goOnWithChange 1 none, Cond.fieldLink RX4 42 "ShiftMaps$State" "done" "I", Cond.fieldLink RX4 39 "ShiftMaps$State" "target" "I", Cond.fieldLink RX4 35 "ShiftMaps$State" "gear" "I", Cond.methodLink RX4 86 yX4_isChanging, Cond.instanceMethod yX4_isChanging, Cond.selects RX4 yX4_isChanging yX4_isChanging, Cond.code yX4_isChanging cX4_isChanging 1 (some .boolean), Cond.methodLink RX4 72 yX4_setting, Cond.instanceMethod yX4_setting, Cond.selects RX4 yX4_setting yX4_setting, Cond.code yX4_setting cX4_setting 2 (some .int), Cond.fieldLink RX4 32 "ShiftMaps$State" "settings" "[I", Cond.methodLink RX4 90 yX4_reasonToChange, Cond.instanceMethod yX4_reasonToChange, Cond.selects RX4 yX4_reasonToChange yX4_reasonToChange, Cond.code yX4_reasonToChange cX4_reasonToChange 3 (some .int)]
def wsX4_passTick_r2 : List Cond := [Cond.fieldLink RX4 12 "ShiftMaps$State" "maps" "LShiftMaps$Maps;", Cond.fieldLink RX4 48 "ShiftMaps$State" "handMode" "Z", Cond.methodLink RX4 105 yX3_exceeds, Cond.instanceMethod yX3_exceeds, Cond.selects RX3 yX3_exceeds yX3_exceeds, Cond.initialized RX3, Cond.code yX3_exceeds cX3_exceeds 3 (some .boolean), Cond.methodLink RX3 23 yX3_speed, Cond.instanceMethod yX3_speed, Cond.selects RX3 yX3_speed yX3_speed, Cond.code yX3_speed cX3_speed 4 (some .float), Cond.fieldLink RX3 15 "ShiftMaps$Maps" "speeds" "[F", Cond.methodLink RX4 109 yX4_isDeep, Cond.static yX4_isDeep, Cond.code yX4_isDeep cX4_isDeep 1 (some .boolean), Cond.constantFloat RX4 124 (1064514355), Cond.methodLink RX4 113 yX4_kickdownGear, Cond.instanceMethod yX4_kickdownGear, Cond.selects RX4 yX4_kickdownGear yX4_kickdownGear, Cond.code yX4_kickdownGear cX4_kickdownGear 3 (some .int), Cond.methodLink RX4 125 Lib.Math.max.name, Cond.static Lib.Math.max.name, Cond.initialized "java/lang/Math", Cond.code Lib.Math.max.name Lib.Math.max.code 2 (some .int)]
def wsX4_passTick_r3 : List Cond := [Cond.methodLink RX4 117 yX3_upFrom, Cond.instanceMethod yX3_upFrom, Cond.selects RX3 yX3_upFrom yX3_upFrom, Cond.code yX3_upFrom cX3_upFrom 4 (some .float), Cond.methodLink RX4 121 yX3_downTo, Cond.instanceMethod yX3_downTo, Cond.selects RX3 yX3_downTo yX3_downTo, Cond.code yX3_downTo cX3_downTo 3 (some .float), Cond.methodLink RX3 27 yX3_upFrom, Cond.methodLink RX4 94 yX4_gearChosenBy, Cond.instanceMethod yX4_gearChosenBy, Cond.selects RX4 yX4_gearChosenBy yX4_gearChosenBy, Cond.code yX4_gearChosenBy cX4_gearChosenBy 3 (some .int), Cond.methodLink RX4 98 yX4_begin, Cond.instanceMethod yX4_begin, Cond.selects RX4 yX4_begin yX4_begin, Cond.code yX4_begin cX4_begin 4 none, Cond.fieldLink RX4 21 "ShiftMaps$State" "log" "LShiftMaps$Log;", Cond.methodLink RX4 135 yX4_swings, Cond.instanceMethod yX4_swings, Cond.selects RX4 yX4_swings yX4_swings, Cond.code yX4_swings cX4_swings 3 (some .boolean), Cond.methodLink RX4 147 yX2_told, Cond.instanceMethod yX2_told]
def wsX4_passTick_r4 : List Cond := [Cond.selects RX2 yX2_told yX2_told, Cond.initialized RX2, Cond.code yX2_told cX2_told 5 (some .int), Cond.fieldLink RX2 19 "ShiftMaps$Log" "size" "I", Cond.fieldLink RX2 15 "ShiftMaps$Log" "next" "I", Cond.fieldLink RX2 11 "ShiftMaps$Log" "cells" "[I", Cond.methodLink RX4 139 yX4_tick, Cond.instanceMethod yX4_tick, Cond.selects RX4 yX4_tick yX4_tick, Cond.code yX4_tick cX4_tick 1 (some .int), Cond.methodLink RX4 76 yX4_counted, Cond.instanceMethod yX4_counted, Cond.selects RX4 yX4_counted yX4_counted, Cond.code yX4_counted cX4_counted 2 (some .int), Cond.fieldLink RX4 25 "ShiftMaps$State" "counts" "[I", Cond.methodLink RX4 143 yX2_add, Cond.instanceMethod yX2_add, Cond.selects RX2 yX2_add yX2_add, Cond.code yX2_add cX2_add 7 none, Cond.methodLink RX2 22 Lib.Math.min.name, Cond.static Lib.Math.min.name, Cond.code Lib.Math.min.name Lib.Math.min.code 2 (some .int), Cond.methodLink RX4 131 yX4_countOneMore, Cond.instanceMethod yX4_countOneMore]
def wsX4_passTick_r5 : List Cond := [Cond.selects RX4 yX4_countOneMore yX4_countOneMore, Cond.code yX4_countOneMore cX4_countOneMore 2 none, Cond.methodLink RX4 102 yX4_countTick, Cond.instanceMethod yX4_countTick, Cond.selects RX4 yX4_countTick yX4_countTick, Cond.code yX4_countTick cX4_countTick 1 none]
def wsX4_passTick : List Cond := .code yX4_passTick cX4_passTick 4 (some .boolean) :: ((wsX4_passTick_r1 ++ (wsX4_passTick_r2 ++ (wsX4_passTick_r3 ++ (wsX4_passTick_r4 ++ wsX4_passTick_r5)))) ++ wsX40 ++ wsX30 ++ wsX20)
def wsX4_passTicks_r1 : List Cond := [Cond.methodLink RX4 79 yX4_passTick, Cond.instanceMethod yX4_passTick, Cond.selects RX4 yX4_passTick yX4_passTick, Cond.initialized RX4, Cond.code yX4_passTick cX4_passTick 4 (some .boolean), Cond.fieldLink RX4 45 "ShiftMaps$State" "held" "I", Cond.fieldLink RX4 52 "ShiftMaps$State" "latestSpeed" "F", Cond.fieldLink RX4 56 "ShiftMaps$State" "latestPedal" "F", Cond.methodLink RX4 83 yX4_goOnWithChange, Cond.instanceMethod yX4_goOnWithChange, Cond.selects RX4 yX4_goOnWithChange yX4_goOnWithChange, Cond.code yX4_goOnWithChange cX4_goOnWithChange 1 none, Cond.fieldLink RX4 42 "ShiftMaps$State" "done" "I", Cond.fieldLink RX4 39 "ShiftMaps$State" "target" "I", Cond.fieldLink RX4 35 "ShiftMaps$State" "gear" "I", Cond.methodLink RX4 86 yX4_isChanging, Cond.instanceMethod yX4_isChanging, Cond.selects RX4 yX4_isChanging yX4_isChanging, Cond.code yX4_isChanging cX4_isChanging 1 (some .boolean), Cond.methodLink RX4 72 yX4_setting, Cond.instanceMethod yX4_setting, Cond.selects RX4 yX4_setting yX4_setting, Cond.code yX4_setting cX4_setting 2 (some .int), Cond.fieldLink RX4 32 "ShiftMaps$State" "settings" "[I"]
def wsX4_passTicks_r2 : List Cond := [Cond.methodLink RX4 90 yX4_reasonToChange, Cond.instanceMethod yX4_reasonToChange, Cond.selects RX4 yX4_reasonToChange yX4_reasonToChange, Cond.code yX4_reasonToChange cX4_reasonToChange 3 (some .int), Cond.fieldLink RX4 12 "ShiftMaps$State" "maps" "LShiftMaps$Maps;", Cond.fieldLink RX4 48 "ShiftMaps$State" "handMode" "Z", Cond.methodLink RX4 105 yX3_exceeds, Cond.instanceMethod yX3_exceeds, Cond.selects RX3 yX3_exceeds yX3_exceeds, Cond.initialized RX3, Cond.code yX3_exceeds cX3_exceeds 3 (some .boolean), Cond.methodLink RX3 23 yX3_speed, Cond.instanceMethod yX3_speed, Cond.selects RX3 yX3_speed yX3_speed, Cond.code yX3_speed cX3_speed 4 (some .float), Cond.fieldLink RX3 15 "ShiftMaps$Maps" "speeds" "[F", Cond.methodLink RX4 109 yX4_isDeep, Cond.static yX4_isDeep, Cond.code yX4_isDeep cX4_isDeep 1 (some .boolean), Cond.constantFloat RX4 124 (1064514355), Cond.methodLink RX4 113 yX4_kickdownGear, Cond.instanceMethod yX4_kickdownGear, Cond.selects RX4 yX4_kickdownGear yX4_kickdownGear, Cond.code yX4_kickdownGear cX4_kickdownGear 3 (some .int)]
def wsX4_passTicks_r3 : List Cond := [Cond.methodLink RX4 125 Lib.Math.max.name, Cond.static Lib.Math.max.name, Cond.initialized "java/lang/Math", Cond.code Lib.Math.max.name Lib.Math.max.code 2 (some .int), Cond.methodLink RX4 117 yX3_upFrom, Cond.instanceMethod yX3_upFrom, Cond.selects RX3 yX3_upFrom yX3_upFrom, Cond.code yX3_upFrom cX3_upFrom 4 (some .float), Cond.methodLink RX4 121 yX3_downTo, Cond.instanceMethod yX3_downTo, Cond.selects RX3 yX3_downTo yX3_downTo, Cond.code yX3_downTo cX3_downTo 3 (some .float), Cond.methodLink RX3 27 yX3_upFrom, Cond.methodLink RX4 94 yX4_gearChosenBy, Cond.instanceMethod yX4_gearChosenBy, Cond.selects RX4 yX4_gearChosenBy yX4_gearChosenBy, Cond.code yX4_gearChosenBy cX4_gearChosenBy 3 (some .int), Cond.methodLink RX4 98 yX4_begin, Cond.instanceMethod yX4_begin, Cond.selects RX4 yX4_begin yX4_begin, Cond.code yX4_begin cX4_begin 4 none, Cond.fieldLink RX4 21 "ShiftMaps$State" "log" "LShiftMaps$Log;", Cond.methodLink RX4 135 yX4_swings, Cond.instanceMethod yX4_swings]
def wsX4_passTicks_r4 : List Cond := [Cond.selects RX4 yX4_swings yX4_swings, Cond.code yX4_swings cX4_swings 3 (some .boolean), Cond.methodLink RX4 147 yX2_told, Cond.instanceMethod yX2_told, Cond.selects RX2 yX2_told yX2_told, Cond.initialized RX2, Cond.code yX2_told cX2_told 5 (some .int), Cond.fieldLink RX2 19 "ShiftMaps$Log" "size" "I", Cond.fieldLink RX2 15 "ShiftMaps$Log" "next" "I", Cond.fieldLink RX2 11 "ShiftMaps$Log" "cells" "[I", Cond.methodLink RX4 139 yX4_tick, Cond.instanceMethod yX4_tick, Cond.selects RX4 yX4_tick yX4_tick, Cond.code yX4_tick cX4_tick 1 (some .int), Cond.methodLink RX4 76 yX4_counted, Cond.instanceMethod yX4_counted, Cond.selects RX4 yX4_counted yX4_counted, Cond.code yX4_counted cX4_counted 2 (some .int), Cond.fieldLink RX4 25 "ShiftMaps$State" "counts" "[I", Cond.methodLink RX4 143 yX2_add, Cond.instanceMethod yX2_add, Cond.selects RX2 yX2_add yX2_add, Cond.code yX2_add cX2_add 7 none, Cond.methodLink RX2 22 Lib.Math.min.name]
def wsX4_passTicks_r5 : List Cond := [Cond.static Lib.Math.min.name, Cond.code Lib.Math.min.name Lib.Math.min.code 2 (some .int), Cond.methodLink RX4 131 yX4_countOneMore, Cond.instanceMethod yX4_countOneMore, Cond.selects RX4 yX4_countOneMore yX4_countOneMore, Cond.code yX4_countOneMore cX4_countOneMore 2 none, Cond.methodLink RX4 102 yX4_countTick, Cond.instanceMethod yX4_countTick, Cond.selects RX4 yX4_countTick yX4_countTick, Cond.code yX4_countTick cX4_countTick 1 none]
def wsX4_passTicks : List Cond := .code yX4_passTicks cX4_passTicks 6 (some .int) :: ((wsX4_passTicks_r1 ++ (wsX4_passTicks_r2 ++ (wsX4_passTicks_r3 ++ (wsX4_passTicks_r4 ++ wsX4_passTicks_r5)))) ++ wsX40 ++ wsX30 ++ wsX20)
def wsX4_mayShiftTo : List Cond := .code yX4_mayShiftTo cX4_mayShiftTo 2 (some .boolean) :: ([.fieldLink RX4 48 "ShiftMaps$State" "handMode" "Z", .fieldLink RX4 12 "ShiftMaps$State" "maps" "LShiftMaps$Maps;", .fieldLink RX4 52 "ShiftMaps$State" "latestSpeed" "F", .methodLink RX4 86 yX4_isChanging, .instanceMethod yX4_isChanging, .selects RX4 yX4_isChanging yX4_isChanging, .initialized RX4, .code yX4_isChanging cX4_isChanging 1 (some .boolean), .fieldLink RX4 39 "ShiftMaps$State" "target" "I", .methodLink RX4 105 yX3_exceeds, .instanceMethod yX3_exceeds, .selects RX3 yX3_exceeds yX3_exceeds, .initialized RX3, .code yX3_exceeds cX3_exceeds 3 (some .boolean), .methodLink RX3 23 yX3_speed, .instanceMethod yX3_speed, .selects RX3 yX3_speed yX3_speed, .code yX3_speed cX3_speed 4 (some .float), .fieldLink RX3 15 "ShiftMaps$Maps" "speeds" "[F"] ++ wsX40 ++ wsX30)
def wsX4_isClosed : List Cond := .code yX4_isClosed cX4_isClosed 3 (some .boolean) :: ([.fieldLink RX4 150 "ShiftMaps$State" "LOWER_CLUTCH" "[I", .fieldLink RX4 153 "ShiftMaps$State" "HIGHER_CLUTCH" "[I"])
def wsX4_closedOnlyIn : List Cond := .code yX4_closedOnlyIn cX4_closedOnlyIn 3 (some .int) :: ([.methodLink RX4 156 yX4_isClosed, .static yX4_isClosed, .initialized RX4, .code yX4_isClosed cX4_isClosed 3 (some .boolean), .fieldLink RX4 150 "ShiftMaps$State" "LOWER_CLUTCH" "[I", .fieldLink RX4 153 "ShiftMaps$State" "HIGHER_CLUTCH" "[I"])
def wsX4_opening : List Cond := .code yX4_opening cX4_opening 1 (some .int) :: ([.fieldLink RX4 35 "ShiftMaps$State" "gear" "I", .fieldLink RX4 39 "ShiftMaps$State" "target" "I", .methodLink RX4 86 yX4_isChanging, .instanceMethod yX4_isChanging, .selects RX4 yX4_isChanging yX4_isChanging, .initialized RX4, .code yX4_isChanging cX4_isChanging 1 (some .boolean), .methodLink RX4 160 yX4_closedOnlyIn, .static yX4_closedOnlyIn, .code yX4_closedOnlyIn cX4_closedOnlyIn 3 (some .int), .methodLink RX4 156 yX4_isClosed, .static yX4_isClosed, .code yX4_isClosed cX4_isClosed 3 (some .boolean), .fieldLink RX4 150 "ShiftMaps$State" "LOWER_CLUTCH" "[I", .fieldLink RX4 153 "ShiftMaps$State" "HIGHER_CLUTCH" "[I"] ++ wsX40)
def wsX4_closing : List Cond := .code yX4_closing cX4_closing 1 (some .int) :: ([.fieldLink RX4 39 "ShiftMaps$State" "target" "I", .fieldLink RX4 35 "ShiftMaps$State" "gear" "I", .methodLink RX4 86 yX4_isChanging, .instanceMethod yX4_isChanging, .selects RX4 yX4_isChanging yX4_isChanging, .initialized RX4, .code yX4_isChanging cX4_isChanging 1 (some .boolean), .methodLink RX4 160 yX4_closedOnlyIn, .static yX4_closedOnlyIn, .code yX4_closedOnlyIn cX4_closedOnlyIn 3 (some .int), .methodLink RX4 156 yX4_isClosed, .static yX4_isClosed, .code yX4_isClosed cX4_isClosed 3 (some .boolean), .fieldLink RX4 150 "ShiftMaps$State" "LOWER_CLUTCH" "[I", .fieldLink RX4 153 "ShiftMaps$State" "HIGHER_CLUTCH" "[I"] ++ wsX40)
def wsX4_openingPressure : List Cond := .code yX4_openingPressure cX4_openingPressure 2 (some .float) :: ([.fieldLink RX4 42 "ShiftMaps$State" "done" "I", .methodLink RX4 72 yX4_setting, .instanceMethod yX4_setting, .selects RX4 yX4_setting yX4_setting, .initialized RX4, .code yX4_setting cX4_setting 2 (some .int), .fieldLink RX4 32 "ShiftMaps$State" "settings" "[I"] ++ wsX40)
def wsX4_closingPressure : List Cond := .code yX4_closingPressure cX4_closingPressure 3 (some .float) :: ([.fieldLink RX4 42 "ShiftMaps$State" "done" "I", .methodLink RX4 72 yX4_setting, .instanceMethod yX4_setting, .selects RX4 yX4_setting yX4_setting, .initialized RX4, .code yX4_setting cX4_setting 2 (some .int), .fieldLink RX4 32 "ShiftMaps$State" "settings" "[I"] ++ wsX40)
def wsX4_pressureOf_r1 : List Cond := [Cond.fieldLink RX4 35 "ShiftMaps$State" "gear" "I", Cond.methodLink RX4 86 yX4_isChanging, Cond.instanceMethod yX4_isChanging, Cond.selects RX4 yX4_isChanging yX4_isChanging, Cond.initialized RX4, Cond.code yX4_isChanging cX4_isChanging 1 (some .boolean), Cond.fieldLink RX4 39 "ShiftMaps$State" "target" "I", Cond.methodLink RX4 163 yX4_opening, Cond.instanceMethod yX4_opening, Cond.selects RX4 yX4_opening yX4_opening, Cond.code yX4_opening cX4_opening 1 (some .int), Cond.methodLink RX4 160 yX4_closedOnlyIn, Cond.static yX4_closedOnlyIn, Cond.code yX4_closedOnlyIn cX4_closedOnlyIn 3 (some .int), Cond.methodLink RX4 156 yX4_isClosed, Cond.static yX4_isClosed, Cond.code yX4_isClosed cX4_isClosed 3 (some .boolean), Cond.fieldLink RX4 150 "ShiftMaps$State" "LOWER_CLUTCH" "[I", Cond.fieldLink RX4 153 "ShiftMaps$State" "HIGHER_CLUTCH" "[I", Cond.methodLink RX4 166 yX4_openingPressure, Cond.instanceMethod yX4_openingPressure, Cond.selects RX4 yX4_openingPressure yX4_openingPressure, Cond.code yX4_openingPressure cX4_openingPressure 2 (some .float), Cond.fieldLink RX4 42 "ShiftMaps$State" "done" "I"]
def wsX4_pressureOf_r2 : List Cond := [Cond.methodLink RX4 72 yX4_setting, Cond.instanceMethod yX4_setting, Cond.selects RX4 yX4_setting yX4_setting, Cond.code yX4_setting cX4_setting 2 (some .int), Cond.fieldLink RX4 32 "ShiftMaps$State" "settings" "[I", Cond.methodLink RX4 170 yX4_closing, Cond.instanceMethod yX4_closing, Cond.selects RX4 yX4_closing yX4_closing, Cond.code yX4_closing cX4_closing 1 (some .int), Cond.methodLink RX4 173 yX4_closingPressure, Cond.instanceMethod yX4_closingPressure, Cond.selects RX4 yX4_closingPressure yX4_closingPressure, Cond.code yX4_closingPressure cX4_closingPressure 3 (some .float)]
def wsX4_pressureOf : List Cond := .code yX4_pressureOf cX4_pressureOf 2 (some .float) :: ((wsX4_pressureOf_r1 ++ wsX4_pressureOf_r2) ++ wsX40)
def wsX4_greaterPressure : List Cond := .code yX4_greaterPressure cX4_greaterPressure 3 (some .float) :: ([.methodLink RX4 86 yX4_isChanging, .instanceMethod yX4_isChanging, .selects RX4 yX4_isChanging yX4_isChanging, .initialized RX4, .code yX4_isChanging cX4_isChanging 1 (some .boolean), .fieldLink RX4 39 "ShiftMaps$State" "target" "I", .methodLink RX4 166 yX4_openingPressure, .instanceMethod yX4_openingPressure, .selects RX4 yX4_openingPressure yX4_openingPressure, .code yX4_openingPressure cX4_openingPressure 2 (some .float), .fieldLink RX4 42 "ShiftMaps$State" "done" "I", .methodLink RX4 72 yX4_setting, .instanceMethod yX4_setting, .selects RX4 yX4_setting yX4_setting, .code yX4_setting cX4_setting 2 (some .int), .fieldLink RX4 32 "ShiftMaps$State" "settings" "[I", .methodLink RX4 173 yX4_closingPressure, .instanceMethod yX4_closingPressure, .selects RX4 yX4_closingPressure yX4_closingPressure, .code yX4_closingPressure cX4_closingPressure 3 (some .float)] ++ wsX40)
def wsX5_init_r1 : List Cond := [Cond.methodLink RX5 1 objectInit, Cond.instanceMethod objectInit, Cond.code objectInit ⟨#[0xb1]⟩ 1 none, Cond.classLink RX5 7 RX4, Cond.instantiable RX4 11, Cond.initialized RX4, Cond.fieldLink RX5 10 "ShiftMaps" "now" "LShiftMaps$State;", Cond.fieldLink RX5 16 "ShiftMaps" "snapshot" "LShiftMaps$State;", Cond.fieldLink RX5 19 "ShiftMaps" "forecast" "LShiftMaps$State;", Cond.classLink RX5 22 RX1, Cond.instantiable RX1 3, Cond.initialized RX1, Cond.fieldLink RX5 25 "ShiftMaps" "history" "LShiftMaps$History;", Cond.classLink RX5 29 RX0, Cond.instantiable RX0 7, Cond.initialized RX0, Cond.fieldLink RX5 32 "ShiftMaps" "text" "LShiftMaps$DriveText;", Cond.fieldLink RX5 36 "ShiftMaps" "hasSnapshot" "Z", Cond.methodLink RX5 9 yX4_init, Cond.instanceMethod yX4_init, Cond.code yX4_init cX4_init 1 none, Cond.methodLink RX4 3 objectInit, Cond.classLink RX4 9 RX3, Cond.instantiable RX3 1]
def wsX5_init_r2 : List Cond := [Cond.initialized RX3, Cond.fieldLink RX4 12 "ShiftMaps$State" "maps" "LShiftMaps$Maps;", Cond.classLink RX4 18 RX2, Cond.instantiable RX2 3, Cond.initialized RX2, Cond.fieldLink RX4 21 "ShiftMaps$State" "log" "LShiftMaps$Log;", Cond.arrayClass .int, Cond.fieldLink RX4 25 "ShiftMaps$State" "counts" "[I", Cond.fieldLink RX4 29 "ShiftMaps$State" "SETTINGS_AT_FIRST" "[I", Cond.fieldLink RX4 32 "ShiftMaps$State" "settings" "[I", Cond.fieldLink RX4 35 "ShiftMaps$State" "gear" "I", Cond.fieldLink RX4 39 "ShiftMaps$State" "target" "I", Cond.fieldLink RX4 42 "ShiftMaps$State" "done" "I", Cond.fieldLink RX4 45 "ShiftMaps$State" "held" "I", Cond.fieldLink RX4 48 "ShiftMaps$State" "handMode" "Z", Cond.fieldLink RX4 52 "ShiftMaps$State" "latestSpeed" "F", Cond.fieldLink RX4 56 "ShiftMaps$State" "latestPedal" "F", Cond.methodLink RX4 59 arraycopyName, Cond.native arraycopyName, Cond.static arraycopyName, Cond.initialized "java/lang/System", Cond.methodLink RX4 11 yX3_init, Cond.instanceMethod yX3_init, Cond.code yX3_init cX3_init 2 none]
def wsX5_init_r3 : List Cond := [Cond.methodLink RX3 3 objectInit, Cond.fieldLink RX3 9 "ShiftMaps$Maps" "AT_FIRST" "[I", Cond.arrayClass .float, Cond.fieldLink RX3 15 "ShiftMaps$Maps" "speeds" "[F", Cond.instanceMethod yX2_init, Cond.code yX2_init cX2_init 1 none, Cond.methodLink RX2 3 objectInit, Cond.fieldLink RX2 11 "ShiftMaps$Log" "cells" "[I", Cond.fieldLink RX2 15 "ShiftMaps$Log" "next" "I", Cond.fieldLink RX2 19 "ShiftMaps$Log" "size" "I", Cond.methodLink RX5 24 yX1_init, Cond.instanceMethod yX1_init, Cond.code yX1_init cX1_init 2 none, Cond.methodLink RX1 1 objectInit, Cond.classLink RX1 9 RX4, Cond.fieldLink RX1 11 "ShiftMaps$History" "states" "[LShiftMaps$State;", Cond.fieldLink RX1 15 "ShiftMaps$History" "next" "I", Cond.fieldLink RX1 19 "ShiftMaps$History" "size" "I", Cond.methodLink RX1 22 yX4_init, Cond.instanceMethod yX0_init, Cond.code yX0_init cX0_init 1 none, Cond.methodLink RX0 3 objectInit, Cond.arrayClass .char, Cond.fieldLink RX0 9 "ShiftMaps$DriveText" "characters" "[C"]
def wsX5_init_r4 : List Cond := [Cond.fieldLink RX0 13 "ShiftMaps$DriveText" "length" "I", Cond.fieldLink RX0 17 "ShiftMaps$DriveText" "numbers" "[I", Cond.fieldLink RX0 21 "ShiftMaps$DriveText" "parts" "I", Cond.fieldLink RX0 24 "ShiftMaps$DriveText" "place" "I", Cond.fieldLink RX0 27 "ShiftMaps$DriveText" "value" "I", Cond.fieldLink RX0 30 "ShiftMaps$DriveText" "digits" "I"]
def wsX5_init : List Cond := .code yX5_init cX5_init 1 none :: ((wsX5_init_r1 ++ (wsX5_init_r2 ++ (wsX5_init_r3 ++ wsX5_init_r4))) ++ wsX40 ++ wsX50 ++ wsX10 ++ wsX00 ++ wsX30 ++ wsX20)
def wsX5_isSpeed : List Cond := .code yX5_isSpeed cX5_isSpeed 1 (some .boolean) :: ([.constant RX5 198 (1133903872)])
def wsX5_floatOf : List Cond := .code yX5_floatOf cX5_floatOf 5 (some .float) :: ([.constant RX5 200 (8388607), .constant RX5 201 (8388608), .constantFloat RX5 202 (1056964608)])
def wsX5_setMap_r1 : List Cond := [Cond.fieldLink RX5 10 "ShiftMaps" "now" "LShiftMaps$State;", Cond.fieldLink RX5 25 "ShiftMaps" "history" "LShiftMaps$History;", Cond.methodLink RX5 40 yX3_has, Cond.static yX3_has, Cond.initialized RX3, Cond.code yX3_has cX3_has 2 (some .boolean), Cond.methodLink RX5 46 yX5_isSpeed, Cond.static yX5_isSpeed, Cond.initialized RX5, Cond.code yX5_isSpeed cX5_isSpeed 1 (some .boolean), Cond.constant RX5 198 (1133903872), Cond.methodLink RX5 50 yX5_floatOf, Cond.static yX5_floatOf, Cond.code yX5_floatOf cX5_floatOf 5 (some .float), Cond.constant RX5 200 (8388607), Cond.constant RX5 201 (8388608), Cond.constantFloat RX5 202 (1056964608), Cond.methodLink RX5 58 yX3_speed, Cond.instanceMethod yX3_speed, Cond.selects RX3 yX3_speed yX3_speed, Cond.code yX3_speed cX3_speed 4 (some .float), Cond.fieldLink RX3 15 "ShiftMaps$Maps" "speeds" "[F", Cond.methodLink RX5 62 yX1_record, Cond.instanceMethod yX1_record]
def wsX5_setMap_r2 : List Cond := [Cond.selects RX1 yX1_record yX1_record, Cond.initialized RX1, Cond.code yX1_record cX1_record 3 none, Cond.fieldLink RX1 15 "ShiftMaps$History" "next" "I", Cond.fieldLink RX1 19 "ShiftMaps$History" "size" "I", Cond.methodLink RX1 31 Lib.Math.min.name, Cond.static Lib.Math.min.name, Cond.initialized "java/lang/Math", Cond.code Lib.Math.min.name Lib.Math.min.code 2 (some .int), Cond.methodLink RX1 23 yX1_rowAt, Cond.instanceMethod yX1_rowAt, Cond.selects RX1 yX1_rowAt yX1_rowAt, Cond.code yX1_rowAt cX1_rowAt 2 (some (.object "ShiftMaps$State")), Cond.fieldLink RX1 11 "ShiftMaps$History" "states" "[LShiftMaps$State;", Cond.methodLink RX1 27 yX4_copyFrom, Cond.instanceMethod yX4_copyFrom, Cond.selects RX4 yX4_copyFrom yX4_copyFrom, Cond.initialized RX4, Cond.code yX4_copyFrom cX4_copyFrom 2 none, Cond.fieldLink RX4 12 "ShiftMaps$State" "maps" "LShiftMaps$Maps;", Cond.fieldLink RX4 21 "ShiftMaps$State" "log" "LShiftMaps$Log;", Cond.fieldLink RX4 25 "ShiftMaps$State" "counts" "[I", Cond.methodLink RX4 59 arraycopyName, Cond.native arraycopyName]
def wsX5_setMap_r3 : List Cond := [Cond.static arraycopyName, Cond.initialized "java/lang/System", Cond.fieldLink RX4 32 "ShiftMaps$State" "settings" "[I", Cond.fieldLink RX4 35 "ShiftMaps$State" "gear" "I", Cond.fieldLink RX4 39 "ShiftMaps$State" "target" "I", Cond.fieldLink RX4 42 "ShiftMaps$State" "done" "I", Cond.fieldLink RX4 45 "ShiftMaps$State" "held" "I", Cond.fieldLink RX4 48 "ShiftMaps$State" "handMode" "Z", Cond.fieldLink RX4 52 "ShiftMaps$State" "latestSpeed" "F", Cond.fieldLink RX4 56 "ShiftMaps$State" "latestPedal" "F", Cond.methodLink RX4 65 yX3_copyFrom, Cond.instanceMethod yX3_copyFrom, Cond.selects RX3 yX3_copyFrom yX3_copyFrom, Cond.code yX3_copyFrom cX3_copyFrom 2 none, Cond.methodLink RX3 31 arraycopyName, Cond.methodLink RX4 69 yX2_copyFrom, Cond.instanceMethod yX2_copyFrom, Cond.selects RX2 yX2_copyFrom yX2_copyFrom, Cond.initialized RX2, Cond.code yX2_copyFrom cX2_copyFrom 2 none, Cond.fieldLink RX2 11 "ShiftMaps$Log" "cells" "[I", Cond.methodLink RX2 28 arraycopyName, Cond.fieldLink RX2 15 "ShiftMaps$Log" "next" "I", Cond.fieldLink RX2 19 "ShiftMaps$Log" "size" "I"]
def wsX5_setMap_r4 : List Cond := [Cond.methodLink RX5 66 yX3_put, Cond.instanceMethod yX3_put, Cond.selects RX3 yX3_put yX3_put, Cond.code yX3_put cX3_put 4 none, Cond.methodLink RX3 19 yX3_has]
def wsX5_setMap : List Cond := .code yX5_setMap cX5_setMap 5 (some .int) :: ((wsX5_setMap_r1 ++ (wsX5_setMap_r2 ++ (wsX5_setMap_r3 ++ wsX5_setMap_r4))) ++ wsX50 ++ wsX40 ++ wsX30 ++ wsX10 ++ wsX20)
def wsX5_setNumber_r1 : List Cond := [Cond.fieldLink RX5 10 "ShiftMaps" "now" "LShiftMaps$State;", Cond.fieldLink RX5 25 "ShiftMaps" "history" "LShiftMaps$History;", Cond.methodLink RX5 70 yX4_allows, Cond.instanceMethod yX4_allows, Cond.selects RX4 yX4_allows yX4_allows, Cond.initialized RX4, Cond.code yX4_allows cX4_allows 3 (some .boolean), Cond.methodLink RX4 72 yX4_setting, Cond.instanceMethod yX4_setting, Cond.selects RX4 yX4_setting yX4_setting, Cond.code yX4_setting cX4_setting 2 (some .int), Cond.fieldLink RX4 32 "ShiftMaps$State" "settings" "[I", Cond.methodLink RX5 73 yX4_isChanging, Cond.instanceMethod yX4_isChanging, Cond.selects RX4 yX4_isChanging yX4_isChanging, Cond.code yX4_isChanging cX4_isChanging 1 (some .boolean), Cond.fieldLink RX4 39 "ShiftMaps$State" "target" "I", Cond.methodLink RX5 77 yX4_setting, Cond.methodLink RX5 62 yX1_record, Cond.instanceMethod yX1_record, Cond.selects RX1 yX1_record yX1_record, Cond.initialized RX1, Cond.code yX1_record cX1_record 3 none, Cond.fieldLink RX1 15 "ShiftMaps$History" "next" "I"]
def wsX5_setNumber_r2 : List Cond := [Cond.fieldLink RX1 19 "ShiftMaps$History" "size" "I", Cond.methodLink RX1 31 Lib.Math.min.name, Cond.static Lib.Math.min.name, Cond.initialized "java/lang/Math", Cond.code Lib.Math.min.name Lib.Math.min.code 2 (some .int), Cond.methodLink RX1 23 yX1_rowAt, Cond.instanceMethod yX1_rowAt, Cond.selects RX1 yX1_rowAt yX1_rowAt, Cond.code yX1_rowAt cX1_rowAt 2 (some (.object "ShiftMaps$State")), Cond.fieldLink RX1 11 "ShiftMaps$History" "states" "[LShiftMaps$State;", Cond.methodLink RX1 27 yX4_copyFrom, Cond.instanceMethod yX4_copyFrom, Cond.selects RX4 yX4_copyFrom yX4_copyFrom, Cond.code yX4_copyFrom cX4_copyFrom 2 none, Cond.fieldLink RX4 12 "ShiftMaps$State" "maps" "LShiftMaps$Maps;", Cond.fieldLink RX4 21 "ShiftMaps$State" "log" "LShiftMaps$Log;", Cond.fieldLink RX4 25 "ShiftMaps$State" "counts" "[I", Cond.methodLink RX4 59 arraycopyName, Cond.native arraycopyName, Cond.static arraycopyName, Cond.initialized "java/lang/System", Cond.fieldLink RX4 35 "ShiftMaps$State" "gear" "I", Cond.fieldLink RX4 42 "ShiftMaps$State" "done" "I", Cond.fieldLink RX4 45 "ShiftMaps$State" "held" "I"]
def wsX5_setNumber_r3 : List Cond := [Cond.fieldLink RX4 48 "ShiftMaps$State" "handMode" "Z", Cond.fieldLink RX4 52 "ShiftMaps$State" "latestSpeed" "F", Cond.fieldLink RX4 56 "ShiftMaps$State" "latestPedal" "F", Cond.methodLink RX4 65 yX3_copyFrom, Cond.instanceMethod yX3_copyFrom, Cond.selects RX3 yX3_copyFrom yX3_copyFrom, Cond.initialized RX3, Cond.code yX3_copyFrom cX3_copyFrom 2 none, Cond.fieldLink RX3 15 "ShiftMaps$Maps" "speeds" "[F", Cond.methodLink RX3 31 arraycopyName, Cond.methodLink RX4 69 yX2_copyFrom, Cond.instanceMethod yX2_copyFrom, Cond.selects RX2 yX2_copyFrom yX2_copyFrom, Cond.initialized RX2, Cond.code yX2_copyFrom cX2_copyFrom 2 none, Cond.fieldLink RX2 11 "ShiftMaps$Log" "cells" "[I", Cond.methodLink RX2 28 arraycopyName, Cond.fieldLink RX2 15 "ShiftMaps$Log" "next" "I", Cond.fieldLink RX2 19 "ShiftMaps$Log" "size" "I", Cond.methodLink RX5 81 yX4_putSetting, Cond.instanceMethod yX4_putSetting, Cond.selects RX4 yX4_putSetting yX4_putSetting, Cond.code yX4_putSetting cX4_putSetting 3 none]
def wsX5_setNumber : List Cond := .code yX5_setNumber cX5_setNumber 4 (some .int) :: ((wsX5_setNumber_r1 ++ (wsX5_setNumber_r2 ++ wsX5_setNumber_r3)) ++ wsX50 ++ wsX40 ++ wsX10 ++ wsX30 ++ wsX20)
def wsX5_byHand_r1 : List Cond := [Cond.fieldLink RX5 10 "ShiftMaps" "now" "LShiftMaps$State;", Cond.fieldLink RX5 25 "ShiftMaps" "history" "LShiftMaps$History;", Cond.methodLink RX5 62 yX1_record, Cond.instanceMethod yX1_record, Cond.selects RX1 yX1_record yX1_record, Cond.initialized RX1, Cond.code yX1_record cX1_record 3 none, Cond.fieldLink RX1 15 "ShiftMaps$History" "next" "I", Cond.fieldLink RX1 19 "ShiftMaps$History" "size" "I", Cond.methodLink RX1 31 Lib.Math.min.name, Cond.static Lib.Math.min.name, Cond.initialized "java/lang/Math", Cond.code Lib.Math.min.name Lib.Math.min.code 2 (some .int), Cond.methodLink RX1 23 yX1_rowAt, Cond.instanceMethod yX1_rowAt, Cond.selects RX1 yX1_rowAt yX1_rowAt, Cond.code yX1_rowAt cX1_rowAt 2 (some (.object "ShiftMaps$State")), Cond.fieldLink RX1 11 "ShiftMaps$History" "states" "[LShiftMaps$State;", Cond.methodLink RX1 27 yX4_copyFrom, Cond.instanceMethod yX4_copyFrom, Cond.selects RX4 yX4_copyFrom yX4_copyFrom, Cond.initialized RX4, Cond.code yX4_copyFrom cX4_copyFrom 2 none, Cond.fieldLink RX4 12 "ShiftMaps$State" "maps" "LShiftMaps$Maps;"]
def wsX5_byHand_r2 : List Cond := [Cond.fieldLink RX4 21 "ShiftMaps$State" "log" "LShiftMaps$Log;", Cond.fieldLink RX4 25 "ShiftMaps$State" "counts" "[I", Cond.methodLink RX4 59 arraycopyName, Cond.native arraycopyName, Cond.static arraycopyName, Cond.initialized "java/lang/System", Cond.fieldLink RX4 32 "ShiftMaps$State" "settings" "[I", Cond.fieldLink RX4 35 "ShiftMaps$State" "gear" "I", Cond.fieldLink RX4 39 "ShiftMaps$State" "target" "I", Cond.fieldLink RX4 42 "ShiftMaps$State" "done" "I", Cond.fieldLink RX4 45 "ShiftMaps$State" "held" "I", Cond.fieldLink RX4 48 "ShiftMaps$State" "handMode" "Z", Cond.fieldLink RX4 52 "ShiftMaps$State" "latestSpeed" "F", Cond.fieldLink RX4 56 "ShiftMaps$State" "latestPedal" "F", Cond.methodLink RX4 65 yX3_copyFrom, Cond.instanceMethod yX3_copyFrom, Cond.selects RX3 yX3_copyFrom yX3_copyFrom, Cond.initialized RX3, Cond.code yX3_copyFrom cX3_copyFrom 2 none, Cond.fieldLink RX3 15 "ShiftMaps$Maps" "speeds" "[F", Cond.methodLink RX3 31 arraycopyName, Cond.methodLink RX4 69 yX2_copyFrom, Cond.instanceMethod yX2_copyFrom, Cond.selects RX2 yX2_copyFrom yX2_copyFrom]
def wsX5_byHand_r3 : List Cond := [Cond.initialized RX2, Cond.code yX2_copyFrom cX2_copyFrom 2 none, Cond.fieldLink RX2 11 "ShiftMaps$Log" "cells" "[I", Cond.methodLink RX2 28 arraycopyName, Cond.fieldLink RX2 15 "ShiftMaps$Log" "next" "I", Cond.fieldLink RX2 19 "ShiftMaps$Log" "size" "I"]
def wsX5_byHand : List Cond := .code yX5_byHand cX5_byHand 2 (some .int) :: ((wsX5_byHand_r1 ++ (wsX5_byHand_r2 ++ wsX5_byHand_r3)) ++ wsX50 ++ wsX40 ++ wsX10 ++ wsX30 ++ wsX20)
def wsX5_isPedal : List Cond := .code yX5_isPedal cX5_isPedal 1 (some .boolean) :: ([.constant RX5 199 (1065353216)])
def wsX5_drive_r1 : List Cond := [Cond.fieldLink RX5 10 "ShiftMaps" "now" "LShiftMaps$State;", Cond.constant RX5 99 (99999), Cond.fieldLink RX5 25 "ShiftMaps" "history" "LShiftMaps$History;", Cond.methodLink RX5 46 yX5_isSpeed, Cond.static yX5_isSpeed, Cond.initialized RX5, Cond.code yX5_isSpeed cX5_isSpeed 1 (some .boolean), Cond.constant RX5 198 (1133903872), Cond.methodLink RX5 92 yX5_isPedal, Cond.static yX5_isPedal, Cond.code yX5_isPedal cX5_isPedal 1 (some .boolean), Cond.constant RX5 199 (1065353216), Cond.methodLink RX5 95 yX4_tick, Cond.instanceMethod yX4_tick, Cond.selects RX4 yX4_tick yX4_tick, Cond.initialized RX4, Cond.code yX4_tick cX4_tick 1 (some .int), Cond.methodLink RX4 76 yX4_counted, Cond.instanceMethod yX4_counted, Cond.selects RX4 yX4_counted yX4_counted, Cond.code yX4_counted cX4_counted 2 (some .int), Cond.fieldLink RX4 25 "ShiftMaps$State" "counts" "[I", Cond.methodLink RX5 62 yX1_record, Cond.instanceMethod yX1_record]
def wsX5_drive_r2 : List Cond := [Cond.selects RX1 yX1_record yX1_record, Cond.initialized RX1, Cond.code yX1_record cX1_record 3 none, Cond.fieldLink RX1 15 "ShiftMaps$History" "next" "I", Cond.fieldLink RX1 19 "ShiftMaps$History" "size" "I", Cond.methodLink RX1 31 Lib.Math.min.name, Cond.static Lib.Math.min.name, Cond.initialized "java/lang/Math", Cond.code Lib.Math.min.name Lib.Math.min.code 2 (some .int), Cond.methodLink RX1 23 yX1_rowAt, Cond.instanceMethod yX1_rowAt, Cond.selects RX1 yX1_rowAt yX1_rowAt, Cond.code yX1_rowAt cX1_rowAt 2 (some (.object "ShiftMaps$State")), Cond.fieldLink RX1 11 "ShiftMaps$History" "states" "[LShiftMaps$State;", Cond.methodLink RX1 27 yX4_copyFrom, Cond.instanceMethod yX4_copyFrom, Cond.selects RX4 yX4_copyFrom yX4_copyFrom, Cond.code yX4_copyFrom cX4_copyFrom 2 none, Cond.fieldLink RX4 12 "ShiftMaps$State" "maps" "LShiftMaps$Maps;", Cond.fieldLink RX4 21 "ShiftMaps$State" "log" "LShiftMaps$Log;", Cond.methodLink RX4 59 arraycopyName, Cond.native arraycopyName, Cond.static arraycopyName, Cond.initialized "java/lang/System"]
def wsX5_drive_r3 : List Cond := [Cond.fieldLink RX4 32 "ShiftMaps$State" "settings" "[I", Cond.fieldLink RX4 35 "ShiftMaps$State" "gear" "I", Cond.fieldLink RX4 39 "ShiftMaps$State" "target" "I", Cond.fieldLink RX4 42 "ShiftMaps$State" "done" "I", Cond.fieldLink RX4 45 "ShiftMaps$State" "held" "I", Cond.fieldLink RX4 48 "ShiftMaps$State" "handMode" "Z", Cond.fieldLink RX4 52 "ShiftMaps$State" "latestSpeed" "F", Cond.fieldLink RX4 56 "ShiftMaps$State" "latestPedal" "F", Cond.methodLink RX4 65 yX3_copyFrom, Cond.instanceMethod yX3_copyFrom, Cond.selects RX3 yX3_copyFrom yX3_copyFrom, Cond.initialized RX3, Cond.code yX3_copyFrom cX3_copyFrom 2 none, Cond.fieldLink RX3 15 "ShiftMaps$Maps" "speeds" "[F", Cond.methodLink RX3 31 arraycopyName, Cond.methodLink RX4 69 yX2_copyFrom, Cond.instanceMethod yX2_copyFrom, Cond.selects RX2 yX2_copyFrom yX2_copyFrom, Cond.initialized RX2, Cond.code yX2_copyFrom cX2_copyFrom 2 none, Cond.fieldLink RX2 11 "ShiftMaps$Log" "cells" "[I", Cond.methodLink RX2 28 arraycopyName, Cond.fieldLink RX2 15 "ShiftMaps$Log" "next" "I", Cond.fieldLink RX2 19 "ShiftMaps$Log" "size" "I"]
def wsX5_drive_r4 : List Cond := [Cond.methodLink RX5 50 yX5_floatOf, Cond.static yX5_floatOf, Cond.code yX5_floatOf cX5_floatOf 5 (some .float), Cond.constant RX5 200 (8388607), Cond.constant RX5 201 (8388608), Cond.constantFloat RX5 202 (1056964608), Cond.methodLink RX5 100 yX4_passTicks, Cond.instanceMethod yX4_passTicks, Cond.selects RX4 yX4_passTicks yX4_passTicks, Cond.code yX4_passTicks cX4_passTicks 6 (some .int), Cond.methodLink RX4 79 yX4_passTick, Cond.instanceMethod yX4_passTick, Cond.selects RX4 yX4_passTick yX4_passTick, Cond.code yX4_passTick cX4_passTick 4 (some .boolean), Cond.methodLink RX4 83 yX4_goOnWithChange, Cond.instanceMethod yX4_goOnWithChange, Cond.selects RX4 yX4_goOnWithChange yX4_goOnWithChange, Cond.code yX4_goOnWithChange cX4_goOnWithChange 1 none, Cond.methodLink RX4 86 yX4_isChanging, Cond.instanceMethod yX4_isChanging, Cond.selects RX4 yX4_isChanging yX4_isChanging, Cond.code yX4_isChanging cX4_isChanging 1 (some .boolean), Cond.methodLink RX4 72 yX4_setting, Cond.instanceMethod yX4_setting]
def wsX5_drive_r5 : List Cond := [Cond.selects RX4 yX4_setting yX4_setting, Cond.code yX4_setting cX4_setting 2 (some .int), Cond.methodLink RX4 90 yX4_reasonToChange, Cond.instanceMethod yX4_reasonToChange, Cond.selects RX4 yX4_reasonToChange yX4_reasonToChange, Cond.code yX4_reasonToChange cX4_reasonToChange 3 (some .int), Cond.methodLink RX4 105 yX3_exceeds, Cond.instanceMethod yX3_exceeds, Cond.selects RX3 yX3_exceeds yX3_exceeds, Cond.code yX3_exceeds cX3_exceeds 3 (some .boolean), Cond.methodLink RX3 23 yX3_speed, Cond.instanceMethod yX3_speed, Cond.selects RX3 yX3_speed yX3_speed, Cond.code yX3_speed cX3_speed 4 (some .float), Cond.methodLink RX4 109 yX4_isDeep, Cond.static yX4_isDeep, Cond.code yX4_isDeep cX4_isDeep 1 (some .boolean), Cond.constantFloat RX4 124 (1064514355), Cond.methodLink RX4 113 yX4_kickdownGear, Cond.instanceMethod yX4_kickdownGear, Cond.selects RX4 yX4_kickdownGear yX4_kickdownGear, Cond.code yX4_kickdownGear cX4_kickdownGear 3 (some .int), Cond.methodLink RX4 125 Lib.Math.max.name, Cond.static Lib.Math.max.name]
def wsX5_drive_r6 : List Cond := [Cond.code Lib.Math.max.name Lib.Math.max.code 2 (some .int), Cond.methodLink RX4 117 yX3_upFrom, Cond.instanceMethod yX3_upFrom, Cond.selects RX3 yX3_upFrom yX3_upFrom, Cond.code yX3_upFrom cX3_upFrom 4 (some .float), Cond.methodLink RX4 121 yX3_downTo, Cond.instanceMethod yX3_downTo, Cond.selects RX3 yX3_downTo yX3_downTo, Cond.code yX3_downTo cX3_downTo 3 (some .float), Cond.methodLink RX3 27 yX3_upFrom, Cond.methodLink RX4 94 yX4_gearChosenBy, Cond.instanceMethod yX4_gearChosenBy, Cond.selects RX4 yX4_gearChosenBy yX4_gearChosenBy, Cond.code yX4_gearChosenBy cX4_gearChosenBy 3 (some .int), Cond.methodLink RX4 98 yX4_begin, Cond.instanceMethod yX4_begin, Cond.selects RX4 yX4_begin yX4_begin, Cond.code yX4_begin cX4_begin 4 none, Cond.methodLink RX4 135 yX4_swings, Cond.instanceMethod yX4_swings, Cond.selects RX4 yX4_swings yX4_swings, Cond.code yX4_swings cX4_swings 3 (some .boolean), Cond.methodLink RX4 147 yX2_told, Cond.instanceMethod yX2_told]
def wsX5_drive_r7 : List Cond := [Cond.selects RX2 yX2_told yX2_told, Cond.code yX2_told cX2_told 5 (some .int), Cond.methodLink RX4 139 yX4_tick, Cond.methodLink RX4 143 yX2_add, Cond.instanceMethod yX2_add, Cond.selects RX2 yX2_add yX2_add, Cond.code yX2_add cX2_add 7 none, Cond.methodLink RX2 22 Lib.Math.min.name, Cond.methodLink RX4 131 yX4_countOneMore, Cond.instanceMethod yX4_countOneMore, Cond.selects RX4 yX4_countOneMore yX4_countOneMore, Cond.code yX4_countOneMore cX4_countOneMore 2 none, Cond.methodLink RX4 102 yX4_countTick, Cond.instanceMethod yX4_countTick, Cond.selects RX4 yX4_countTick yX4_countTick, Cond.code yX4_countTick cX4_countTick 1 none]
def wsX5_drive : List Cond := .code yX5_drive cX5_drive 4 (some .int) :: ((wsX5_drive_r1 ++ (wsX5_drive_r2 ++ (wsX5_drive_r3 ++ (wsX5_drive_r4 ++ (wsX5_drive_r5 ++ (wsX5_drive_r6 ++ wsX5_drive_r7)))))) ++ wsX50 ++ wsX40 ++ wsX10 ++ wsX30 ++ wsX20)
def wsX5_readDrive_r1 : List Cond := [Cond.fieldLink RX5 32 "ShiftMaps" "text" "LShiftMaps$DriveText;", Cond.fieldLink RX5 10 "ShiftMaps" "now" "LShiftMaps$State;", Cond.constant RX5 99 (99999), Cond.fieldLink RX5 25 "ShiftMaps" "history" "LShiftMaps$History;", Cond.constantFloat RX5 119 (1120403456), Cond.methodLink RX5 104 yX0_read, Cond.instanceMethod yX0_read, Cond.selects RX0 yX0_read yX0_read, Cond.initialized RX0, Cond.code yX0_read cX0_read 2 (some .int), Cond.fieldLink RX0 21 "ShiftMaps$DriveText" "parts" "I", Cond.fieldLink RX0 13 "ShiftMaps$DriveText" "length" "I", Cond.fieldLink RX0 9 "ShiftMaps$DriveText" "characters" "[C", Cond.methodLink RX0 41 yX0_expectNumber, Cond.instanceMethod yX0_expectNumber, Cond.selects RX0 yX0_expectNumber yX0_expectNumber, Cond.code yX0_expectNumber cX0_expectNumber 2 none, Cond.fieldLink RX0 24 "ShiftMaps$DriveText" "place" "I", Cond.fieldLink RX0 27 "ShiftMaps$DriveText" "value" "I", Cond.fieldLink RX0 30 "ShiftMaps$DriveText" "digits" "I", Cond.methodLink RX0 45 yX0_takes, Cond.instanceMethod yX0_takes, Cond.selects RX0 yX0_takes yX0_takes, Cond.code yX0_takes cX0_takes 2 (some .boolean)]
def wsX5_readDrive_r2 : List Cond := [Cond.methodLink RX0 53 yX0_endNumber, Cond.instanceMethod yX0_endNumber, Cond.selects RX0 yX0_endNumber yX0_endNumber, Cond.code yX0_endNumber cX0_endNumber 2 (some .boolean), Cond.methodLink RX0 63 yX0_putNumber, Cond.instanceMethod yX0_putNumber, Cond.selects RX0 yX0_putNumber yX0_putNumber, Cond.code yX0_putNumber cX0_putNumber 4 none, Cond.fieldLink RX0 17 "ShiftMaps$DriveText" "numbers" "[I", Cond.methodLink RX0 49 yX0_endPart, Cond.instanceMethod yX0_endPart, Cond.selects RX0 yX0_endPart yX0_endPart, Cond.code yX0_endPart cX0_endPart 2 (some .boolean), Cond.methodLink RX0 57 yX0_takesDigit, Cond.instanceMethod yX0_takesDigit, Cond.selects RX0 yX0_takesDigit yX0_takesDigit, Cond.code yX0_takesDigit cX0_takesDigit 3 (some .boolean), Cond.fieldLink RX0 60 "ShiftMaps$DriveText" "GREATEST" "[I", Cond.methodLink RX5 95 yX4_tick, Cond.instanceMethod yX4_tick, Cond.selects RX4 yX4_tick yX4_tick, Cond.initialized RX4, Cond.code yX4_tick cX4_tick 1 (some .int), Cond.methodLink RX4 76 yX4_counted]
def wsX5_readDrive_r3 : List Cond := [Cond.instanceMethod yX4_counted, Cond.selects RX4 yX4_counted yX4_counted, Cond.code yX4_counted cX4_counted 2 (some .int), Cond.fieldLink RX4 25 "ShiftMaps$State" "counts" "[I", Cond.methodLink RX5 107 yX0_ticksOfAllParts, Cond.instanceMethod yX0_ticksOfAllParts, Cond.selects RX0 yX0_ticksOfAllParts yX0_ticksOfAllParts, Cond.code yX0_ticksOfAllParts cX0_ticksOfAllParts 3 (some .int), Cond.methodLink RX0 37 yX0_ticksOf, Cond.instanceMethod yX0_ticksOf, Cond.selects RX0 yX0_ticksOf yX0_ticksOf, Cond.code yX0_ticksOf cX0_ticksOf 2 (some .int), Cond.methodLink RX0 33 yX0_numberOf, Cond.instanceMethod yX0_numberOf, Cond.selects RX0 yX0_numberOf yX0_numberOf, Cond.code yX0_numberOf cX0_numberOf 4 (some .int), Cond.methodLink RX5 62 yX1_record, Cond.instanceMethod yX1_record, Cond.selects RX1 yX1_record yX1_record, Cond.initialized RX1, Cond.code yX1_record cX1_record 3 none, Cond.fieldLink RX1 15 "ShiftMaps$History" "next" "I", Cond.fieldLink RX1 19 "ShiftMaps$History" "size" "I", Cond.methodLink RX1 31 Lib.Math.min.name]
def wsX5_readDrive_r4 : List Cond := [Cond.static Lib.Math.min.name, Cond.initialized "java/lang/Math", Cond.code Lib.Math.min.name Lib.Math.min.code 2 (some .int), Cond.methodLink RX1 23 yX1_rowAt, Cond.instanceMethod yX1_rowAt, Cond.selects RX1 yX1_rowAt yX1_rowAt, Cond.code yX1_rowAt cX1_rowAt 2 (some (.object "ShiftMaps$State")), Cond.fieldLink RX1 11 "ShiftMaps$History" "states" "[LShiftMaps$State;", Cond.methodLink RX1 27 yX4_copyFrom, Cond.instanceMethod yX4_copyFrom, Cond.selects RX4 yX4_copyFrom yX4_copyFrom, Cond.code yX4_copyFrom cX4_copyFrom 2 none, Cond.fieldLink RX4 12 "ShiftMaps$State" "maps" "LShiftMaps$Maps;", Cond.fieldLink RX4 21 "ShiftMaps$State" "log" "LShiftMaps$Log;", Cond.methodLink RX4 59 arraycopyName, Cond.native arraycopyName, Cond.static arraycopyName, Cond.initialized "java/lang/System", Cond.fieldLink RX4 32 "ShiftMaps$State" "settings" "[I", Cond.fieldLink RX4 35 "ShiftMaps$State" "gear" "I", Cond.fieldLink RX4 39 "ShiftMaps$State" "target" "I", Cond.fieldLink RX4 42 "ShiftMaps$State" "done" "I", Cond.fieldLink RX4 45 "ShiftMaps$State" "held" "I", Cond.fieldLink RX4 48 "ShiftMaps$State" "handMode" "Z"]
def wsX5_readDrive_r5 : List Cond := [Cond.fieldLink RX4 52 "ShiftMaps$State" "latestSpeed" "F", Cond.fieldLink RX4 56 "ShiftMaps$State" "latestPedal" "F", Cond.methodLink RX4 65 yX3_copyFrom, Cond.instanceMethod yX3_copyFrom, Cond.selects RX3 yX3_copyFrom yX3_copyFrom, Cond.initialized RX3, Cond.code yX3_copyFrom cX3_copyFrom 2 none, Cond.fieldLink RX3 15 "ShiftMaps$Maps" "speeds" "[F", Cond.methodLink RX3 31 arraycopyName, Cond.methodLink RX4 69 yX2_copyFrom, Cond.instanceMethod yX2_copyFrom, Cond.selects RX2 yX2_copyFrom yX2_copyFrom, Cond.initialized RX2, Cond.code yX2_copyFrom cX2_copyFrom 2 none, Cond.fieldLink RX2 11 "ShiftMaps$Log" "cells" "[I", Cond.methodLink RX2 28 arraycopyName, Cond.fieldLink RX2 15 "ShiftMaps$Log" "next" "I", Cond.fieldLink RX2 19 "ShiftMaps$Log" "size" "I", Cond.methodLink RX5 110 yX0_partCount, Cond.instanceMethod yX0_partCount, Cond.selects RX0 yX0_partCount yX0_partCount, Cond.code yX0_partCount cX0_partCount 1 (some .int), Cond.methodLink RX5 113 yX0_speedOf, Cond.instanceMethod yX0_speedOf]
def wsX5_readDrive_r6 : List Cond := [Cond.selects RX0 yX0_speedOf yX0_speedOf, Cond.code yX0_speedOf cX0_speedOf 2 (some .int), Cond.methodLink RX5 116 yX0_hundredthsOf, Cond.instanceMethod yX0_hundredthsOf, Cond.selects RX0 yX0_hundredthsOf yX0_hundredthsOf, Cond.code yX0_hundredthsOf cX0_hundredthsOf 2 (some .int), Cond.methodLink RX5 120 yX0_ticksOf, Cond.methodLink RX5 100 yX4_passTicks, Cond.instanceMethod yX4_passTicks, Cond.selects RX4 yX4_passTicks yX4_passTicks, Cond.code yX4_passTicks cX4_passTicks 6 (some .int), Cond.methodLink RX4 79 yX4_passTick, Cond.instanceMethod yX4_passTick, Cond.selects RX4 yX4_passTick yX4_passTick, Cond.code yX4_passTick cX4_passTick 4 (some .boolean), Cond.methodLink RX4 83 yX4_goOnWithChange, Cond.instanceMethod yX4_goOnWithChange, Cond.selects RX4 yX4_goOnWithChange yX4_goOnWithChange, Cond.code yX4_goOnWithChange cX4_goOnWithChange 1 none, Cond.methodLink RX4 86 yX4_isChanging, Cond.instanceMethod yX4_isChanging, Cond.selects RX4 yX4_isChanging yX4_isChanging, Cond.code yX4_isChanging cX4_isChanging 1 (some .boolean), Cond.methodLink RX4 72 yX4_setting]
def wsX5_readDrive_r7 : List Cond := [Cond.instanceMethod yX4_setting, Cond.selects RX4 yX4_setting yX4_setting, Cond.code yX4_setting cX4_setting 2 (some .int), Cond.methodLink RX4 90 yX4_reasonToChange, Cond.instanceMethod yX4_reasonToChange, Cond.selects RX4 yX4_reasonToChange yX4_reasonToChange, Cond.code yX4_reasonToChange cX4_reasonToChange 3 (some .int), Cond.methodLink RX4 105 yX3_exceeds, Cond.instanceMethod yX3_exceeds, Cond.selects RX3 yX3_exceeds yX3_exceeds, Cond.code yX3_exceeds cX3_exceeds 3 (some .boolean), Cond.methodLink RX3 23 yX3_speed, Cond.instanceMethod yX3_speed, Cond.selects RX3 yX3_speed yX3_speed, Cond.code yX3_speed cX3_speed 4 (some .float), Cond.methodLink RX4 109 yX4_isDeep, Cond.static yX4_isDeep, Cond.code yX4_isDeep cX4_isDeep 1 (some .boolean), Cond.constantFloat RX4 124 (1064514355), Cond.methodLink RX4 113 yX4_kickdownGear, Cond.instanceMethod yX4_kickdownGear, Cond.selects RX4 yX4_kickdownGear yX4_kickdownGear, Cond.code yX4_kickdownGear cX4_kickdownGear 3 (some .int), Cond.methodLink RX4 125 Lib.Math.max.name]
def wsX5_readDrive_r8 : List Cond := [Cond.static Lib.Math.max.name, Cond.code Lib.Math.max.name Lib.Math.max.code 2 (some .int), Cond.methodLink RX4 117 yX3_upFrom, Cond.instanceMethod yX3_upFrom, Cond.selects RX3 yX3_upFrom yX3_upFrom, Cond.code yX3_upFrom cX3_upFrom 4 (some .float), Cond.methodLink RX4 121 yX3_downTo, Cond.instanceMethod yX3_downTo, Cond.selects RX3 yX3_downTo yX3_downTo, Cond.code yX3_downTo cX3_downTo 3 (some .float), Cond.methodLink RX3 27 yX3_upFrom, Cond.methodLink RX4 94 yX4_gearChosenBy, Cond.instanceMethod yX4_gearChosenBy, Cond.selects RX4 yX4_gearChosenBy yX4_gearChosenBy, Cond.code yX4_gearChosenBy cX4_gearChosenBy 3 (some .int), Cond.methodLink RX4 98 yX4_begin, Cond.instanceMethod yX4_begin, Cond.selects RX4 yX4_begin yX4_begin, Cond.code yX4_begin cX4_begin 4 none, Cond.methodLink RX4 135 yX4_swings, Cond.instanceMethod yX4_swings, Cond.selects RX4 yX4_swings yX4_swings, Cond.code yX4_swings cX4_swings 3 (some .boolean), Cond.methodLink RX4 147 yX2_told]
def wsX5_readDrive_r9 : List Cond := [Cond.instanceMethod yX2_told, Cond.selects RX2 yX2_told yX2_told, Cond.code yX2_told cX2_told 5 (some .int), Cond.methodLink RX4 139 yX4_tick, Cond.methodLink RX4 143 yX2_add, Cond.instanceMethod yX2_add, Cond.selects RX2 yX2_add yX2_add, Cond.code yX2_add cX2_add 7 none, Cond.methodLink RX2 22 Lib.Math.min.name, Cond.methodLink RX4 131 yX4_countOneMore, Cond.instanceMethod yX4_countOneMore, Cond.selects RX4 yX4_countOneMore yX4_countOneMore, Cond.code yX4_countOneMore cX4_countOneMore 2 none, Cond.methodLink RX4 102 yX4_countTick, Cond.instanceMethod yX4_countTick, Cond.selects RX4 yX4_countTick yX4_countTick, Cond.code yX4_countTick cX4_countTick 1 none]
def wsX5_readDrive : List Cond := .code yX5_readDrive cX5_readDrive 6 (some .int) :: ((wsX5_readDrive_r1 ++ (wsX5_readDrive_r2 ++ (wsX5_readDrive_r3 ++ (wsX5_readDrive_r4 ++ (wsX5_readDrive_r5 ++ (wsX5_readDrive_r6 ++ (wsX5_readDrive_r7 ++ (wsX5_readDrive_r8 ++ wsX5_readDrive_r9)))))))) ++ wsX50 ++ wsX00 ++ wsX40 ++ wsX10 ++ wsX30 ++ wsX20)
def wsX5_shift_r1 : List Cond := [Cond.fieldLink RX5 10 "ShiftMaps" "now" "LShiftMaps$State;", Cond.fieldLink RX5 25 "ShiftMaps" "history" "LShiftMaps$History;", Cond.methodLink RX5 123 yX4_mayShiftTo, Cond.instanceMethod yX4_mayShiftTo, Cond.selects RX4 yX4_mayShiftTo yX4_mayShiftTo, Cond.initialized RX4, Cond.code yX4_mayShiftTo cX4_mayShiftTo 2 (some .boolean), Cond.fieldLink RX4 48 "ShiftMaps$State" "handMode" "Z", Cond.fieldLink RX4 12 "ShiftMaps$State" "maps" "LShiftMaps$Maps;", Cond.fieldLink RX4 52 "ShiftMaps$State" "latestSpeed" "F", Cond.methodLink RX4 86 yX4_isChanging, Cond.instanceMethod yX4_isChanging, Cond.selects RX4 yX4_isChanging yX4_isChanging, Cond.code yX4_isChanging cX4_isChanging 1 (some .boolean), Cond.fieldLink RX4 39 "ShiftMaps$State" "target" "I", Cond.methodLink RX4 105 yX3_exceeds, Cond.instanceMethod yX3_exceeds, Cond.selects RX3 yX3_exceeds yX3_exceeds, Cond.initialized RX3, Cond.code yX3_exceeds cX3_exceeds 3 (some .boolean), Cond.methodLink RX3 23 yX3_speed, Cond.instanceMethod yX3_speed, Cond.selects RX3 yX3_speed yX3_speed, Cond.code yX3_speed cX3_speed 4 (some .float)]
def wsX5_shift_r2 : List Cond := [Cond.fieldLink RX3 15 "ShiftMaps$Maps" "speeds" "[F", Cond.methodLink RX5 62 yX1_record, Cond.instanceMethod yX1_record, Cond.selects RX1 yX1_record yX1_record, Cond.initialized RX1, Cond.code yX1_record cX1_record 3 none, Cond.fieldLink RX1 15 "ShiftMaps$History" "next" "I", Cond.fieldLink RX1 19 "ShiftMaps$History" "size" "I", Cond.methodLink RX1 31 Lib.Math.min.name, Cond.static Lib.Math.min.name, Cond.initialized "java/lang/Math", Cond.code Lib.Math.min.name Lib.Math.min.code 2 (some .int), Cond.methodLink RX1 23 yX1_rowAt, Cond.instanceMethod yX1_rowAt, Cond.selects RX1 yX1_rowAt yX1_rowAt, Cond.code yX1_rowAt cX1_rowAt 2 (some (.object "ShiftMaps$State")), Cond.fieldLink RX1 11 "ShiftMaps$History" "states" "[LShiftMaps$State;", Cond.methodLink RX1 27 yX4_copyFrom, Cond.instanceMethod yX4_copyFrom, Cond.selects RX4 yX4_copyFrom yX4_copyFrom, Cond.code yX4_copyFrom cX4_copyFrom 2 none, Cond.fieldLink RX4 21 "ShiftMaps$State" "log" "LShiftMaps$Log;", Cond.fieldLink RX4 25 "ShiftMaps$State" "counts" "[I", Cond.methodLink RX4 59 arraycopyName]
def wsX5_shift_r3 : List Cond := [Cond.native arraycopyName, Cond.static arraycopyName, Cond.initialized "java/lang/System", Cond.fieldLink RX4 32 "ShiftMaps$State" "settings" "[I", Cond.fieldLink RX4 35 "ShiftMaps$State" "gear" "I", Cond.fieldLink RX4 42 "ShiftMaps$State" "done" "I", Cond.fieldLink RX4 45 "ShiftMaps$State" "held" "I", Cond.fieldLink RX4 56 "ShiftMaps$State" "latestPedal" "F", Cond.methodLink RX4 65 yX3_copyFrom, Cond.instanceMethod yX3_copyFrom, Cond.selects RX3 yX3_copyFrom yX3_copyFrom, Cond.code yX3_copyFrom cX3_copyFrom 2 none, Cond.methodLink RX3 31 arraycopyName, Cond.methodLink RX4 69 yX2_copyFrom, Cond.instanceMethod yX2_copyFrom, Cond.selects RX2 yX2_copyFrom yX2_copyFrom, Cond.initialized RX2, Cond.code yX2_copyFrom cX2_copyFrom 2 none, Cond.fieldLink RX2 11 "ShiftMaps$Log" "cells" "[I", Cond.methodLink RX2 28 arraycopyName, Cond.fieldLink RX2 15 "ShiftMaps$Log" "next" "I", Cond.fieldLink RX2 19 "ShiftMaps$Log" "size" "I", Cond.methodLink RX5 126 yX4_begin, Cond.instanceMethod yX4_begin]
def wsX5_shift_r4 : List Cond := [Cond.selects RX4 yX4_begin yX4_begin, Cond.code yX4_begin cX4_begin 4 none, Cond.methodLink RX4 135 yX4_swings, Cond.instanceMethod yX4_swings, Cond.selects RX4 yX4_swings yX4_swings, Cond.code yX4_swings cX4_swings 3 (some .boolean), Cond.methodLink RX4 147 yX2_told, Cond.instanceMethod yX2_told, Cond.selects RX2 yX2_told yX2_told, Cond.code yX2_told cX2_told 5 (some .int), Cond.methodLink RX4 139 yX4_tick, Cond.instanceMethod yX4_tick, Cond.selects RX4 yX4_tick yX4_tick, Cond.code yX4_tick cX4_tick 1 (some .int), Cond.methodLink RX4 76 yX4_counted, Cond.instanceMethod yX4_counted, Cond.selects RX4 yX4_counted yX4_counted, Cond.code yX4_counted cX4_counted 2 (some .int), Cond.methodLink RX4 72 yX4_setting, Cond.instanceMethod yX4_setting, Cond.selects RX4 yX4_setting yX4_setting, Cond.code yX4_setting cX4_setting 2 (some .int), Cond.methodLink RX4 143 yX2_add, Cond.instanceMethod yX2_add]
def wsX5_shift_r5 : List Cond := [Cond.selects RX2 yX2_add yX2_add, Cond.code yX2_add cX2_add 7 none, Cond.methodLink RX2 22 Lib.Math.min.name, Cond.methodLink RX4 131 yX4_countOneMore, Cond.instanceMethod yX4_countOneMore, Cond.selects RX4 yX4_countOneMore yX4_countOneMore, Cond.code yX4_countOneMore cX4_countOneMore 2 none]
def wsX5_shift : List Cond := .code yX5_shift cX5_shift 3 (some .int) :: ((wsX5_shift_r1 ++ (wsX5_shift_r2 ++ (wsX5_shift_r3 ++ (wsX5_shift_r4 ++ wsX5_shift_r5)))) ++ wsX50 ++ wsX40 ++ wsX30 ++ wsX10 ++ wsX20)
def wsX5_type : List Cond := .code yX5_type cX5_type 2 (some .int) :: ([.fieldLink RX5 32 "ShiftMaps" "text" "LShiftMaps$DriveText;", .methodLink RX5 129 yX0_append, .instanceMethod yX0_append, .selects RX0 yX0_append yX0_append, .initialized RX0, .code yX0_append cX0_append 2 (some .boolean), .fieldLink RX0 13 "ShiftMaps$DriveText" "length" "I", .fieldLink RX0 9 "ShiftMaps$DriveText" "characters" "[C", .methodLink RX5 133 yX0_length, .instanceMethod yX0_length, .selects RX0 yX0_length yX0_length, .code yX0_length cX0_length 1 (some .int)] ++ wsX50 ++ wsX00)
def wsX5_clearText : List Cond := .code yX5_clearText cX5_clearText 2 (some .int) :: ([.fieldLink RX5 32 "ShiftMaps" "text" "LShiftMaps$DriveText;", .methodLink RX5 133 yX0_length, .instanceMethod yX0_length, .selects RX0 yX0_length yX0_length, .initialized RX0, .code yX0_length cX0_length 1 (some .int), .fieldLink RX0 13 "ShiftMaps$DriveText" "length" "I", .methodLink RX5 136 yX0_clear, .instanceMethod yX0_clear, .selects RX0 yX0_clear yX0_clear, .code yX0_clear cX0_clear 1 none] ++ wsX50 ++ wsX00)
def wsX5_undo_r1 : List Cond := [Cond.fieldLink RX5 25 "ShiftMaps" "history" "LShiftMaps$History;", Cond.fieldLink RX5 10 "ShiftMaps" "now" "LShiftMaps$State;", Cond.methodLink RX5 139 yX1_takeLatestInto, Cond.instanceMethod yX1_takeLatestInto, Cond.selects RX1 yX1_takeLatestInto yX1_takeLatestInto, Cond.initialized RX1, Cond.code yX1_takeLatestInto cX1_takeLatestInto 4 (some .boolean), Cond.fieldLink RX1 15 "ShiftMaps$History" "next" "I", Cond.fieldLink RX1 19 "ShiftMaps$History" "size" "I", Cond.methodLink RX1 23 yX1_rowAt, Cond.instanceMethod yX1_rowAt, Cond.selects RX1 yX1_rowAt yX1_rowAt, Cond.code yX1_rowAt cX1_rowAt 2 (some (.object "ShiftMaps$State")), Cond.fieldLink RX1 11 "ShiftMaps$History" "states" "[LShiftMaps$State;", Cond.methodLink RX1 27 yX4_copyFrom, Cond.instanceMethod yX4_copyFrom, Cond.selects RX4 yX4_copyFrom yX4_copyFrom, Cond.initialized RX4, Cond.code yX4_copyFrom cX4_copyFrom 2 none, Cond.fieldLink RX4 12 "ShiftMaps$State" "maps" "LShiftMaps$Maps;", Cond.fieldLink RX4 21 "ShiftMaps$State" "log" "LShiftMaps$Log;", Cond.fieldLink RX4 25 "ShiftMaps$State" "counts" "[I", Cond.methodLink RX4 59 arraycopyName, Cond.native arraycopyName]
def wsX5_undo_r2 : List Cond := [Cond.static arraycopyName, Cond.initialized "java/lang/System", Cond.fieldLink RX4 32 "ShiftMaps$State" "settings" "[I", Cond.fieldLink RX4 35 "ShiftMaps$State" "gear" "I", Cond.fieldLink RX4 39 "ShiftMaps$State" "target" "I", Cond.fieldLink RX4 42 "ShiftMaps$State" "done" "I", Cond.fieldLink RX4 45 "ShiftMaps$State" "held" "I", Cond.fieldLink RX4 48 "ShiftMaps$State" "handMode" "Z", Cond.fieldLink RX4 52 "ShiftMaps$State" "latestSpeed" "F", Cond.fieldLink RX4 56 "ShiftMaps$State" "latestPedal" "F", Cond.methodLink RX4 65 yX3_copyFrom, Cond.instanceMethod yX3_copyFrom, Cond.selects RX3 yX3_copyFrom yX3_copyFrom, Cond.initialized RX3, Cond.code yX3_copyFrom cX3_copyFrom 2 none, Cond.fieldLink RX3 15 "ShiftMaps$Maps" "speeds" "[F", Cond.methodLink RX3 31 arraycopyName, Cond.methodLink RX4 69 yX2_copyFrom, Cond.instanceMethod yX2_copyFrom, Cond.selects RX2 yX2_copyFrom yX2_copyFrom, Cond.initialized RX2, Cond.code yX2_copyFrom cX2_copyFrom 2 none, Cond.fieldLink RX2 11 "ShiftMaps$Log" "cells" "[I", Cond.methodLink RX2 28 arraycopyName]
def wsX5_undo_r3 : List Cond := [Cond.fieldLink RX2 15 "ShiftMaps$Log" "next" "I", Cond.fieldLink RX2 19 "ShiftMaps$Log" "size" "I", Cond.methodLink RX5 143 yX1_size, Cond.instanceMethod yX1_size, Cond.selects RX1 yX1_size yX1_size, Cond.code yX1_size cX1_size 1 (some .int)]
def wsX5_undo : List Cond := .code yX5_undo cX5_undo 1 (some .int) :: ((wsX5_undo_r1 ++ (wsX5_undo_r2 ++ wsX5_undo_r3)) ++ wsX50 ++ wsX10 ++ wsX40 ++ wsX30 ++ wsX20)
def wsX5_car_r1 : List Cond := [Cond.fieldLink RX5 10 "ShiftMaps" "now" "LShiftMaps$State;", Cond.methodLink RX5 73 yX4_isChanging, Cond.instanceMethod yX4_isChanging, Cond.selects RX4 yX4_isChanging yX4_isChanging, Cond.initialized RX4, Cond.code yX4_isChanging cX4_isChanging 1 (some .boolean), Cond.fieldLink RX4 39 "ShiftMaps$State" "target" "I", Cond.methodLink RX5 158 yX4_opening, Cond.instanceMethod yX4_opening, Cond.selects RX4 yX4_opening yX4_opening, Cond.code yX4_opening cX4_opening 1 (some .int), Cond.fieldLink RX4 35 "ShiftMaps$State" "gear" "I", Cond.methodLink RX4 86 yX4_isChanging, Cond.methodLink RX4 160 yX4_closedOnlyIn, Cond.static yX4_closedOnlyIn, Cond.code yX4_closedOnlyIn cX4_closedOnlyIn 3 (some .int), Cond.methodLink RX4 156 yX4_isClosed, Cond.static yX4_isClosed, Cond.code yX4_isClosed cX4_isClosed 3 (some .boolean), Cond.fieldLink RX4 150 "ShiftMaps$State" "LOWER_CLUTCH" "[I", Cond.fieldLink RX4 153 "ShiftMaps$State" "HIGHER_CLUTCH" "[I", Cond.methodLink RX5 161 yX4_closing, Cond.instanceMethod yX4_closing, Cond.selects RX4 yX4_closing yX4_closing]
def wsX5_car_r2 : List Cond := [Cond.code yX4_closing cX4_closing 1 (some .int)]
def wsX5_car : List Cond := .code yX5_car cX5_car 2 (some .int) :: ((wsX5_car_r1 ++ wsX5_car_r2) ++ wsX50 ++ wsX40)
def wsX5_notANumber : List Cond := .code yX5_notANumber cX5_notANumber 0 (some .float) :: ([.constantFloat RX5 203 (2143289344)])
def wsX5_pressed_r1 : List Cond := [Cond.fieldLink RX5 10 "ShiftMaps" "now" "LShiftMaps$State;", Cond.methodLink RX5 164 yX4_pressureOf, Cond.instanceMethod yX4_pressureOf, Cond.selects RX4 yX4_pressureOf yX4_pressureOf, Cond.initialized RX4, Cond.code yX4_pressureOf cX4_pressureOf 2 (some .float), Cond.fieldLink RX4 35 "ShiftMaps$State" "gear" "I", Cond.methodLink RX4 86 yX4_isChanging, Cond.instanceMethod yX4_isChanging, Cond.selects RX4 yX4_isChanging yX4_isChanging, Cond.code yX4_isChanging cX4_isChanging 1 (some .boolean), Cond.fieldLink RX4 39 "ShiftMaps$State" "target" "I", Cond.methodLink RX4 163 yX4_opening, Cond.instanceMethod yX4_opening, Cond.selects RX4 yX4_opening yX4_opening, Cond.code yX4_opening cX4_opening 1 (some .int), Cond.methodLink RX4 160 yX4_closedOnlyIn, Cond.static yX4_closedOnlyIn, Cond.code yX4_closedOnlyIn cX4_closedOnlyIn 3 (some .int), Cond.methodLink RX4 156 yX4_isClosed, Cond.static yX4_isClosed, Cond.code yX4_isClosed cX4_isClosed 3 (some .boolean), Cond.fieldLink RX4 150 "ShiftMaps$State" "LOWER_CLUTCH" "[I", Cond.fieldLink RX4 153 "ShiftMaps$State" "HIGHER_CLUTCH" "[I"]
def wsX5_pressed_r2 : List Cond := [Cond.methodLink RX4 166 yX4_openingPressure, Cond.instanceMethod yX4_openingPressure, Cond.selects RX4 yX4_openingPressure yX4_openingPressure, Cond.code yX4_openingPressure cX4_openingPressure 2 (some .float), Cond.fieldLink RX4 42 "ShiftMaps$State" "done" "I", Cond.methodLink RX4 72 yX4_setting, Cond.instanceMethod yX4_setting, Cond.selects RX4 yX4_setting yX4_setting, Cond.code yX4_setting cX4_setting 2 (some .int), Cond.fieldLink RX4 32 "ShiftMaps$State" "settings" "[I", Cond.methodLink RX4 170 yX4_closing, Cond.instanceMethod yX4_closing, Cond.selects RX4 yX4_closing yX4_closing, Cond.code yX4_closing cX4_closing 1 (some .int), Cond.methodLink RX4 173 yX4_closingPressure, Cond.instanceMethod yX4_closingPressure, Cond.selects RX4 yX4_closingPressure yX4_closingPressure, Cond.code yX4_closingPressure cX4_closingPressure 3 (some .float), Cond.methodLink RX5 167 yX5_notANumber, Cond.static yX5_notANumber, Cond.initialized RX5, Cond.code yX5_notANumber cX5_notANumber 0 (some .float), Cond.constantFloat RX5 203 (2143289344)]
def wsX5_pressed : List Cond := .code yX5_pressed cX5_pressed 2 (some .float) :: ((wsX5_pressed_r1 ++ wsX5_pressed_r2) ++ wsX50 ++ wsX40)
def wsX5_force_r1 : List Cond := [Cond.fieldLink RX5 10 "ShiftMaps" "now" "LShiftMaps$State;", Cond.methodLink RX5 171 yX4_greaterPressure, Cond.instanceMethod yX4_greaterPressure, Cond.selects RX4 yX4_greaterPressure yX4_greaterPressure, Cond.initialized RX4, Cond.code yX4_greaterPressure cX4_greaterPressure 3 (some .float), Cond.methodLink RX4 86 yX4_isChanging, Cond.instanceMethod yX4_isChanging, Cond.selects RX4 yX4_isChanging yX4_isChanging, Cond.code yX4_isChanging cX4_isChanging 1 (some .boolean), Cond.fieldLink RX4 39 "ShiftMaps$State" "target" "I", Cond.methodLink RX4 166 yX4_openingPressure, Cond.instanceMethod yX4_openingPressure, Cond.selects RX4 yX4_openingPressure yX4_openingPressure, Cond.code yX4_openingPressure cX4_openingPressure 2 (some .float), Cond.fieldLink RX4 42 "ShiftMaps$State" "done" "I", Cond.methodLink RX4 72 yX4_setting, Cond.instanceMethod yX4_setting, Cond.selects RX4 yX4_setting yX4_setting, Cond.code yX4_setting cX4_setting 2 (some .int), Cond.fieldLink RX4 32 "ShiftMaps$State" "settings" "[I", Cond.methodLink RX4 173 yX4_closingPressure, Cond.instanceMethod yX4_closingPressure, Cond.selects RX4 yX4_closingPressure yX4_closingPressure]
def wsX5_force_r2 : List Cond := [Cond.code yX4_closingPressure cX4_closingPressure 3 (some .float)]
def wsX5_force : List Cond := .code yX5_force cX5_force 1 (some .float) :: ((wsX5_force_r1 ++ wsX5_force_r2) ++ wsX50 ++ wsX40)
def wsX5_map : List Cond := .code yX5_map cX5_map 3 (some .float) :: ([.fieldLink RX5 10 "ShiftMaps" "now" "LShiftMaps$State;", .methodLink RX5 40 yX3_has, .static yX3_has, .initialized RX3, .code yX3_has cX3_has 2 (some .boolean), .methodLink RX5 58 yX3_speed, .instanceMethod yX3_speed, .selects RX3 yX3_speed yX3_speed, .code yX3_speed cX3_speed 4 (some .float), .fieldLink RX3 15 "ShiftMaps$Maps" "speeds" "[F", .methodLink RX5 167 yX5_notANumber, .static yX5_notANumber, .initialized RX5, .code yX5_notANumber cX5_notANumber 0 (some .float), .constantFloat RX5 203 (2143289344)] ++ wsX50 ++ wsX40 ++ wsX30)
def wsX5_border_r1 : List Cond := [Cond.fieldLink RX5 10 "ShiftMaps" "now" "LShiftMaps$State;", Cond.methodLink RX5 40 yX3_has, Cond.static yX3_has, Cond.initialized RX3, Cond.code yX3_has cX3_has 2 (some .boolean), Cond.methodLink RX5 92 yX5_isPedal, Cond.static yX5_isPedal, Cond.initialized RX5, Cond.code yX5_isPedal cX5_isPedal 1 (some .boolean), Cond.constant RX5 199 (1065353216), Cond.methodLink RX5 167 yX5_notANumber, Cond.static yX5_notANumber, Cond.code yX5_notANumber cX5_notANumber 0 (some .float), Cond.constantFloat RX5 203 (2143289344), Cond.methodLink RX5 50 yX5_floatOf, Cond.static yX5_floatOf, Cond.code yX5_floatOf cX5_floatOf 5 (some .float), Cond.constant RX5 200 (8388607), Cond.constant RX5 201 (8388608), Cond.constantFloat RX5 202 (1056964608), Cond.methodLink RX5 174 yX3_upFrom, Cond.instanceMethod yX3_upFrom, Cond.selects RX3 yX3_upFrom yX3_upFrom, Cond.code yX3_upFrom cX3_upFrom 4 (some .float)]
def wsX5_border_r2 : List Cond := [Cond.methodLink RX3 23 yX3_speed, Cond.instanceMethod yX3_speed, Cond.selects RX3 yX3_speed yX3_speed, Cond.code yX3_speed cX3_speed 4 (some .float), Cond.fieldLink RX3 15 "ShiftMaps$Maps" "speeds" "[F", Cond.methodLink RX5 178 yX3_downTo, Cond.instanceMethod yX3_downTo, Cond.selects RX3 yX3_downTo yX3_downTo, Cond.code yX3_downTo cX3_downTo 3 (some .float), Cond.methodLink RX3 27 yX3_upFrom]
def wsX5_border : List Cond := .code yX5_border cX5_border 5 (some .float) :: ((wsX5_border_r1 ++ wsX5_border_r2) ++ wsX50 ++ wsX40 ++ wsX30)
def wsX5_number : List Cond := .code yX5_number cX5_number 2 (some .int) :: ([.fieldLink RX5 10 "ShiftMaps" "now" "LShiftMaps$State;", .methodLink RX5 77 yX4_setting, .instanceMethod yX4_setting, .selects RX4 yX4_setting yX4_setting, .initialized RX4, .code yX4_setting cX4_setting 2 (some .int), .fieldLink RX4 32 "ShiftMaps$State" "settings" "[I"] ++ wsX50 ++ wsX40)
def wsX5_wouldChoose_r1 : List Cond := [Cond.fieldLink RX5 19 "ShiftMaps" "forecast" "LShiftMaps$State;", Cond.fieldLink RX5 10 "ShiftMaps" "now" "LShiftMaps$State;", Cond.methodLink RX5 46 yX5_isSpeed, Cond.static yX5_isSpeed, Cond.initialized RX5, Cond.code yX5_isSpeed cX5_isSpeed 1 (some .boolean), Cond.constant RX5 198 (1133903872), Cond.methodLink RX5 92 yX5_isPedal, Cond.static yX5_isPedal, Cond.code yX5_isPedal cX5_isPedal 1 (some .boolean), Cond.constant RX5 199 (1065353216), Cond.methodLink RX5 146 yX4_copyFrom, Cond.instanceMethod yX4_copyFrom, Cond.selects RX4 yX4_copyFrom yX4_copyFrom, Cond.initialized RX4, Cond.code yX4_copyFrom cX4_copyFrom 2 none, Cond.fieldLink RX4 12 "ShiftMaps$State" "maps" "LShiftMaps$Maps;", Cond.fieldLink RX4 21 "ShiftMaps$State" "log" "LShiftMaps$Log;", Cond.fieldLink RX4 25 "ShiftMaps$State" "counts" "[I", Cond.methodLink RX4 59 arraycopyName, Cond.native arraycopyName, Cond.static arraycopyName, Cond.initialized "java/lang/System", Cond.fieldLink RX4 32 "ShiftMaps$State" "settings" "[I"]
def wsX5_wouldChoose_r2 : List Cond := [Cond.fieldLink RX4 35 "ShiftMaps$State" "gear" "I", Cond.fieldLink RX4 39 "ShiftMaps$State" "target" "I", Cond.fieldLink RX4 42 "ShiftMaps$State" "done" "I", Cond.fieldLink RX4 45 "ShiftMaps$State" "held" "I", Cond.fieldLink RX4 48 "ShiftMaps$State" "handMode" "Z", Cond.fieldLink RX4 52 "ShiftMaps$State" "latestSpeed" "F", Cond.fieldLink RX4 56 "ShiftMaps$State" "latestPedal" "F", Cond.methodLink RX4 65 yX3_copyFrom, Cond.instanceMethod yX3_copyFrom, Cond.selects RX3 yX3_copyFrom yX3_copyFrom, Cond.initialized RX3, Cond.code yX3_copyFrom cX3_copyFrom 2 none, Cond.fieldLink RX3 15 "ShiftMaps$Maps" "speeds" "[F", Cond.methodLink RX3 31 arraycopyName, Cond.methodLink RX4 69 yX2_copyFrom, Cond.instanceMethod yX2_copyFrom, Cond.selects RX2 yX2_copyFrom yX2_copyFrom, Cond.initialized RX2, Cond.code yX2_copyFrom cX2_copyFrom 2 none, Cond.fieldLink RX2 11 "ShiftMaps$Log" "cells" "[I", Cond.methodLink RX2 28 arraycopyName, Cond.fieldLink RX2 15 "ShiftMaps$Log" "next" "I", Cond.fieldLink RX2 19 "ShiftMaps$Log" "size" "I", Cond.methodLink RX5 50 yX5_floatOf]
def wsX5_wouldChoose_r3 : List Cond := [Cond.static yX5_floatOf, Cond.code yX5_floatOf cX5_floatOf 5 (some .float), Cond.constant RX5 200 (8388607), Cond.constant RX5 201 (8388608), Cond.constantFloat RX5 202 (1056964608), Cond.methodLink RX5 181 yX4_passTick, Cond.instanceMethod yX4_passTick, Cond.selects RX4 yX4_passTick yX4_passTick, Cond.code yX4_passTick cX4_passTick 4 (some .boolean), Cond.methodLink RX4 83 yX4_goOnWithChange, Cond.instanceMethod yX4_goOnWithChange, Cond.selects RX4 yX4_goOnWithChange yX4_goOnWithChange, Cond.code yX4_goOnWithChange cX4_goOnWithChange 1 none, Cond.methodLink RX4 86 yX4_isChanging, Cond.instanceMethod yX4_isChanging, Cond.selects RX4 yX4_isChanging yX4_isChanging, Cond.code yX4_isChanging cX4_isChanging 1 (some .boolean), Cond.methodLink RX4 72 yX4_setting, Cond.instanceMethod yX4_setting, Cond.selects RX4 yX4_setting yX4_setting, Cond.code yX4_setting cX4_setting 2 (some .int), Cond.methodLink RX4 90 yX4_reasonToChange, Cond.instanceMethod yX4_reasonToChange, Cond.selects RX4 yX4_reasonToChange yX4_reasonToChange]
def wsX5_wouldChoose_r4 : List Cond := [Cond.code yX4_reasonToChange cX4_reasonToChange 3 (some .int), Cond.methodLink RX4 105 yX3_exceeds, Cond.instanceMethod yX3_exceeds, Cond.selects RX3 yX3_exceeds yX3_exceeds, Cond.code yX3_exceeds cX3_exceeds 3 (some .boolean), Cond.methodLink RX3 23 yX3_speed, Cond.instanceMethod yX3_speed, Cond.selects RX3 yX3_speed yX3_speed, Cond.code yX3_speed cX3_speed 4 (some .float), Cond.methodLink RX4 109 yX4_isDeep, Cond.static yX4_isDeep, Cond.code yX4_isDeep cX4_isDeep 1 (some .boolean), Cond.constantFloat RX4 124 (1064514355), Cond.methodLink RX4 113 yX4_kickdownGear, Cond.instanceMethod yX4_kickdownGear, Cond.selects RX4 yX4_kickdownGear yX4_kickdownGear, Cond.code yX4_kickdownGear cX4_kickdownGear 3 (some .int), Cond.methodLink RX4 125 Lib.Math.max.name, Cond.static Lib.Math.max.name, Cond.initialized "java/lang/Math", Cond.code Lib.Math.max.name Lib.Math.max.code 2 (some .int), Cond.methodLink RX4 117 yX3_upFrom, Cond.instanceMethod yX3_upFrom, Cond.selects RX3 yX3_upFrom yX3_upFrom]
def wsX5_wouldChoose_r5 : List Cond := [Cond.code yX3_upFrom cX3_upFrom 4 (some .float), Cond.methodLink RX4 121 yX3_downTo, Cond.instanceMethod yX3_downTo, Cond.selects RX3 yX3_downTo yX3_downTo, Cond.code yX3_downTo cX3_downTo 3 (some .float), Cond.methodLink RX3 27 yX3_upFrom, Cond.methodLink RX4 94 yX4_gearChosenBy, Cond.instanceMethod yX4_gearChosenBy, Cond.selects RX4 yX4_gearChosenBy yX4_gearChosenBy, Cond.code yX4_gearChosenBy cX4_gearChosenBy 3 (some .int), Cond.methodLink RX4 98 yX4_begin, Cond.instanceMethod yX4_begin, Cond.selects RX4 yX4_begin yX4_begin, Cond.code yX4_begin cX4_begin 4 none, Cond.methodLink RX4 135 yX4_swings, Cond.instanceMethod yX4_swings, Cond.selects RX4 yX4_swings yX4_swings, Cond.code yX4_swings cX4_swings 3 (some .boolean), Cond.methodLink RX4 147 yX2_told, Cond.instanceMethod yX2_told, Cond.selects RX2 yX2_told yX2_told, Cond.code yX2_told cX2_told 5 (some .int), Cond.methodLink RX4 139 yX4_tick, Cond.instanceMethod yX4_tick]
def wsX5_wouldChoose_r6 : List Cond := [Cond.selects RX4 yX4_tick yX4_tick, Cond.code yX4_tick cX4_tick 1 (some .int), Cond.methodLink RX4 76 yX4_counted, Cond.instanceMethod yX4_counted, Cond.selects RX4 yX4_counted yX4_counted, Cond.code yX4_counted cX4_counted 2 (some .int), Cond.methodLink RX4 143 yX2_add, Cond.instanceMethod yX2_add, Cond.selects RX2 yX2_add yX2_add, Cond.code yX2_add cX2_add 7 none, Cond.methodLink RX2 22 Lib.Math.min.name, Cond.static Lib.Math.min.name, Cond.code Lib.Math.min.name Lib.Math.min.code 2 (some .int), Cond.methodLink RX4 131 yX4_countOneMore, Cond.instanceMethod yX4_countOneMore, Cond.selects RX4 yX4_countOneMore yX4_countOneMore, Cond.code yX4_countOneMore cX4_countOneMore 2 none, Cond.methodLink RX4 102 yX4_countTick, Cond.instanceMethod yX4_countTick, Cond.selects RX4 yX4_countTick yX4_countTick, Cond.code yX4_countTick cX4_countTick 1 none]
def wsX5_wouldChoose : List Cond := .code yX5_wouldChoose cX5_wouldChoose 3 (some .int) :: ((wsX5_wouldChoose_r1 ++ (wsX5_wouldChoose_r2 ++ (wsX5_wouldChoose_r3 ++ (wsX5_wouldChoose_r4 ++ (wsX5_wouldChoose_r5 ++ wsX5_wouldChoose_r6))))) ++ wsX50 ++ wsX40 ++ wsX30 ++ wsX20)
def wsX5_settles_r1 : List Cond := [Cond.fieldLink RX5 19 "ShiftMaps" "forecast" "LShiftMaps$State;", Cond.fieldLink RX5 10 "ShiftMaps" "now" "LShiftMaps$State;", Cond.methodLink RX5 46 yX5_isSpeed, Cond.static yX5_isSpeed, Cond.initialized RX5, Cond.code yX5_isSpeed cX5_isSpeed 1 (some .boolean), Cond.constant RX5 198 (1133903872), Cond.methodLink RX5 92 yX5_isPedal, Cond.static yX5_isPedal, Cond.code yX5_isPedal cX5_isPedal 1 (some .boolean), Cond.constant RX5 199 (1065353216), Cond.methodLink RX5 146 yX4_copyFrom, Cond.instanceMethod yX4_copyFrom, Cond.selects RX4 yX4_copyFrom yX4_copyFrom, Cond.initialized RX4, Cond.code yX4_copyFrom cX4_copyFrom 2 none, Cond.fieldLink RX4 12 "ShiftMaps$State" "maps" "LShiftMaps$Maps;", Cond.fieldLink RX4 21 "ShiftMaps$State" "log" "LShiftMaps$Log;", Cond.fieldLink RX4 25 "ShiftMaps$State" "counts" "[I", Cond.methodLink RX4 59 arraycopyName, Cond.native arraycopyName, Cond.static arraycopyName, Cond.initialized "java/lang/System", Cond.fieldLink RX4 32 "ShiftMaps$State" "settings" "[I"]
def wsX5_settles_r2 : List Cond := [Cond.fieldLink RX4 35 "ShiftMaps$State" "gear" "I", Cond.fieldLink RX4 39 "ShiftMaps$State" "target" "I", Cond.fieldLink RX4 42 "ShiftMaps$State" "done" "I", Cond.fieldLink RX4 45 "ShiftMaps$State" "held" "I", Cond.fieldLink RX4 48 "ShiftMaps$State" "handMode" "Z", Cond.fieldLink RX4 52 "ShiftMaps$State" "latestSpeed" "F", Cond.fieldLink RX4 56 "ShiftMaps$State" "latestPedal" "F", Cond.methodLink RX4 65 yX3_copyFrom, Cond.instanceMethod yX3_copyFrom, Cond.selects RX3 yX3_copyFrom yX3_copyFrom, Cond.initialized RX3, Cond.code yX3_copyFrom cX3_copyFrom 2 none, Cond.fieldLink RX3 15 "ShiftMaps$Maps" "speeds" "[F", Cond.methodLink RX3 31 arraycopyName, Cond.methodLink RX4 69 yX2_copyFrom, Cond.instanceMethod yX2_copyFrom, Cond.selects RX2 yX2_copyFrom yX2_copyFrom, Cond.initialized RX2, Cond.code yX2_copyFrom cX2_copyFrom 2 none, Cond.fieldLink RX2 11 "ShiftMaps$Log" "cells" "[I", Cond.methodLink RX2 28 arraycopyName, Cond.fieldLink RX2 15 "ShiftMaps$Log" "next" "I", Cond.fieldLink RX2 19 "ShiftMaps$Log" "size" "I", Cond.methodLink RX5 50 yX5_floatOf]
def wsX5_settles_r3 : List Cond := [Cond.static yX5_floatOf, Cond.code yX5_floatOf cX5_floatOf 5 (some .float), Cond.constant RX5 200 (8388607), Cond.constant RX5 201 (8388608), Cond.constantFloat RX5 202 (1056964608), Cond.methodLink RX5 181 yX4_passTick, Cond.instanceMethod yX4_passTick, Cond.selects RX4 yX4_passTick yX4_passTick, Cond.code yX4_passTick cX4_passTick 4 (some .boolean), Cond.methodLink RX4 83 yX4_goOnWithChange, Cond.instanceMethod yX4_goOnWithChange, Cond.selects RX4 yX4_goOnWithChange yX4_goOnWithChange, Cond.code yX4_goOnWithChange cX4_goOnWithChange 1 none, Cond.methodLink RX4 86 yX4_isChanging, Cond.instanceMethod yX4_isChanging, Cond.selects RX4 yX4_isChanging yX4_isChanging, Cond.code yX4_isChanging cX4_isChanging 1 (some .boolean), Cond.methodLink RX4 72 yX4_setting, Cond.instanceMethod yX4_setting, Cond.selects RX4 yX4_setting yX4_setting, Cond.code yX4_setting cX4_setting 2 (some .int), Cond.methodLink RX4 90 yX4_reasonToChange, Cond.instanceMethod yX4_reasonToChange, Cond.selects RX4 yX4_reasonToChange yX4_reasonToChange]
def wsX5_settles_r4 : List Cond := [Cond.code yX4_reasonToChange cX4_reasonToChange 3 (some .int), Cond.methodLink RX4 105 yX3_exceeds, Cond.instanceMethod yX3_exceeds, Cond.selects RX3 yX3_exceeds yX3_exceeds, Cond.code yX3_exceeds cX3_exceeds 3 (some .boolean), Cond.methodLink RX3 23 yX3_speed, Cond.instanceMethod yX3_speed, Cond.selects RX3 yX3_speed yX3_speed, Cond.code yX3_speed cX3_speed 4 (some .float), Cond.methodLink RX4 109 yX4_isDeep, Cond.static yX4_isDeep, Cond.code yX4_isDeep cX4_isDeep 1 (some .boolean), Cond.constantFloat RX4 124 (1064514355), Cond.methodLink RX4 113 yX4_kickdownGear, Cond.instanceMethod yX4_kickdownGear, Cond.selects RX4 yX4_kickdownGear yX4_kickdownGear, Cond.code yX4_kickdownGear cX4_kickdownGear 3 (some .int), Cond.methodLink RX4 125 Lib.Math.max.name, Cond.static Lib.Math.max.name, Cond.initialized "java/lang/Math", Cond.code Lib.Math.max.name Lib.Math.max.code 2 (some .int), Cond.methodLink RX4 117 yX3_upFrom, Cond.instanceMethod yX3_upFrom, Cond.selects RX3 yX3_upFrom yX3_upFrom]
def wsX5_settles_r5 : List Cond := [Cond.code yX3_upFrom cX3_upFrom 4 (some .float), Cond.methodLink RX4 121 yX3_downTo, Cond.instanceMethod yX3_downTo, Cond.selects RX3 yX3_downTo yX3_downTo, Cond.code yX3_downTo cX3_downTo 3 (some .float), Cond.methodLink RX3 27 yX3_upFrom, Cond.methodLink RX4 94 yX4_gearChosenBy, Cond.instanceMethod yX4_gearChosenBy, Cond.selects RX4 yX4_gearChosenBy yX4_gearChosenBy, Cond.code yX4_gearChosenBy cX4_gearChosenBy 3 (some .int), Cond.methodLink RX4 98 yX4_begin, Cond.instanceMethod yX4_begin, Cond.selects RX4 yX4_begin yX4_begin, Cond.code yX4_begin cX4_begin 4 none, Cond.methodLink RX4 135 yX4_swings, Cond.instanceMethod yX4_swings, Cond.selects RX4 yX4_swings yX4_swings, Cond.code yX4_swings cX4_swings 3 (some .boolean), Cond.methodLink RX4 147 yX2_told, Cond.instanceMethod yX2_told, Cond.selects RX2 yX2_told yX2_told, Cond.code yX2_told cX2_told 5 (some .int), Cond.methodLink RX4 139 yX4_tick, Cond.instanceMethod yX4_tick]
def wsX5_settles_r6 : List Cond := [Cond.selects RX4 yX4_tick yX4_tick, Cond.code yX4_tick cX4_tick 1 (some .int), Cond.methodLink RX4 76 yX4_counted, Cond.instanceMethod yX4_counted, Cond.selects RX4 yX4_counted yX4_counted, Cond.code yX4_counted cX4_counted 2 (some .int), Cond.methodLink RX4 143 yX2_add, Cond.instanceMethod yX2_add, Cond.selects RX2 yX2_add yX2_add, Cond.code yX2_add cX2_add 7 none, Cond.methodLink RX2 22 Lib.Math.min.name, Cond.static Lib.Math.min.name, Cond.code Lib.Math.min.name Lib.Math.min.code 2 (some .int), Cond.methodLink RX4 131 yX4_countOneMore, Cond.instanceMethod yX4_countOneMore, Cond.selects RX4 yX4_countOneMore yX4_countOneMore, Cond.code yX4_countOneMore cX4_countOneMore 2 none, Cond.methodLink RX4 102 yX4_countTick, Cond.instanceMethod yX4_countTick, Cond.selects RX4 yX4_countTick yX4_countTick, Cond.code yX4_countTick cX4_countTick 1 none]
def wsX5_settles : List Cond := .code yX5_settles cX5_settles 7 (some .int) :: ((wsX5_settles_r1 ++ (wsX5_settles_r2 ++ (wsX5_settles_r3 ++ (wsX5_settles_r4 ++ (wsX5_settles_r5 ++ wsX5_settles_r6))))) ++ wsX50 ++ wsX40 ++ wsX30 ++ wsX20)
def wsX5_change : List Cond := .code yX5_change cX5_change 3 (some .int) :: ([.fieldLink RX5 10 "ShiftMaps" "now" "LShiftMaps$State;", .methodLink RX5 191 yX2_told, .instanceMethod yX2_told, .selects RX2 yX2_told yX2_told, .initialized RX2, .code yX2_told cX2_told 5 (some .int), .fieldLink RX2 19 "ShiftMaps$Log" "size" "I", .fieldLink RX2 15 "ShiftMaps$Log" "next" "I", .fieldLink RX2 11 "ShiftMaps$Log" "cells" "[I"] ++ wsX50 ++ wsX40 ++ wsX20)
def wsX5_count : List Cond := .code yX5_count cX5_count 2 (some .int) :: ([.fieldLink RX5 25 "ShiftMaps" "history" "LShiftMaps$History;", .fieldLink RX5 32 "ShiftMaps" "text" "LShiftMaps$DriveText;", .fieldLink RX5 10 "ShiftMaps" "now" "LShiftMaps$State;", .methodLink RX5 143 yX1_size, .instanceMethod yX1_size, .selects RX1 yX1_size yX1_size, .initialized RX1, .code yX1_size cX1_size 1 (some .int), .fieldLink RX1 19 "ShiftMaps$History" "size" "I", .methodLink RX5 133 yX0_length, .instanceMethod yX0_length, .selects RX0 yX0_length yX0_length, .initialized RX0, .code yX0_length cX0_length 1 (some .int), .fieldLink RX0 13 "ShiftMaps$DriveText" "length" "I", .methodLink RX5 195 yX4_counted, .instanceMethod yX4_counted, .selects RX4 yX4_counted yX4_counted, .initialized RX4, .code yX4_counted cX4_counted 2 (some .int), .fieldLink RX4 25 "ShiftMaps$State" "counts" "[I"] ++ wsX50 ++ wsX10 ++ wsX00 ++ wsX40)
def wsJ9_max_7cf53 : List Cond := .code yJ9_max_7cf53 cJ9_max_7cf53 2 (some .int) :: ([])
def wsJ9_min_7cf53 : List Cond := .code yJ9_min_7cf53 cJ9_min_7cf53 2 (some .int) :: ([])
def wsL_cell : List Cond := .code yL_cell cL_cell 2 (some .int) :: ([.constant RL 7 (15010021)])
def wsL_low : List Cond := .code yL_low cL_low 2 (some .int) :: ([.constant RL 8 (2147483647)])
def wsL_speed : List Cond := .code yL_speed cL_speed 1 (some .int) :: ([.constant RL 9 (1092616192), .constant RL 10 (1101004800), .constant RL 11 (1107820544), .constant RL 12 (1112014848), .constant RL 13 (1112276992), .constant RL 14 (1115160576), .constant RL 15 (1119092736), .constant RL 16 (1120403456), .constant RL 17 (1125515264), .constant RL 18 (1129447424), .constant RL 19 (1133903872)])
def wsL_fast : List Cond := .code yL_fast cL_fast 1 (some .float) :: ([.constantFloat RL 20 (1092616192), .constantFloat RL 21 (1101004800), .constantFloat RL 22 (1107820544), .constantFloat RL 23 (1112014848), .constantFloat RL 24 (1112276992), .constantFloat RL 25 (1115160576), .constantFloat RL 26 (1119092736), .constantFloat RL 27 (1120403456), .constantFloat RL 28 (1125515264), .constantFloat RL 29 (1129447424), .constantFloat RL 30 (1133903872)])
def wsL_pedal : List Cond := .code yL_pedal cL_pedal 1 (some .int) :: ([.constant RL 31 (1048576000), .constant RL 32 (1056964608), .constant RL 33 (1064514355), .constant RL 34 (1065353216)])
def wsL_deep : List Cond := .code yL_deep cL_deep 1 (some .float) :: ([.constantFloat RL 35 (1048576000), .constantFloat RL 36 (1056964608), .constantFloat RL 37 (1064514355)])
def wsL_isNone : List Cond := .code yL_isNone cL_isNone 1 (some .boolean) :: ([])
def wsL_isClosed : List Cond := .code yL_isClosed cL_isClosed 3 (some .boolean) :: ([])
def wsL_told_r1 : List Cond := [Cond.methodLink RL 38 yX5_car, Cond.instanceMethod yX5_car, Cond.selects RX5 yX5_car yX5_car, Cond.initialized RX5, Cond.code yX5_car cX5_car 2 (some .int), Cond.fieldLink RX5 10 "ShiftMaps" "now" "LShiftMaps$State;", Cond.methodLink RX5 73 yX4_isChanging, Cond.instanceMethod yX4_isChanging, Cond.selects RX4 yX4_isChanging yX4_isChanging, Cond.initialized RX4, Cond.code yX4_isChanging cX4_isChanging 1 (some .boolean), Cond.fieldLink RX4 39 "ShiftMaps$State" "target" "I", Cond.methodLink RX5 158 yX4_opening, Cond.instanceMethod yX4_opening, Cond.selects RX4 yX4_opening yX4_opening, Cond.code yX4_opening cX4_opening 1 (some .int), Cond.fieldLink RX4 35 "ShiftMaps$State" "gear" "I", Cond.methodLink RX4 86 yX4_isChanging, Cond.methodLink RX4 160 yX4_closedOnlyIn, Cond.static yX4_closedOnlyIn, Cond.code yX4_closedOnlyIn cX4_closedOnlyIn 3 (some .int), Cond.methodLink RX4 156 yX4_isClosed, Cond.static yX4_isClosed, Cond.code yX4_isClosed cX4_isClosed 3 (some .boolean)]
def wsL_told_r2 : List Cond := [Cond.fieldLink RX4 150 "ShiftMaps$State" "LOWER_CLUTCH" "[I", Cond.fieldLink RX4 153 "ShiftMaps$State" "HIGHER_CLUTCH" "[I", Cond.methodLink RX5 161 yX4_closing, Cond.instanceMethod yX4_closing, Cond.selects RX4 yX4_closing yX4_closing, Cond.code yX4_closing cX4_closing 1 (some .int), Cond.methodLink RL 44 yX5_number, Cond.instanceMethod yX5_number, Cond.selects RX5 yX5_number yX5_number, Cond.code yX5_number cX5_number 2 (some .int), Cond.methodLink RX5 77 yX4_setting, Cond.instanceMethod yX4_setting, Cond.selects RX4 yX4_setting yX4_setting, Cond.code yX4_setting cX4_setting 2 (some .int), Cond.fieldLink RX4 32 "ShiftMaps$State" "settings" "[I", Cond.methodLink RL 47 yL_isClosed, Cond.static yL_isClosed, Cond.initialized RL, Cond.code yL_isClosed cL_isClosed 3 (some .boolean), Cond.methodLink RL 53 yX5_pressed, Cond.instanceMethod yX5_pressed, Cond.selects RX5 yX5_pressed yX5_pressed, Cond.code yX5_pressed cX5_pressed 2 (some .float), Cond.methodLink RX5 164 yX4_pressureOf]
def wsL_told_r3 : List Cond := [Cond.instanceMethod yX4_pressureOf, Cond.selects RX4 yX4_pressureOf yX4_pressureOf, Cond.code yX4_pressureOf cX4_pressureOf 2 (some .float), Cond.methodLink RX4 163 yX4_opening, Cond.methodLink RX4 166 yX4_openingPressure, Cond.instanceMethod yX4_openingPressure, Cond.selects RX4 yX4_openingPressure yX4_openingPressure, Cond.code yX4_openingPressure cX4_openingPressure 2 (some .float), Cond.fieldLink RX4 42 "ShiftMaps$State" "done" "I", Cond.methodLink RX4 72 yX4_setting, Cond.methodLink RX4 170 yX4_closing, Cond.methodLink RX4 173 yX4_closingPressure, Cond.instanceMethod yX4_closingPressure, Cond.selects RX4 yX4_closingPressure yX4_closingPressure, Cond.code yX4_closingPressure cX4_closingPressure 3 (some .float), Cond.methodLink RX5 167 yX5_notANumber, Cond.static yX5_notANumber, Cond.code yX5_notANumber cX5_notANumber 0 (some .float), Cond.constantFloat RX5 203 (2143289344), Cond.methodLink RL 57 yX5_count, Cond.instanceMethod yX5_count, Cond.selects RX5 yX5_count yX5_count, Cond.code yX5_count cX5_count 2 (some .int), Cond.fieldLink RX5 25 "ShiftMaps" "history" "LShiftMaps$History;"]
def wsL_told_r4 : List Cond := [Cond.fieldLink RX5 32 "ShiftMaps" "text" "LShiftMaps$DriveText;", Cond.methodLink RX5 143 yX1_size, Cond.instanceMethod yX1_size, Cond.selects RX1 yX1_size yX1_size, Cond.initialized RX1, Cond.code yX1_size cX1_size 1 (some .int), Cond.fieldLink RX1 19 "ShiftMaps$History" "size" "I", Cond.methodLink RX5 133 yX0_length, Cond.instanceMethod yX0_length, Cond.selects RX0 yX0_length yX0_length, Cond.initialized RX0, Cond.code yX0_length cX0_length 1 (some .int), Cond.fieldLink RX0 13 "ShiftMaps$DriveText" "length" "I", Cond.methodLink RX5 195 yX4_counted, Cond.instanceMethod yX4_counted, Cond.selects RX4 yX4_counted yX4_counted, Cond.code yX4_counted cX4_counted 2 (some .int), Cond.fieldLink RX4 25 "ShiftMaps$State" "counts" "[I", Cond.methodLink RL 60 yX5_force, Cond.instanceMethod yX5_force, Cond.selects RX5 yX5_force yX5_force, Cond.code yX5_force cX5_force 1 (some .float), Cond.methodLink RX5 171 yX4_greaterPressure, Cond.instanceMethod yX4_greaterPressure]
def wsL_told_r5 : List Cond := [Cond.selects RX4 yX4_greaterPressure yX4_greaterPressure, Cond.code yX4_greaterPressure cX4_greaterPressure 3 (some .float), Cond.methodLink RL 64 yL_isNone, Cond.static yL_isNone, Cond.code yL_isNone cL_isNone 1 (some .boolean), Cond.methodLink RL 68 yX5_change, Cond.instanceMethod yX5_change, Cond.selects RX5 yX5_change yX5_change, Cond.code yX5_change cX5_change 3 (some .int), Cond.methodLink RX5 191 yX2_told, Cond.instanceMethod yX2_told, Cond.selects RX2 yX2_told yX2_told, Cond.initialized RX2, Cond.code yX2_told cX2_told 5 (some .int), Cond.fieldLink RX2 19 "ShiftMaps$Log" "size" "I", Cond.fieldLink RX2 15 "ShiftMaps$Log" "next" "I", Cond.fieldLink RX2 11 "ShiftMaps$Log" "cells" "[I"]
def wsL_told : List Cond := .code yL_told cL_told 18 (some .boolean) :: ((wsL_told_r1 ++ (wsL_told_r2 ++ (wsL_told_r3 ++ (wsL_told_r4 ++ wsL_told_r5)))) ++ wsX50 ++ wsX40 ++ wsX10 ++ wsX00 ++ wsX20)
def wsL_wentToAndFro : List Cond := .code yL_wentToAndFro cL_wentToAndFro 3 (some .boolean) :: ([.methodLink RL 68 yX5_change, .instanceMethod yX5_change, .selects RX5 yX5_change yX5_change, .initialized RX5, .code yX5_change cX5_change 3 (some .int), .fieldLink RX5 10 "ShiftMaps" "now" "LShiftMaps$State;", .methodLink RX5 191 yX2_told, .instanceMethod yX2_told, .selects RX2 yX2_told yX2_told, .initialized RX2, .code yX2_told cX2_told 5 (some .int), .fieldLink RX2 19 "ShiftMaps$Log" "size" "I", .fieldLink RX2 15 "ShiftMaps$Log" "next" "I", .fieldLink RX2 11 "ShiftMaps$Log" "cells" "[I", .methodLink RL 44 yX5_number, .instanceMethod yX5_number, .selects RX5 yX5_number yX5_number, .code yX5_number cX5_number 2 (some .int), .methodLink RX5 77 yX4_setting, .instanceMethod yX4_setting, .selects RX4 yX4_setting yX4_setting, .initialized RX4, .code yX4_setting cX4_setting 2 (some .int), .fieldLink RX4 32 "ShiftMaps$State" "settings" "[I"] ++ wsX50 ++ wsX40 ++ wsX20)
def wsL_tick_r1 : List Cond := [Cond.constantFloat RL 37 (1064514355), Cond.methodLink RL 72 yL_fast, Cond.static yL_fast, Cond.initialized RL, Cond.code yL_fast cL_fast 1 (some .float), Cond.constantFloat RL 20 (1092616192), Cond.constantFloat RL 21 (1101004800), Cond.constantFloat RL 22 (1107820544), Cond.constantFloat RL 23 (1112014848), Cond.constantFloat RL 24 (1112276992), Cond.constantFloat RL 25 (1115160576), Cond.constantFloat RL 26 (1119092736), Cond.constantFloat RL 27 (1120403456), Cond.constantFloat RL 28 (1125515264), Cond.constantFloat RL 29 (1129447424), Cond.constantFloat RL 30 (1133903872), Cond.methodLink RL 75 yL_deep, Cond.static yL_deep, Cond.code yL_deep cL_deep 1 (some .float), Cond.constantFloat RL 35 (1048576000), Cond.constantFloat RL 36 (1056964608), Cond.methodLink RL 38 yX5_car, Cond.instanceMethod yX5_car, Cond.selects RX5 yX5_car yX5_car]
def wsL_tick_r2 : List Cond := [Cond.initialized RX5, Cond.code yX5_car cX5_car 2 (some .int), Cond.fieldLink RX5 10 "ShiftMaps" "now" "LShiftMaps$State;", Cond.methodLink RX5 73 yX4_isChanging, Cond.instanceMethod yX4_isChanging, Cond.selects RX4 yX4_isChanging yX4_isChanging, Cond.initialized RX4, Cond.code yX4_isChanging cX4_isChanging 1 (some .boolean), Cond.fieldLink RX4 39 "ShiftMaps$State" "target" "I", Cond.methodLink RX5 158 yX4_opening, Cond.instanceMethod yX4_opening, Cond.selects RX4 yX4_opening yX4_opening, Cond.code yX4_opening cX4_opening 1 (some .int), Cond.fieldLink RX4 35 "ShiftMaps$State" "gear" "I", Cond.methodLink RX4 86 yX4_isChanging, Cond.methodLink RX4 160 yX4_closedOnlyIn, Cond.static yX4_closedOnlyIn, Cond.code yX4_closedOnlyIn cX4_closedOnlyIn 3 (some .int), Cond.methodLink RX4 156 yX4_isClosed, Cond.static yX4_isClosed, Cond.code yX4_isClosed cX4_isClosed 3 (some .boolean), Cond.fieldLink RX4 150 "ShiftMaps$State" "LOWER_CLUTCH" "[I", Cond.fieldLink RX4 153 "ShiftMaps$State" "HIGHER_CLUTCH" "[I", Cond.methodLink RX5 161 yX4_closing]
def wsL_tick_r3 : List Cond := [Cond.instanceMethod yX4_closing, Cond.selects RX4 yX4_closing yX4_closing, Cond.code yX4_closing cX4_closing 1 (some .int), Cond.methodLink RL 78 yL_speed, Cond.static yL_speed, Cond.code yL_speed cL_speed 1 (some .int), Cond.constant RL 9 (1092616192), Cond.constant RL 10 (1101004800), Cond.constant RL 11 (1107820544), Cond.constant RL 12 (1112014848), Cond.constant RL 13 (1112276992), Cond.constant RL 14 (1115160576), Cond.constant RL 15 (1119092736), Cond.constant RL 16 (1120403456), Cond.constant RL 17 (1125515264), Cond.constant RL 18 (1129447424), Cond.constant RL 19 (1133903872), Cond.methodLink RL 81 yL_pedal, Cond.static yL_pedal, Cond.code yL_pedal cL_pedal 1 (some .int), Cond.constant RL 31 (1048576000), Cond.constant RL 32 (1056964608), Cond.constant RL 33 (1064514355), Cond.constant RL 34 (1065353216)]
def wsL_tick_r4 : List Cond := [Cond.methodLink RL 84 yX5_wouldChoose, Cond.instanceMethod yX5_wouldChoose, Cond.selects RX5 yX5_wouldChoose yX5_wouldChoose, Cond.code yX5_wouldChoose cX5_wouldChoose 3 (some .int), Cond.fieldLink RX5 19 "ShiftMaps" "forecast" "LShiftMaps$State;", Cond.methodLink RX5 46 yX5_isSpeed, Cond.static yX5_isSpeed, Cond.code yX5_isSpeed cX5_isSpeed 1 (some .boolean), Cond.constant RX5 198 (1133903872), Cond.methodLink RX5 92 yX5_isPedal, Cond.static yX5_isPedal, Cond.code yX5_isPedal cX5_isPedal 1 (some .boolean), Cond.constant RX5 199 (1065353216), Cond.methodLink RX5 146 yX4_copyFrom, Cond.instanceMethod yX4_copyFrom, Cond.selects RX4 yX4_copyFrom yX4_copyFrom, Cond.code yX4_copyFrom cX4_copyFrom 2 none, Cond.fieldLink RX4 12 "ShiftMaps$State" "maps" "LShiftMaps$Maps;", Cond.fieldLink RX4 21 "ShiftMaps$State" "log" "LShiftMaps$Log;", Cond.fieldLink RX4 25 "ShiftMaps$State" "counts" "[I", Cond.methodLink RX4 59 arraycopyName, Cond.native arraycopyName, Cond.static arraycopyName, Cond.initialized "java/lang/System"]
def wsL_tick_r5 : List Cond := [Cond.fieldLink RX4 32 "ShiftMaps$State" "settings" "[I", Cond.fieldLink RX4 42 "ShiftMaps$State" "done" "I", Cond.fieldLink RX4 45 "ShiftMaps$State" "held" "I", Cond.fieldLink RX4 48 "ShiftMaps$State" "handMode" "Z", Cond.fieldLink RX4 52 "ShiftMaps$State" "latestSpeed" "F", Cond.fieldLink RX4 56 "ShiftMaps$State" "latestPedal" "F", Cond.methodLink RX4 65 yX3_copyFrom, Cond.instanceMethod yX3_copyFrom, Cond.selects RX3 yX3_copyFrom yX3_copyFrom, Cond.initialized RX3, Cond.code yX3_copyFrom cX3_copyFrom 2 none, Cond.fieldLink RX3 15 "ShiftMaps$Maps" "speeds" "[F", Cond.methodLink RX3 31 arraycopyName, Cond.methodLink RX4 69 yX2_copyFrom, Cond.instanceMethod yX2_copyFrom, Cond.selects RX2 yX2_copyFrom yX2_copyFrom, Cond.initialized RX2, Cond.code yX2_copyFrom cX2_copyFrom 2 none, Cond.fieldLink RX2 11 "ShiftMaps$Log" "cells" "[I", Cond.methodLink RX2 28 arraycopyName, Cond.fieldLink RX2 15 "ShiftMaps$Log" "next" "I", Cond.fieldLink RX2 19 "ShiftMaps$Log" "size" "I", Cond.methodLink RX5 50 yX5_floatOf, Cond.static yX5_floatOf]
def wsL_tick_r6 : List Cond := [Cond.code yX5_floatOf cX5_floatOf 5 (some .float), Cond.constant RX5 200 (8388607), Cond.constant RX5 201 (8388608), Cond.constantFloat RX5 202 (1056964608), Cond.methodLink RX5 181 yX4_passTick, Cond.instanceMethod yX4_passTick, Cond.selects RX4 yX4_passTick yX4_passTick, Cond.code yX4_passTick cX4_passTick 4 (some .boolean), Cond.methodLink RX4 83 yX4_goOnWithChange, Cond.instanceMethod yX4_goOnWithChange, Cond.selects RX4 yX4_goOnWithChange yX4_goOnWithChange, Cond.code yX4_goOnWithChange cX4_goOnWithChange 1 none, Cond.methodLink RX4 72 yX4_setting, Cond.instanceMethod yX4_setting, Cond.selects RX4 yX4_setting yX4_setting, Cond.code yX4_setting cX4_setting 2 (some .int), Cond.methodLink RX4 90 yX4_reasonToChange, Cond.instanceMethod yX4_reasonToChange, Cond.selects RX4 yX4_reasonToChange yX4_reasonToChange, Cond.code yX4_reasonToChange cX4_reasonToChange 3 (some .int), Cond.methodLink RX4 105 yX3_exceeds, Cond.instanceMethod yX3_exceeds, Cond.selects RX3 yX3_exceeds yX3_exceeds, Cond.code yX3_exceeds cX3_exceeds 3 (some .boolean)]
def wsL_tick_r7 : List Cond := [Cond.methodLink RX3 23 yX3_speed, Cond.instanceMethod yX3_speed, Cond.selects RX3 yX3_speed yX3_speed, Cond.code yX3_speed cX3_speed 4 (some .float), Cond.methodLink RX4 109 yX4_isDeep, Cond.static yX4_isDeep, Cond.code yX4_isDeep cX4_isDeep 1 (some .boolean), Cond.constantFloat RX4 124 (1064514355), Cond.methodLink RX4 113 yX4_kickdownGear, Cond.instanceMethod yX4_kickdownGear, Cond.selects RX4 yX4_kickdownGear yX4_kickdownGear, Cond.code yX4_kickdownGear cX4_kickdownGear 3 (some .int), Cond.methodLink RX4 125 Lib.Math.max.name, Cond.static Lib.Math.max.name, Cond.initialized "java/lang/Math", Cond.code Lib.Math.max.name Lib.Math.max.code 2 (some .int), Cond.methodLink RX4 117 yX3_upFrom, Cond.instanceMethod yX3_upFrom, Cond.selects RX3 yX3_upFrom yX3_upFrom, Cond.code yX3_upFrom cX3_upFrom 4 (some .float), Cond.methodLink RX4 121 yX3_downTo, Cond.instanceMethod yX3_downTo, Cond.selects RX3 yX3_downTo yX3_downTo, Cond.code yX3_downTo cX3_downTo 3 (some .float)]
def wsL_tick_r8 : List Cond := [Cond.methodLink RX3 27 yX3_upFrom, Cond.methodLink RX4 94 yX4_gearChosenBy, Cond.instanceMethod yX4_gearChosenBy, Cond.selects RX4 yX4_gearChosenBy yX4_gearChosenBy, Cond.code yX4_gearChosenBy cX4_gearChosenBy 3 (some .int), Cond.methodLink RX4 98 yX4_begin, Cond.instanceMethod yX4_begin, Cond.selects RX4 yX4_begin yX4_begin, Cond.code yX4_begin cX4_begin 4 none, Cond.methodLink RX4 135 yX4_swings, Cond.instanceMethod yX4_swings, Cond.selects RX4 yX4_swings yX4_swings, Cond.code yX4_swings cX4_swings 3 (some .boolean), Cond.methodLink RX4 147 yX2_told, Cond.instanceMethod yX2_told, Cond.selects RX2 yX2_told yX2_told, Cond.code yX2_told cX2_told 5 (some .int), Cond.methodLink RX4 139 yX4_tick, Cond.instanceMethod yX4_tick, Cond.selects RX4 yX4_tick yX4_tick, Cond.code yX4_tick cX4_tick 1 (some .int), Cond.methodLink RX4 76 yX4_counted, Cond.instanceMethod yX4_counted, Cond.selects RX4 yX4_counted yX4_counted]
def wsL_tick_r9 : List Cond := [Cond.code yX4_counted cX4_counted 2 (some .int), Cond.methodLink RX4 143 yX2_add, Cond.instanceMethod yX2_add, Cond.selects RX2 yX2_add yX2_add, Cond.code yX2_add cX2_add 7 none, Cond.methodLink RX2 22 Lib.Math.min.name, Cond.static Lib.Math.min.name, Cond.code Lib.Math.min.name Lib.Math.min.code 2 (some .int), Cond.methodLink RX4 131 yX4_countOneMore, Cond.instanceMethod yX4_countOneMore, Cond.selects RX4 yX4_countOneMore yX4_countOneMore, Cond.code yX4_countOneMore cX4_countOneMore 2 none, Cond.methodLink RX4 102 yX4_countTick, Cond.instanceMethod yX4_countTick, Cond.selects RX4 yX4_countTick yX4_countTick, Cond.code yX4_countTick cX4_countTick 1 none, Cond.methodLink RL 57 yX5_count, Cond.instanceMethod yX5_count, Cond.selects RX5 yX5_count yX5_count, Cond.code yX5_count cX5_count 2 (some .int), Cond.fieldLink RX5 25 "ShiftMaps" "history" "LShiftMaps$History;", Cond.fieldLink RX5 32 "ShiftMaps" "text" "LShiftMaps$DriveText;", Cond.methodLink RX5 143 yX1_size, Cond.instanceMethod yX1_size]
def wsL_tick_r10 : List Cond := [Cond.selects RX1 yX1_size yX1_size, Cond.initialized RX1, Cond.code yX1_size cX1_size 1 (some .int), Cond.fieldLink RX1 19 "ShiftMaps$History" "size" "I", Cond.methodLink RX5 133 yX0_length, Cond.instanceMethod yX0_length, Cond.selects RX0 yX0_length yX0_length, Cond.initialized RX0, Cond.code yX0_length cX0_length 1 (some .int), Cond.fieldLink RX0 13 "ShiftMaps$DriveText" "length" "I", Cond.methodLink RX5 195 yX4_counted, Cond.methodLink RL 44 yX5_number, Cond.instanceMethod yX5_number, Cond.selects RX5 yX5_number yX5_number, Cond.code yX5_number cX5_number 2 (some .int), Cond.methodLink RX5 77 yX4_setting, Cond.methodLink RL 87 yX5_map, Cond.instanceMethod yX5_map, Cond.selects RX5 yX5_map yX5_map, Cond.code yX5_map cX5_map 3 (some .float), Cond.methodLink RX5 40 yX3_has, Cond.static yX3_has, Cond.code yX3_has cX3_has 2 (some .boolean), Cond.methodLink RX5 58 yX3_speed]
def wsL_tick_r11 : List Cond := [Cond.methodLink RX5 167 yX5_notANumber, Cond.static yX5_notANumber, Cond.code yX5_notANumber cX5_notANumber 0 (some .float), Cond.constantFloat RX5 203 (2143289344), Cond.methodLink RL 91 yX5_border, Cond.instanceMethod yX5_border, Cond.selects RX5 yX5_border yX5_border, Cond.code yX5_border cX5_border 5 (some .float), Cond.methodLink RX5 174 yX3_upFrom, Cond.methodLink RX5 178 yX3_downTo, Cond.methodLink RL 95 yX5_drive, Cond.instanceMethod yX5_drive, Cond.selects RX5 yX5_drive yX5_drive, Cond.code yX5_drive cX5_drive 4 (some .int), Cond.constant RX5 99 (99999), Cond.methodLink RX5 95 yX4_tick, Cond.methodLink RX5 62 yX1_record, Cond.instanceMethod yX1_record, Cond.selects RX1 yX1_record yX1_record, Cond.code yX1_record cX1_record 3 none, Cond.fieldLink RX1 15 "ShiftMaps$History" "next" "I", Cond.methodLink RX1 31 Lib.Math.min.name, Cond.methodLink RX1 23 yX1_rowAt, Cond.instanceMethod yX1_rowAt]
def wsL_tick_r12 : List Cond := [Cond.selects RX1 yX1_rowAt yX1_rowAt, Cond.code yX1_rowAt cX1_rowAt 2 (some (.object "ShiftMaps$State")), Cond.fieldLink RX1 11 "ShiftMaps$History" "states" "[LShiftMaps$State;", Cond.methodLink RX1 27 yX4_copyFrom, Cond.methodLink RX5 100 yX4_passTicks, Cond.instanceMethod yX4_passTicks, Cond.selects RX4 yX4_passTicks yX4_passTicks, Cond.code yX4_passTicks cX4_passTicks 6 (some .int), Cond.methodLink RX4 79 yX4_passTick, Cond.methodLink RL 68 yX5_change, Cond.instanceMethod yX5_change, Cond.selects RX5 yX5_change yX5_change, Cond.code yX5_change cX5_change 3 (some .int), Cond.methodLink RX5 191 yX2_told, Cond.methodLink RL 99 yL_wentToAndFro, Cond.static yL_wentToAndFro, Cond.code yL_wentToAndFro cL_wentToAndFro 3 (some .boolean)]
def wsL_tick : List Cond := .code yL_tick cL_tick 31 (some .boolean) :: ((wsL_tick_r1 ++ (wsL_tick_r2 ++ (wsL_tick_r3 ++ (wsL_tick_r4 ++ (wsL_tick_r5 ++ (wsL_tick_r6 ++ (wsL_tick_r7 ++ (wsL_tick_r8 ++ (wsL_tick_r9 ++ (wsL_tick_r10 ++ (wsL_tick_r11 ++ wsL_tick_r12))))))))))) ++ wsX50 ++ wsX40 ++ wsX30 ++ wsX20 ++ wsX10 ++ wsX00)
def wsL_settles_r1 : List Cond := [Cond.methodLink RL 78 yL_speed, Cond.static yL_speed, Cond.initialized RL, Cond.code yL_speed cL_speed 1 (some .int), Cond.constant RL 9 (1092616192), Cond.constant RL 10 (1101004800), Cond.constant RL 11 (1107820544), Cond.constant RL 12 (1112014848), Cond.constant RL 13 (1112276992), Cond.constant RL 14 (1115160576), Cond.constant RL 15 (1119092736), Cond.constant RL 16 (1120403456), Cond.constant RL 17 (1125515264), Cond.constant RL 18 (1129447424), Cond.constant RL 19 (1133903872), Cond.methodLink RL 81 yL_pedal, Cond.static yL_pedal, Cond.code yL_pedal cL_pedal 1 (some .int), Cond.constant RL 31 (1048576000), Cond.constant RL 32 (1056964608), Cond.constant RL 33 (1064514355), Cond.constant RL 34 (1065353216), Cond.methodLink RL 126 yX5_settles, Cond.instanceMethod yX5_settles]
def wsL_settles_r2 : List Cond := [Cond.selects RX5 yX5_settles yX5_settles, Cond.initialized RX5, Cond.code yX5_settles cX5_settles 7 (some .int), Cond.fieldLink RX5 19 "ShiftMaps" "forecast" "LShiftMaps$State;", Cond.fieldLink RX5 10 "ShiftMaps" "now" "LShiftMaps$State;", Cond.methodLink RX5 46 yX5_isSpeed, Cond.static yX5_isSpeed, Cond.code yX5_isSpeed cX5_isSpeed 1 (some .boolean), Cond.constant RX5 198 (1133903872), Cond.methodLink RX5 92 yX5_isPedal, Cond.static yX5_isPedal, Cond.code yX5_isPedal cX5_isPedal 1 (some .boolean), Cond.constant RX5 199 (1065353216), Cond.methodLink RX5 146 yX4_copyFrom, Cond.instanceMethod yX4_copyFrom, Cond.selects RX4 yX4_copyFrom yX4_copyFrom, Cond.initialized RX4, Cond.code yX4_copyFrom cX4_copyFrom 2 none, Cond.fieldLink RX4 12 "ShiftMaps$State" "maps" "LShiftMaps$Maps;", Cond.fieldLink RX4 21 "ShiftMaps$State" "log" "LShiftMaps$Log;", Cond.fieldLink RX4 25 "ShiftMaps$State" "counts" "[I", Cond.methodLink RX4 59 arraycopyName, Cond.native arraycopyName, Cond.static arraycopyName]
def wsL_settles_r3 : List Cond := [Cond.initialized "java/lang/System", Cond.fieldLink RX4 32 "ShiftMaps$State" "settings" "[I", Cond.fieldLink RX4 35 "ShiftMaps$State" "gear" "I", Cond.fieldLink RX4 39 "ShiftMaps$State" "target" "I", Cond.fieldLink RX4 42 "ShiftMaps$State" "done" "I", Cond.fieldLink RX4 45 "ShiftMaps$State" "held" "I", Cond.fieldLink RX4 48 "ShiftMaps$State" "handMode" "Z", Cond.fieldLink RX4 52 "ShiftMaps$State" "latestSpeed" "F", Cond.fieldLink RX4 56 "ShiftMaps$State" "latestPedal" "F", Cond.methodLink RX4 65 yX3_copyFrom, Cond.instanceMethod yX3_copyFrom, Cond.selects RX3 yX3_copyFrom yX3_copyFrom, Cond.initialized RX3, Cond.code yX3_copyFrom cX3_copyFrom 2 none, Cond.fieldLink RX3 15 "ShiftMaps$Maps" "speeds" "[F", Cond.methodLink RX3 31 arraycopyName, Cond.methodLink RX4 69 yX2_copyFrom, Cond.instanceMethod yX2_copyFrom, Cond.selects RX2 yX2_copyFrom yX2_copyFrom, Cond.initialized RX2, Cond.code yX2_copyFrom cX2_copyFrom 2 none, Cond.fieldLink RX2 11 "ShiftMaps$Log" "cells" "[I", Cond.methodLink RX2 28 arraycopyName, Cond.fieldLink RX2 15 "ShiftMaps$Log" "next" "I"]
def wsL_settles_r4 : List Cond := [Cond.fieldLink RX2 19 "ShiftMaps$Log" "size" "I", Cond.methodLink RX5 50 yX5_floatOf, Cond.static yX5_floatOf, Cond.code yX5_floatOf cX5_floatOf 5 (some .float), Cond.constant RX5 200 (8388607), Cond.constant RX5 201 (8388608), Cond.constantFloat RX5 202 (1056964608), Cond.methodLink RX5 181 yX4_passTick, Cond.instanceMethod yX4_passTick, Cond.selects RX4 yX4_passTick yX4_passTick, Cond.code yX4_passTick cX4_passTick 4 (some .boolean), Cond.methodLink RX4 83 yX4_goOnWithChange, Cond.instanceMethod yX4_goOnWithChange, Cond.selects RX4 yX4_goOnWithChange yX4_goOnWithChange, Cond.code yX4_goOnWithChange cX4_goOnWithChange 1 none, Cond.methodLink RX4 86 yX4_isChanging, Cond.instanceMethod yX4_isChanging, Cond.selects RX4 yX4_isChanging yX4_isChanging, Cond.code yX4_isChanging cX4_isChanging 1 (some .boolean), Cond.methodLink RX4 72 yX4_setting, Cond.instanceMethod yX4_setting, Cond.selects RX4 yX4_setting yX4_setting, Cond.code yX4_setting cX4_setting 2 (some .int), Cond.methodLink RX4 90 yX4_reasonToChange]
def wsL_settles_r5 : List Cond := [Cond.instanceMethod yX4_reasonToChange, Cond.selects RX4 yX4_reasonToChange yX4_reasonToChange, Cond.code yX4_reasonToChange cX4_reasonToChange 3 (some .int), Cond.methodLink RX4 105 yX3_exceeds, Cond.instanceMethod yX3_exceeds, Cond.selects RX3 yX3_exceeds yX3_exceeds, Cond.code yX3_exceeds cX3_exceeds 3 (some .boolean), Cond.methodLink RX3 23 yX3_speed, Cond.instanceMethod yX3_speed, Cond.selects RX3 yX3_speed yX3_speed, Cond.code yX3_speed cX3_speed 4 (some .float), Cond.methodLink RX4 109 yX4_isDeep, Cond.static yX4_isDeep, Cond.code yX4_isDeep cX4_isDeep 1 (some .boolean), Cond.constantFloat RX4 124 (1064514355), Cond.methodLink RX4 113 yX4_kickdownGear, Cond.instanceMethod yX4_kickdownGear, Cond.selects RX4 yX4_kickdownGear yX4_kickdownGear, Cond.code yX4_kickdownGear cX4_kickdownGear 3 (some .int), Cond.methodLink RX4 125 Lib.Math.max.name, Cond.static Lib.Math.max.name, Cond.initialized "java/lang/Math", Cond.code Lib.Math.max.name Lib.Math.max.code 2 (some .int), Cond.methodLink RX4 117 yX3_upFrom]
def wsL_settles_r6 : List Cond := [Cond.instanceMethod yX3_upFrom, Cond.selects RX3 yX3_upFrom yX3_upFrom, Cond.code yX3_upFrom cX3_upFrom 4 (some .float), Cond.methodLink RX4 121 yX3_downTo, Cond.instanceMethod yX3_downTo, Cond.selects RX3 yX3_downTo yX3_downTo, Cond.code yX3_downTo cX3_downTo 3 (some .float), Cond.methodLink RX3 27 yX3_upFrom, Cond.methodLink RX4 94 yX4_gearChosenBy, Cond.instanceMethod yX4_gearChosenBy, Cond.selects RX4 yX4_gearChosenBy yX4_gearChosenBy, Cond.code yX4_gearChosenBy cX4_gearChosenBy 3 (some .int), Cond.methodLink RX4 98 yX4_begin, Cond.instanceMethod yX4_begin, Cond.selects RX4 yX4_begin yX4_begin, Cond.code yX4_begin cX4_begin 4 none, Cond.methodLink RX4 135 yX4_swings, Cond.instanceMethod yX4_swings, Cond.selects RX4 yX4_swings yX4_swings, Cond.code yX4_swings cX4_swings 3 (some .boolean), Cond.methodLink RX4 147 yX2_told, Cond.instanceMethod yX2_told, Cond.selects RX2 yX2_told yX2_told, Cond.code yX2_told cX2_told 5 (some .int)]
def wsL_settles_r7 : List Cond := [Cond.methodLink RX4 139 yX4_tick, Cond.instanceMethod yX4_tick, Cond.selects RX4 yX4_tick yX4_tick, Cond.code yX4_tick cX4_tick 1 (some .int), Cond.methodLink RX4 76 yX4_counted, Cond.instanceMethod yX4_counted, Cond.selects RX4 yX4_counted yX4_counted, Cond.code yX4_counted cX4_counted 2 (some .int), Cond.methodLink RX4 143 yX2_add, Cond.instanceMethod yX2_add, Cond.selects RX2 yX2_add yX2_add, Cond.code yX2_add cX2_add 7 none, Cond.methodLink RX2 22 Lib.Math.min.name, Cond.static Lib.Math.min.name, Cond.code Lib.Math.min.name Lib.Math.min.code 2 (some .int), Cond.methodLink RX4 131 yX4_countOneMore, Cond.instanceMethod yX4_countOneMore, Cond.selects RX4 yX4_countOneMore yX4_countOneMore, Cond.code yX4_countOneMore cX4_countOneMore 2 none, Cond.methodLink RX4 102 yX4_countTick, Cond.instanceMethod yX4_countTick, Cond.selects RX4 yX4_countTick yX4_countTick, Cond.code yX4_countTick cX4_countTick 1 none, Cond.methodLink RL 95 yX5_drive]
def wsL_settles_r8 : List Cond := [Cond.instanceMethod yX5_drive, Cond.selects RX5 yX5_drive yX5_drive, Cond.code yX5_drive cX5_drive 4 (some .int), Cond.constant RX5 99 (99999), Cond.fieldLink RX5 25 "ShiftMaps" "history" "LShiftMaps$History;", Cond.methodLink RX5 95 yX4_tick, Cond.methodLink RX5 62 yX1_record, Cond.instanceMethod yX1_record, Cond.selects RX1 yX1_record yX1_record, Cond.initialized RX1, Cond.code yX1_record cX1_record 3 none, Cond.fieldLink RX1 15 "ShiftMaps$History" "next" "I", Cond.fieldLink RX1 19 "ShiftMaps$History" "size" "I", Cond.methodLink RX1 31 Lib.Math.min.name, Cond.methodLink RX1 23 yX1_rowAt, Cond.instanceMethod yX1_rowAt, Cond.selects RX1 yX1_rowAt yX1_rowAt, Cond.code yX1_rowAt cX1_rowAt 2 (some (.object "ShiftMaps$State")), Cond.fieldLink RX1 11 "ShiftMaps$History" "states" "[LShiftMaps$State;", Cond.methodLink RX1 27 yX4_copyFrom, Cond.methodLink RX5 100 yX4_passTicks, Cond.instanceMethod yX4_passTicks, Cond.selects RX4 yX4_passTicks yX4_passTicks, Cond.code yX4_passTicks cX4_passTicks 6 (some .int)]
def wsL_settles_r9 : List Cond := [Cond.methodLink RX4 79 yX4_passTick]
def wsL_settles : List Cond := .code yL_settles cL_settles 5 (some .boolean) :: ((wsL_settles_r1 ++ (wsL_settles_r2 ++ (wsL_settles_r3 ++ (wsL_settles_r4 ++ (wsL_settles_r5 ++ (wsL_settles_r6 ++ (wsL_settles_r7 ++ (wsL_settles_r8 ++ wsL_settles_r9)))))))) ++ wsX50 ++ wsX40 ++ wsX30 ++ wsX20 ++ wsX10)
def wsL_acts_r1 : List Cond := [Cond.methodLink RL 103 yL_low, Cond.static yL_low, Cond.initialized RL, Cond.code yL_low cL_low 2 (some .int), Cond.constant RL 8 (2147483647), Cond.methodLink RL 87 yX5_map, Cond.instanceMethod yX5_map, Cond.selects RX5 yX5_map yX5_map, Cond.initialized RX5, Cond.code yX5_map cX5_map 3 (some .float), Cond.fieldLink RX5 10 "ShiftMaps" "now" "LShiftMaps$State;", Cond.methodLink RX5 40 yX3_has, Cond.static yX3_has, Cond.initialized RX3, Cond.code yX3_has cX3_has 2 (some .boolean), Cond.methodLink RX5 58 yX3_speed, Cond.instanceMethod yX3_speed, Cond.selects RX3 yX3_speed yX3_speed, Cond.code yX3_speed cX3_speed 4 (some .float), Cond.fieldLink RX3 15 "ShiftMaps$Maps" "speeds" "[F", Cond.methodLink RX5 167 yX5_notANumber, Cond.static yX5_notANumber, Cond.code yX5_notANumber cX5_notANumber 0 (some .float), Cond.constantFloat RX5 203 (2143289344)]
def wsL_acts_r2 : List Cond := [Cond.methodLink RL 72 yL_fast, Cond.static yL_fast, Cond.code yL_fast cL_fast 1 (some .float), Cond.constantFloat RL 20 (1092616192), Cond.constantFloat RL 21 (1101004800), Cond.constantFloat RL 22 (1107820544), Cond.constantFloat RL 23 (1112014848), Cond.constantFloat RL 24 (1112276992), Cond.constantFloat RL 25 (1115160576), Cond.constantFloat RL 26 (1119092736), Cond.constantFloat RL 27 (1120403456), Cond.constantFloat RL 28 (1125515264), Cond.constantFloat RL 29 (1129447424), Cond.constantFloat RL 30 (1133903872), Cond.methodLink RL 78 yL_speed, Cond.static yL_speed, Cond.code yL_speed cL_speed 1 (some .int), Cond.constant RL 9 (1092616192), Cond.constant RL 10 (1101004800), Cond.constant RL 11 (1107820544), Cond.constant RL 12 (1112014848), Cond.constant RL 13 (1112276992), Cond.constant RL 14 (1115160576), Cond.constant RL 15 (1119092736)]
def wsL_acts_r3 : List Cond := [Cond.constant RL 16 (1120403456), Cond.constant RL 17 (1125515264), Cond.constant RL 18 (1129447424), Cond.constant RL 19 (1133903872), Cond.methodLink RL 106 yX5_setMap, Cond.instanceMethod yX5_setMap, Cond.selects RX5 yX5_setMap yX5_setMap, Cond.code yX5_setMap cX5_setMap 5 (some .int), Cond.fieldLink RX5 25 "ShiftMaps" "history" "LShiftMaps$History;", Cond.methodLink RX5 46 yX5_isSpeed, Cond.static yX5_isSpeed, Cond.code yX5_isSpeed cX5_isSpeed 1 (some .boolean), Cond.constant RX5 198 (1133903872), Cond.methodLink RX5 50 yX5_floatOf, Cond.static yX5_floatOf, Cond.code yX5_floatOf cX5_floatOf 5 (some .float), Cond.constant RX5 200 (8388607), Cond.constant RX5 201 (8388608), Cond.constantFloat RX5 202 (1056964608), Cond.methodLink RX5 62 yX1_record, Cond.instanceMethod yX1_record, Cond.selects RX1 yX1_record yX1_record, Cond.initialized RX1, Cond.code yX1_record cX1_record 3 none]
def wsL_acts_r4 : List Cond := [Cond.fieldLink RX1 15 "ShiftMaps$History" "next" "I", Cond.fieldLink RX1 19 "ShiftMaps$History" "size" "I", Cond.methodLink RX1 31 Lib.Math.min.name, Cond.static Lib.Math.min.name, Cond.initialized "java/lang/Math", Cond.code Lib.Math.min.name Lib.Math.min.code 2 (some .int), Cond.methodLink RX1 23 yX1_rowAt, Cond.instanceMethod yX1_rowAt, Cond.selects RX1 yX1_rowAt yX1_rowAt, Cond.code yX1_rowAt cX1_rowAt 2 (some (.object "ShiftMaps$State")), Cond.fieldLink RX1 11 "ShiftMaps$History" "states" "[LShiftMaps$State;", Cond.methodLink RX1 27 yX4_copyFrom, Cond.instanceMethod yX4_copyFrom, Cond.selects RX4 yX4_copyFrom yX4_copyFrom, Cond.initialized RX4, Cond.code yX4_copyFrom cX4_copyFrom 2 none, Cond.fieldLink RX4 12 "ShiftMaps$State" "maps" "LShiftMaps$Maps;", Cond.fieldLink RX4 21 "ShiftMaps$State" "log" "LShiftMaps$Log;", Cond.fieldLink RX4 25 "ShiftMaps$State" "counts" "[I", Cond.methodLink RX4 59 arraycopyName, Cond.native arraycopyName, Cond.static arraycopyName, Cond.initialized "java/lang/System", Cond.fieldLink RX4 32 "ShiftMaps$State" "settings" "[I"]
def wsL_acts_r5 : List Cond := [Cond.fieldLink RX4 35 "ShiftMaps$State" "gear" "I", Cond.fieldLink RX4 39 "ShiftMaps$State" "target" "I", Cond.fieldLink RX4 42 "ShiftMaps$State" "done" "I", Cond.fieldLink RX4 45 "ShiftMaps$State" "held" "I", Cond.fieldLink RX4 48 "ShiftMaps$State" "handMode" "Z", Cond.fieldLink RX4 52 "ShiftMaps$State" "latestSpeed" "F", Cond.fieldLink RX4 56 "ShiftMaps$State" "latestPedal" "F", Cond.methodLink RX4 65 yX3_copyFrom, Cond.instanceMethod yX3_copyFrom, Cond.selects RX3 yX3_copyFrom yX3_copyFrom, Cond.code yX3_copyFrom cX3_copyFrom 2 none, Cond.methodLink RX3 31 arraycopyName, Cond.methodLink RX4 69 yX2_copyFrom, Cond.instanceMethod yX2_copyFrom, Cond.selects RX2 yX2_copyFrom yX2_copyFrom, Cond.initialized RX2, Cond.code yX2_copyFrom cX2_copyFrom 2 none, Cond.fieldLink RX2 11 "ShiftMaps$Log" "cells" "[I", Cond.methodLink RX2 28 arraycopyName, Cond.fieldLink RX2 15 "ShiftMaps$Log" "next" "I", Cond.fieldLink RX2 19 "ShiftMaps$Log" "size" "I", Cond.methodLink RX5 66 yX3_put, Cond.instanceMethod yX3_put, Cond.selects RX3 yX3_put yX3_put]
def wsL_acts_r6 : List Cond := [Cond.code yX3_put cX3_put 4 none, Cond.methodLink RX3 19 yX3_has, Cond.methodLink RL 44 yX5_number, Cond.instanceMethod yX5_number, Cond.selects RX5 yX5_number yX5_number, Cond.code yX5_number cX5_number 2 (some .int), Cond.methodLink RX5 77 yX4_setting, Cond.instanceMethod yX4_setting, Cond.selects RX4 yX4_setting yX4_setting, Cond.code yX4_setting cX4_setting 2 (some .int), Cond.methodLink RL 38 yX5_car, Cond.instanceMethod yX5_car, Cond.selects RX5 yX5_car yX5_car, Cond.code yX5_car cX5_car 2 (some .int), Cond.methodLink RX5 73 yX4_isChanging, Cond.instanceMethod yX4_isChanging, Cond.selects RX4 yX4_isChanging yX4_isChanging, Cond.code yX4_isChanging cX4_isChanging 1 (some .boolean), Cond.methodLink RX5 158 yX4_opening, Cond.instanceMethod yX4_opening, Cond.selects RX4 yX4_opening yX4_opening, Cond.code yX4_opening cX4_opening 1 (some .int), Cond.methodLink RX4 86 yX4_isChanging, Cond.methodLink RX4 160 yX4_closedOnlyIn]
def wsL_acts_r7 : List Cond := [Cond.static yX4_closedOnlyIn, Cond.code yX4_closedOnlyIn cX4_closedOnlyIn 3 (some .int), Cond.methodLink RX4 156 yX4_isClosed, Cond.static yX4_isClosed, Cond.code yX4_isClosed cX4_isClosed 3 (some .boolean), Cond.fieldLink RX4 150 "ShiftMaps$State" "LOWER_CLUTCH" "[I", Cond.fieldLink RX4 153 "ShiftMaps$State" "HIGHER_CLUTCH" "[I", Cond.methodLink RX5 161 yX4_closing, Cond.instanceMethod yX4_closing, Cond.selects RX4 yX4_closing yX4_closing, Cond.code yX4_closing cX4_closing 1 (some .int), Cond.methodLink RL 109 yX5_setNumber, Cond.instanceMethod yX5_setNumber, Cond.selects RX5 yX5_setNumber yX5_setNumber, Cond.code yX5_setNumber cX5_setNumber 4 (some .int), Cond.methodLink RX5 70 yX4_allows, Cond.instanceMethod yX4_allows, Cond.selects RX4 yX4_allows yX4_allows, Cond.code yX4_allows cX4_allows 3 (some .boolean), Cond.methodLink RX4 72 yX4_setting, Cond.methodLink RX5 81 yX4_putSetting, Cond.instanceMethod yX4_putSetting, Cond.selects RX4 yX4_putSetting yX4_putSetting, Cond.code yX4_putSetting cX4_putSetting 3 none]
def wsL_acts_r8 : List Cond := [Cond.methodLink RL 112 yX5_byHand, Cond.instanceMethod yX5_byHand, Cond.selects RX5 yX5_byHand yX5_byHand, Cond.code yX5_byHand cX5_byHand 2 (some .int), Cond.methodLink RL 57 yX5_count, Cond.instanceMethod yX5_count, Cond.selects RX5 yX5_count yX5_count, Cond.code yX5_count cX5_count 2 (some .int), Cond.fieldLink RX5 32 "ShiftMaps" "text" "LShiftMaps$DriveText;", Cond.methodLink RX5 143 yX1_size, Cond.instanceMethod yX1_size, Cond.selects RX1 yX1_size yX1_size, Cond.code yX1_size cX1_size 1 (some .int), Cond.methodLink RX5 133 yX0_length, Cond.instanceMethod yX0_length, Cond.selects RX0 yX0_length yX0_length, Cond.initialized RX0, Cond.code yX0_length cX0_length 1 (some .int), Cond.fieldLink RX0 13 "ShiftMaps$DriveText" "length" "I", Cond.methodLink RX5 195 yX4_counted, Cond.instanceMethod yX4_counted, Cond.selects RX4 yX4_counted yX4_counted, Cond.code yX4_counted cX4_counted 2 (some .int), Cond.methodLink RL 116 yX5_shift]
def wsL_acts_r9 : List Cond := [Cond.instanceMethod yX5_shift, Cond.selects RX5 yX5_shift yX5_shift, Cond.code yX5_shift cX5_shift 3 (some .int), Cond.methodLink RX5 123 yX4_mayShiftTo, Cond.instanceMethod yX4_mayShiftTo, Cond.selects RX4 yX4_mayShiftTo yX4_mayShiftTo, Cond.code yX4_mayShiftTo cX4_mayShiftTo 2 (some .boolean), Cond.methodLink RX4 105 yX3_exceeds, Cond.instanceMethod yX3_exceeds, Cond.selects RX3 yX3_exceeds yX3_exceeds, Cond.code yX3_exceeds cX3_exceeds 3 (some .boolean), Cond.methodLink RX3 23 yX3_speed, Cond.methodLink RX5 126 yX4_begin, Cond.instanceMethod yX4_begin, Cond.selects RX4 yX4_begin yX4_begin, Cond.code yX4_begin cX4_begin 4 none, Cond.methodLink RX4 135 yX4_swings, Cond.instanceMethod yX4_swings, Cond.selects RX4 yX4_swings yX4_swings, Cond.code yX4_swings cX4_swings 3 (some .boolean), Cond.methodLink RX4 147 yX2_told, Cond.instanceMethod yX2_told, Cond.selects RX2 yX2_told yX2_told, Cond.code yX2_told cX2_told 5 (some .int)]
def wsL_acts_r10 : List Cond := [Cond.methodLink RX4 139 yX4_tick, Cond.instanceMethod yX4_tick, Cond.selects RX4 yX4_tick yX4_tick, Cond.code yX4_tick cX4_tick 1 (some .int), Cond.methodLink RX4 76 yX4_counted, Cond.methodLink RX4 143 yX2_add, Cond.instanceMethod yX2_add, Cond.selects RX2 yX2_add yX2_add, Cond.code yX2_add cX2_add 7 none, Cond.methodLink RX2 22 Lib.Math.min.name, Cond.methodLink RX4 131 yX4_countOneMore, Cond.instanceMethod yX4_countOneMore, Cond.selects RX4 yX4_countOneMore yX4_countOneMore, Cond.code yX4_countOneMore cX4_countOneMore 2 none, Cond.methodLink RL 68 yX5_change, Cond.instanceMethod yX5_change, Cond.selects RX5 yX5_change yX5_change, Cond.code yX5_change cX5_change 3 (some .int), Cond.methodLink RX5 191 yX2_told, Cond.methodLink RL 81 yL_pedal, Cond.static yL_pedal, Cond.code yL_pedal cL_pedal 1 (some .int), Cond.constant RL 31 (1048576000), Cond.constant RL 32 (1056964608)]
def wsL_acts_r11 : List Cond := [Cond.constant RL 33 (1064514355), Cond.constant RL 34 (1065353216), Cond.methodLink RL 95 yX5_drive, Cond.instanceMethod yX5_drive, Cond.selects RX5 yX5_drive yX5_drive, Cond.code yX5_drive cX5_drive 4 (some .int), Cond.constant RX5 99 (99999), Cond.methodLink RX5 92 yX5_isPedal, Cond.static yX5_isPedal, Cond.code yX5_isPedal cX5_isPedal 1 (some .boolean), Cond.constant RX5 199 (1065353216), Cond.methodLink RX5 95 yX4_tick, Cond.methodLink RX5 100 yX4_passTicks, Cond.instanceMethod yX4_passTicks, Cond.selects RX4 yX4_passTicks yX4_passTicks, Cond.code yX4_passTicks cX4_passTicks 6 (some .int), Cond.methodLink RX4 79 yX4_passTick, Cond.instanceMethod yX4_passTick, Cond.selects RX4 yX4_passTick yX4_passTick, Cond.code yX4_passTick cX4_passTick 4 (some .boolean), Cond.methodLink RX4 83 yX4_goOnWithChange, Cond.instanceMethod yX4_goOnWithChange, Cond.selects RX4 yX4_goOnWithChange yX4_goOnWithChange, Cond.code yX4_goOnWithChange cX4_goOnWithChange 1 none]
def wsL_acts_r12 : List Cond := [Cond.methodLink RX4 90 yX4_reasonToChange, Cond.instanceMethod yX4_reasonToChange, Cond.selects RX4 yX4_reasonToChange yX4_reasonToChange, Cond.code yX4_reasonToChange cX4_reasonToChange 3 (some .int), Cond.methodLink RX4 109 yX4_isDeep, Cond.static yX4_isDeep, Cond.code yX4_isDeep cX4_isDeep 1 (some .boolean), Cond.constantFloat RX4 124 (1064514355), Cond.methodLink RX4 113 yX4_kickdownGear, Cond.instanceMethod yX4_kickdownGear, Cond.selects RX4 yX4_kickdownGear yX4_kickdownGear, Cond.code yX4_kickdownGear cX4_kickdownGear 3 (some .int), Cond.methodLink RX4 125 Lib.Math.max.name, Cond.static Lib.Math.max.name, Cond.code Lib.Math.max.name Lib.Math.max.code 2 (some .int), Cond.methodLink RX4 117 yX3_upFrom, Cond.instanceMethod yX3_upFrom, Cond.selects RX3 yX3_upFrom yX3_upFrom, Cond.code yX3_upFrom cX3_upFrom 4 (some .float), Cond.methodLink RX4 121 yX3_downTo, Cond.instanceMethod yX3_downTo, Cond.selects RX3 yX3_downTo yX3_downTo, Cond.code yX3_downTo cX3_downTo 3 (some .float), Cond.methodLink RX3 27 yX3_upFrom]
def wsL_acts_r13 : List Cond := [Cond.methodLink RX4 94 yX4_gearChosenBy, Cond.instanceMethod yX4_gearChosenBy, Cond.selects RX4 yX4_gearChosenBy yX4_gearChosenBy, Cond.code yX4_gearChosenBy cX4_gearChosenBy 3 (some .int), Cond.methodLink RX4 98 yX4_begin, Cond.methodLink RX4 102 yX4_countTick, Cond.instanceMethod yX4_countTick, Cond.selects RX4 yX4_countTick yX4_countTick, Cond.code yX4_countTick cX4_countTick 1 none, Cond.methodLink RL 119 yL_settles, Cond.static yL_settles, Cond.code yL_settles cL_settles 5 (some .boolean), Cond.methodLink RL 126 yX5_settles, Cond.instanceMethod yX5_settles, Cond.selects RX5 yX5_settles yX5_settles, Cond.code yX5_settles cX5_settles 7 (some .int), Cond.fieldLink RX5 19 "ShiftMaps" "forecast" "LShiftMaps$State;", Cond.methodLink RX5 146 yX4_copyFrom, Cond.methodLink RX5 181 yX4_passTick, Cond.methodLink RL 123 yL_tick, Cond.static yL_tick, Cond.code yL_tick cL_tick 31 (some .boolean), Cond.constantFloat RL 37 (1064514355), Cond.methodLink RL 75 yL_deep]
def wsL_acts_r14 : List Cond := [Cond.static yL_deep, Cond.code yL_deep cL_deep 1 (some .float), Cond.constantFloat RL 35 (1048576000), Cond.constantFloat RL 36 (1056964608), Cond.methodLink RL 84 yX5_wouldChoose, Cond.instanceMethod yX5_wouldChoose, Cond.selects RX5 yX5_wouldChoose yX5_wouldChoose, Cond.code yX5_wouldChoose cX5_wouldChoose 3 (some .int), Cond.methodLink RL 91 yX5_border, Cond.instanceMethod yX5_border, Cond.selects RX5 yX5_border yX5_border, Cond.code yX5_border cX5_border 5 (some .float), Cond.methodLink RX5 174 yX3_upFrom, Cond.methodLink RX5 178 yX3_downTo, Cond.methodLink RL 99 yL_wentToAndFro, Cond.static yL_wentToAndFro, Cond.code yL_wentToAndFro cL_wentToAndFro 3 (some .boolean)]
def wsL_acts : List Cond := .code yL_acts cL_acts 9 (some .boolean) :: ((wsL_acts_r1 ++ (wsL_acts_r2 ++ (wsL_acts_r3 ++ (wsL_acts_r4 ++ (wsL_acts_r5 ++ (wsL_acts_r6 ++ (wsL_acts_r7 ++ (wsL_acts_r8 ++ (wsL_acts_r9 ++ (wsL_acts_r10 ++ (wsL_acts_r11 ++ (wsL_acts_r12 ++ (wsL_acts_r13 ++ wsL_acts_r14))))))))))))) ++ wsX50 ++ wsX40 ++ wsX30 ++ wsX10 ++ wsX20 ++ wsX00)
def wsL_errors_r1 : List Cond := [Cond.constant RL 128 (-2147483648), Cond.constant RL 129 (1133903873), Cond.constant RL 130 (2143289344), Cond.constant RL 131 (1065353217), Cond.methodLink RL 106 yX5_setMap, Cond.instanceMethod yX5_setMap, Cond.selects RX5 yX5_setMap yX5_setMap, Cond.initialized RX5, Cond.code yX5_setMap cX5_setMap 5 (some .int), Cond.fieldLink RX5 10 "ShiftMaps" "now" "LShiftMaps$State;", Cond.fieldLink RX5 25 "ShiftMaps" "history" "LShiftMaps$History;", Cond.methodLink RX5 40 yX3_has, Cond.static yX3_has, Cond.initialized RX3, Cond.code yX3_has cX3_has 2 (some .boolean), Cond.methodLink RX5 46 yX5_isSpeed, Cond.static yX5_isSpeed, Cond.code yX5_isSpeed cX5_isSpeed 1 (some .boolean), Cond.constant RX5 198 (1133903872), Cond.methodLink RX5 50 yX5_floatOf, Cond.static yX5_floatOf, Cond.code yX5_floatOf cX5_floatOf 5 (some .float), Cond.constant RX5 200 (8388607), Cond.constant RX5 201 (8388608)]
def wsL_errors_r2 : List Cond := [Cond.constantFloat RX5 202 (1056964608), Cond.methodLink RX5 58 yX3_speed, Cond.instanceMethod yX3_speed, Cond.selects RX3 yX3_speed yX3_speed, Cond.code yX3_speed cX3_speed 4 (some .float), Cond.fieldLink RX3 15 "ShiftMaps$Maps" "speeds" "[F", Cond.methodLink RX5 62 yX1_record, Cond.instanceMethod yX1_record, Cond.selects RX1 yX1_record yX1_record, Cond.initialized RX1, Cond.code yX1_record cX1_record 3 none, Cond.fieldLink RX1 15 "ShiftMaps$History" "next" "I", Cond.fieldLink RX1 19 "ShiftMaps$History" "size" "I", Cond.methodLink RX1 31 Lib.Math.min.name, Cond.static Lib.Math.min.name, Cond.initialized "java/lang/Math", Cond.code Lib.Math.min.name Lib.Math.min.code 2 (some .int), Cond.methodLink RX1 23 yX1_rowAt, Cond.instanceMethod yX1_rowAt, Cond.selects RX1 yX1_rowAt yX1_rowAt, Cond.code yX1_rowAt cX1_rowAt 2 (some (.object "ShiftMaps$State")), Cond.fieldLink RX1 11 "ShiftMaps$History" "states" "[LShiftMaps$State;", Cond.methodLink RX1 27 yX4_copyFrom, Cond.instanceMethod yX4_copyFrom]
def wsL_errors_r3 : List Cond := [Cond.selects RX4 yX4_copyFrom yX4_copyFrom, Cond.initialized RX4, Cond.code yX4_copyFrom cX4_copyFrom 2 none, Cond.fieldLink RX4 12 "ShiftMaps$State" "maps" "LShiftMaps$Maps;", Cond.fieldLink RX4 21 "ShiftMaps$State" "log" "LShiftMaps$Log;", Cond.fieldLink RX4 25 "ShiftMaps$State" "counts" "[I", Cond.methodLink RX4 59 arraycopyName, Cond.native arraycopyName, Cond.static arraycopyName, Cond.initialized "java/lang/System", Cond.fieldLink RX4 32 "ShiftMaps$State" "settings" "[I", Cond.fieldLink RX4 35 "ShiftMaps$State" "gear" "I", Cond.fieldLink RX4 39 "ShiftMaps$State" "target" "I", Cond.fieldLink RX4 42 "ShiftMaps$State" "done" "I", Cond.fieldLink RX4 45 "ShiftMaps$State" "held" "I", Cond.fieldLink RX4 48 "ShiftMaps$State" "handMode" "Z", Cond.fieldLink RX4 52 "ShiftMaps$State" "latestSpeed" "F", Cond.fieldLink RX4 56 "ShiftMaps$State" "latestPedal" "F", Cond.methodLink RX4 65 yX3_copyFrom, Cond.instanceMethod yX3_copyFrom, Cond.selects RX3 yX3_copyFrom yX3_copyFrom, Cond.code yX3_copyFrom cX3_copyFrom 2 none, Cond.methodLink RX3 31 arraycopyName, Cond.methodLink RX4 69 yX2_copyFrom]
def wsL_errors_r4 : List Cond := [Cond.instanceMethod yX2_copyFrom, Cond.selects RX2 yX2_copyFrom yX2_copyFrom, Cond.initialized RX2, Cond.code yX2_copyFrom cX2_copyFrom 2 none, Cond.fieldLink RX2 11 "ShiftMaps$Log" "cells" "[I", Cond.methodLink RX2 28 arraycopyName, Cond.fieldLink RX2 15 "ShiftMaps$Log" "next" "I", Cond.fieldLink RX2 19 "ShiftMaps$Log" "size" "I", Cond.methodLink RX5 66 yX3_put, Cond.instanceMethod yX3_put, Cond.selects RX3 yX3_put yX3_put, Cond.code yX3_put cX3_put 4 none, Cond.methodLink RX3 19 yX3_has, Cond.methodLink RL 109 yX5_setNumber, Cond.instanceMethod yX5_setNumber, Cond.selects RX5 yX5_setNumber yX5_setNumber, Cond.code yX5_setNumber cX5_setNumber 4 (some .int), Cond.methodLink RX5 70 yX4_allows, Cond.instanceMethod yX4_allows, Cond.selects RX4 yX4_allows yX4_allows, Cond.code yX4_allows cX4_allows 3 (some .boolean), Cond.methodLink RX4 72 yX4_setting, Cond.instanceMethod yX4_setting, Cond.selects RX4 yX4_setting yX4_setting]
def wsL_errors_r5 : List Cond := [Cond.code yX4_setting cX4_setting 2 (some .int), Cond.methodLink RX5 73 yX4_isChanging, Cond.instanceMethod yX4_isChanging, Cond.selects RX4 yX4_isChanging yX4_isChanging, Cond.code yX4_isChanging cX4_isChanging 1 (some .boolean), Cond.methodLink RX5 77 yX4_setting, Cond.methodLink RX5 81 yX4_putSetting, Cond.instanceMethod yX4_putSetting, Cond.selects RX4 yX4_putSetting yX4_putSetting, Cond.code yX4_putSetting cX4_putSetting 3 none, Cond.methodLink RL 95 yX5_drive, Cond.instanceMethod yX5_drive, Cond.selects RX5 yX5_drive yX5_drive, Cond.code yX5_drive cX5_drive 4 (some .int), Cond.constant RX5 99 (99999), Cond.methodLink RX5 92 yX5_isPedal, Cond.static yX5_isPedal, Cond.code yX5_isPedal cX5_isPedal 1 (some .boolean), Cond.constant RX5 199 (1065353216), Cond.methodLink RX5 95 yX4_tick, Cond.instanceMethod yX4_tick, Cond.selects RX4 yX4_tick yX4_tick, Cond.code yX4_tick cX4_tick 1 (some .int), Cond.methodLink RX4 76 yX4_counted]
def wsL_errors_r6 : List Cond := [Cond.instanceMethod yX4_counted, Cond.selects RX4 yX4_counted yX4_counted, Cond.code yX4_counted cX4_counted 2 (some .int), Cond.methodLink RX5 100 yX4_passTicks, Cond.instanceMethod yX4_passTicks, Cond.selects RX4 yX4_passTicks yX4_passTicks, Cond.code yX4_passTicks cX4_passTicks 6 (some .int), Cond.methodLink RX4 79 yX4_passTick, Cond.instanceMethod yX4_passTick, Cond.selects RX4 yX4_passTick yX4_passTick, Cond.code yX4_passTick cX4_passTick 4 (some .boolean), Cond.methodLink RX4 83 yX4_goOnWithChange, Cond.instanceMethod yX4_goOnWithChange, Cond.selects RX4 yX4_goOnWithChange yX4_goOnWithChange, Cond.code yX4_goOnWithChange cX4_goOnWithChange 1 none, Cond.methodLink RX4 86 yX4_isChanging, Cond.methodLink RX4 90 yX4_reasonToChange, Cond.instanceMethod yX4_reasonToChange, Cond.selects RX4 yX4_reasonToChange yX4_reasonToChange, Cond.code yX4_reasonToChange cX4_reasonToChange 3 (some .int), Cond.methodLink RX4 105 yX3_exceeds, Cond.instanceMethod yX3_exceeds, Cond.selects RX3 yX3_exceeds yX3_exceeds, Cond.code yX3_exceeds cX3_exceeds 3 (some .boolean)]
def wsL_errors_r7 : List Cond := [Cond.methodLink RX3 23 yX3_speed, Cond.methodLink RX4 109 yX4_isDeep, Cond.static yX4_isDeep, Cond.code yX4_isDeep cX4_isDeep 1 (some .boolean), Cond.constantFloat RX4 124 (1064514355), Cond.methodLink RX4 113 yX4_kickdownGear, Cond.instanceMethod yX4_kickdownGear, Cond.selects RX4 yX4_kickdownGear yX4_kickdownGear, Cond.code yX4_kickdownGear cX4_kickdownGear 3 (some .int), Cond.methodLink RX4 125 Lib.Math.max.name, Cond.static Lib.Math.max.name, Cond.code Lib.Math.max.name Lib.Math.max.code 2 (some .int), Cond.methodLink RX4 117 yX3_upFrom, Cond.instanceMethod yX3_upFrom, Cond.selects RX3 yX3_upFrom yX3_upFrom, Cond.code yX3_upFrom cX3_upFrom 4 (some .float), Cond.methodLink RX4 121 yX3_downTo, Cond.instanceMethod yX3_downTo, Cond.selects RX3 yX3_downTo yX3_downTo, Cond.code yX3_downTo cX3_downTo 3 (some .float), Cond.methodLink RX3 27 yX3_upFrom, Cond.methodLink RX4 94 yX4_gearChosenBy, Cond.instanceMethod yX4_gearChosenBy, Cond.selects RX4 yX4_gearChosenBy yX4_gearChosenBy]
def wsL_errors_r8 : List Cond := [Cond.code yX4_gearChosenBy cX4_gearChosenBy 3 (some .int), Cond.methodLink RX4 98 yX4_begin, Cond.instanceMethod yX4_begin, Cond.selects RX4 yX4_begin yX4_begin, Cond.code yX4_begin cX4_begin 4 none, Cond.methodLink RX4 135 yX4_swings, Cond.instanceMethod yX4_swings, Cond.selects RX4 yX4_swings yX4_swings, Cond.code yX4_swings cX4_swings 3 (some .boolean), Cond.methodLink RX4 147 yX2_told, Cond.instanceMethod yX2_told, Cond.selects RX2 yX2_told yX2_told, Cond.code yX2_told cX2_told 5 (some .int), Cond.methodLink RX4 139 yX4_tick, Cond.methodLink RX4 143 yX2_add, Cond.instanceMethod yX2_add, Cond.selects RX2 yX2_add yX2_add, Cond.code yX2_add cX2_add 7 none, Cond.methodLink RX2 22 Lib.Math.min.name, Cond.methodLink RX4 131 yX4_countOneMore, Cond.instanceMethod yX4_countOneMore, Cond.selects RX4 yX4_countOneMore yX4_countOneMore, Cond.code yX4_countOneMore cX4_countOneMore 2 none, Cond.methodLink RX4 102 yX4_countTick]
def wsL_errors_r9 : List Cond := [Cond.instanceMethod yX4_countTick, Cond.selects RX4 yX4_countTick yX4_countTick, Cond.code yX4_countTick cX4_countTick 1 none, Cond.methodLink RL 84 yX5_wouldChoose, Cond.instanceMethod yX5_wouldChoose, Cond.selects RX5 yX5_wouldChoose yX5_wouldChoose, Cond.code yX5_wouldChoose cX5_wouldChoose 3 (some .int), Cond.fieldLink RX5 19 "ShiftMaps" "forecast" "LShiftMaps$State;", Cond.methodLink RX5 146 yX4_copyFrom, Cond.methodLink RX5 181 yX4_passTick, Cond.methodLink RL 126 yX5_settles, Cond.instanceMethod yX5_settles, Cond.selects RX5 yX5_settles yX5_settles, Cond.code yX5_settles cX5_settles 7 (some .int), Cond.methodLink RL 87 yX5_map, Cond.instanceMethod yX5_map, Cond.selects RX5 yX5_map yX5_map, Cond.code yX5_map cX5_map 3 (some .float), Cond.methodLink RX5 167 yX5_notANumber, Cond.static yX5_notANumber, Cond.code yX5_notANumber cX5_notANumber 0 (some .float), Cond.constantFloat RX5 203 (2143289344), Cond.methodLink RL 64 yL_isNone, Cond.static yL_isNone]
def wsL_errors_r10 : List Cond := [Cond.initialized RL, Cond.code yL_isNone cL_isNone 1 (some .boolean), Cond.methodLink RL 91 yX5_border, Cond.instanceMethod yX5_border, Cond.selects RX5 yX5_border yX5_border, Cond.code yX5_border cX5_border 5 (some .float), Cond.methodLink RX5 174 yX3_upFrom, Cond.methodLink RX5 178 yX3_downTo, Cond.methodLink RL 44 yX5_number, Cond.instanceMethod yX5_number, Cond.selects RX5 yX5_number yX5_number, Cond.code yX5_number cX5_number 2 (some .int), Cond.methodLink RL 57 yX5_count, Cond.instanceMethod yX5_count, Cond.selects RX5 yX5_count yX5_count, Cond.code yX5_count cX5_count 2 (some .int), Cond.fieldLink RX5 32 "ShiftMaps" "text" "LShiftMaps$DriveText;", Cond.methodLink RX5 143 yX1_size, Cond.instanceMethod yX1_size, Cond.selects RX1 yX1_size yX1_size, Cond.code yX1_size cX1_size 1 (some .int), Cond.methodLink RX5 133 yX0_length, Cond.instanceMethod yX0_length, Cond.selects RX0 yX0_length yX0_length]
def wsL_errors_r11 : List Cond := [Cond.initialized RX0, Cond.code yX0_length cX0_length 1 (some .int), Cond.fieldLink RX0 13 "ShiftMaps$DriveText" "length" "I", Cond.methodLink RX5 195 yX4_counted, Cond.methodLink RL 132 yX5_clearText, Cond.instanceMethod yX5_clearText, Cond.selects RX5 yX5_clearText yX5_clearText, Cond.code yX5_clearText cX5_clearText 2 (some .int), Cond.methodLink RX5 136 yX0_clear, Cond.instanceMethod yX0_clear, Cond.selects RX0 yX0_clear yX0_clear, Cond.code yX0_clear cX0_clear 1 none, Cond.methodLink RL 136 yX5_readDrive, Cond.instanceMethod yX5_readDrive, Cond.selects RX5 yX5_readDrive yX5_readDrive, Cond.code yX5_readDrive cX5_readDrive 6 (some .int), Cond.constantFloat RX5 119 (1120403456), Cond.methodLink RX5 104 yX0_read, Cond.instanceMethod yX0_read, Cond.selects RX0 yX0_read yX0_read, Cond.code yX0_read cX0_read 2 (some .int), Cond.fieldLink RX0 21 "ShiftMaps$DriveText" "parts" "I", Cond.fieldLink RX0 9 "ShiftMaps$DriveText" "characters" "[C", Cond.methodLink RX0 41 yX0_expectNumber]
def wsL_errors_r12 : List Cond := [Cond.instanceMethod yX0_expectNumber, Cond.selects RX0 yX0_expectNumber yX0_expectNumber, Cond.code yX0_expectNumber cX0_expectNumber 2 none, Cond.fieldLink RX0 24 "ShiftMaps$DriveText" "place" "I", Cond.fieldLink RX0 27 "ShiftMaps$DriveText" "value" "I", Cond.fieldLink RX0 30 "ShiftMaps$DriveText" "digits" "I", Cond.methodLink RX0 45 yX0_takes, Cond.instanceMethod yX0_takes, Cond.selects RX0 yX0_takes yX0_takes, Cond.code yX0_takes cX0_takes 2 (some .boolean), Cond.methodLink RX0 53 yX0_endNumber, Cond.instanceMethod yX0_endNumber, Cond.selects RX0 yX0_endNumber yX0_endNumber, Cond.code yX0_endNumber cX0_endNumber 2 (some .boolean), Cond.methodLink RX0 63 yX0_putNumber, Cond.instanceMethod yX0_putNumber, Cond.selects RX0 yX0_putNumber yX0_putNumber, Cond.code yX0_putNumber cX0_putNumber 4 none, Cond.fieldLink RX0 17 "ShiftMaps$DriveText" "numbers" "[I", Cond.methodLink RX0 49 yX0_endPart, Cond.instanceMethod yX0_endPart, Cond.selects RX0 yX0_endPart yX0_endPart, Cond.code yX0_endPart cX0_endPart 2 (some .boolean), Cond.methodLink RX0 57 yX0_takesDigit]
def wsL_errors_r13 : List Cond := [Cond.instanceMethod yX0_takesDigit, Cond.selects RX0 yX0_takesDigit yX0_takesDigit, Cond.code yX0_takesDigit cX0_takesDigit 3 (some .boolean), Cond.fieldLink RX0 60 "ShiftMaps$DriveText" "GREATEST" "[I", Cond.methodLink RX5 107 yX0_ticksOfAllParts, Cond.instanceMethod yX0_ticksOfAllParts, Cond.selects RX0 yX0_ticksOfAllParts yX0_ticksOfAllParts, Cond.code yX0_ticksOfAllParts cX0_ticksOfAllParts 3 (some .int), Cond.methodLink RX0 37 yX0_ticksOf, Cond.instanceMethod yX0_ticksOf, Cond.selects RX0 yX0_ticksOf yX0_ticksOf, Cond.code yX0_ticksOf cX0_ticksOf 2 (some .int), Cond.methodLink RX0 33 yX0_numberOf, Cond.instanceMethod yX0_numberOf, Cond.selects RX0 yX0_numberOf yX0_numberOf, Cond.code yX0_numberOf cX0_numberOf 4 (some .int), Cond.methodLink RX5 110 yX0_partCount, Cond.instanceMethod yX0_partCount, Cond.selects RX0 yX0_partCount yX0_partCount, Cond.code yX0_partCount cX0_partCount 1 (some .int), Cond.methodLink RX5 113 yX0_speedOf, Cond.instanceMethod yX0_speedOf, Cond.selects RX0 yX0_speedOf yX0_speedOf, Cond.code yX0_speedOf cX0_speedOf 2 (some .int)]
def wsL_errors_r14 : List Cond := [Cond.methodLink RX5 116 yX0_hundredthsOf, Cond.instanceMethod yX0_hundredthsOf, Cond.selects RX0 yX0_hundredthsOf yX0_hundredthsOf, Cond.code yX0_hundredthsOf cX0_hundredthsOf 2 (some .int), Cond.methodLink RX5 120 yX0_ticksOf, Cond.methodLink RL 139 yX5_type, Cond.instanceMethod yX5_type, Cond.selects RX5 yX5_type yX5_type, Cond.code yX5_type cX5_type 2 (some .int), Cond.methodLink RX5 129 yX0_append, Cond.instanceMethod yX0_append, Cond.selects RX0 yX0_append yX0_append, Cond.code yX0_append cX0_append 2 (some .boolean), Cond.methodLink RL 143 yX5_undo, Cond.instanceMethod yX5_undo, Cond.selects RX5 yX5_undo yX5_undo, Cond.code yX5_undo cX5_undo 1 (some .int), Cond.methodLink RX5 139 yX1_takeLatestInto, Cond.instanceMethod yX1_takeLatestInto, Cond.selects RX1 yX1_takeLatestInto yX1_takeLatestInto, Cond.code yX1_takeLatestInto cX1_takeLatestInto 4 (some .boolean)]
def wsL_errors : List Cond := .code yL_errors cL_errors 3 (some .boolean) :: ((wsL_errors_r1 ++ (wsL_errors_r2 ++ (wsL_errors_r3 ++ (wsL_errors_r4 ++ (wsL_errors_r5 ++ (wsL_errors_r6 ++ (wsL_errors_r7 ++ (wsL_errors_r8 ++ (wsL_errors_r9 ++ (wsL_errors_r10 ++ (wsL_errors_r11 ++ (wsL_errors_r12 ++ (wsL_errors_r13 ++ wsL_errors_r14))))))))))))) ++ wsX50 ++ wsX40 ++ wsX30 ++ wsX10 ++ wsX20 ++ wsX00)
def wsL_law_r1 : List Cond := [Cond.classLink RL 39 RX5, Cond.instantiable RX5 6, Cond.initialized RX5, Cond.methodLink RL 146 yX5_init, Cond.instanceMethod yX5_init, Cond.code yX5_init cX5_init 1 none, Cond.methodLink RX5 1 objectInit, Cond.instanceMethod objectInit, Cond.code objectInit ⟨#[0xb1]⟩ 1 none, Cond.classLink RX5 7 RX4, Cond.instantiable RX4 11, Cond.initialized RX4, Cond.fieldLink RX5 10 "ShiftMaps" "now" "LShiftMaps$State;", Cond.fieldLink RX5 16 "ShiftMaps" "snapshot" "LShiftMaps$State;", Cond.fieldLink RX5 19 "ShiftMaps" "forecast" "LShiftMaps$State;", Cond.classLink RX5 22 RX1, Cond.instantiable RX1 3, Cond.initialized RX1, Cond.fieldLink RX5 25 "ShiftMaps" "history" "LShiftMaps$History;", Cond.classLink RX5 29 RX0, Cond.instantiable RX0 7, Cond.initialized RX0, Cond.fieldLink RX5 32 "ShiftMaps" "text" "LShiftMaps$DriveText;", Cond.fieldLink RX5 36 "ShiftMaps" "hasSnapshot" "Z"]
def wsL_law_r2 : List Cond := [Cond.methodLink RX5 9 yX4_init, Cond.instanceMethod yX4_init, Cond.code yX4_init cX4_init 1 none, Cond.methodLink RX4 3 objectInit, Cond.classLink RX4 9 RX3, Cond.instantiable RX3 1, Cond.initialized RX3, Cond.fieldLink RX4 12 "ShiftMaps$State" "maps" "LShiftMaps$Maps;", Cond.classLink RX4 18 RX2, Cond.instantiable RX2 3, Cond.initialized RX2, Cond.fieldLink RX4 21 "ShiftMaps$State" "log" "LShiftMaps$Log;", Cond.arrayClass .int, Cond.fieldLink RX4 25 "ShiftMaps$State" "counts" "[I", Cond.fieldLink RX4 29 "ShiftMaps$State" "SETTINGS_AT_FIRST" "[I", Cond.fieldLink RX4 32 "ShiftMaps$State" "settings" "[I", Cond.fieldLink RX4 35 "ShiftMaps$State" "gear" "I", Cond.fieldLink RX4 39 "ShiftMaps$State" "target" "I", Cond.fieldLink RX4 42 "ShiftMaps$State" "done" "I", Cond.fieldLink RX4 45 "ShiftMaps$State" "held" "I", Cond.fieldLink RX4 48 "ShiftMaps$State" "handMode" "Z", Cond.fieldLink RX4 52 "ShiftMaps$State" "latestSpeed" "F", Cond.fieldLink RX4 56 "ShiftMaps$State" "latestPedal" "F", Cond.methodLink RX4 59 arraycopyName]
def wsL_law_r3 : List Cond := [Cond.native arraycopyName, Cond.static arraycopyName, Cond.initialized "java/lang/System", Cond.methodLink RX4 11 yX3_init, Cond.instanceMethod yX3_init, Cond.code yX3_init cX3_init 2 none, Cond.methodLink RX3 3 objectInit, Cond.fieldLink RX3 9 "ShiftMaps$Maps" "AT_FIRST" "[I", Cond.arrayClass .float, Cond.fieldLink RX3 15 "ShiftMaps$Maps" "speeds" "[F", Cond.instanceMethod yX2_init, Cond.code yX2_init cX2_init 1 none, Cond.methodLink RX2 3 objectInit, Cond.fieldLink RX2 11 "ShiftMaps$Log" "cells" "[I", Cond.fieldLink RX2 15 "ShiftMaps$Log" "next" "I", Cond.fieldLink RX2 19 "ShiftMaps$Log" "size" "I", Cond.methodLink RX5 24 yX1_init, Cond.instanceMethod yX1_init, Cond.code yX1_init cX1_init 2 none, Cond.methodLink RX1 1 objectInit, Cond.classLink RX1 9 RX4, Cond.fieldLink RX1 11 "ShiftMaps$History" "states" "[LShiftMaps$State;", Cond.fieldLink RX1 15 "ShiftMaps$History" "next" "I", Cond.fieldLink RX1 19 "ShiftMaps$History" "size" "I"]
def wsL_law_r4 : List Cond := [Cond.methodLink RX1 22 yX4_init, Cond.instanceMethod yX0_init, Cond.code yX0_init cX0_init 1 none, Cond.methodLink RX0 3 objectInit, Cond.arrayClass .char, Cond.fieldLink RX0 9 "ShiftMaps$DriveText" "characters" "[C", Cond.fieldLink RX0 13 "ShiftMaps$DriveText" "length" "I", Cond.fieldLink RX0 17 "ShiftMaps$DriveText" "numbers" "[I", Cond.fieldLink RX0 21 "ShiftMaps$DriveText" "parts" "I", Cond.fieldLink RX0 24 "ShiftMaps$DriveText" "place" "I", Cond.fieldLink RX0 27 "ShiftMaps$DriveText" "value" "I", Cond.fieldLink RX0 30 "ShiftMaps$DriveText" "digits" "I", Cond.methodLink RL 147 yL_cell, Cond.static yL_cell, Cond.initialized RL, Cond.code yL_cell cL_cell 2 (some .int), Cond.constant RL 7 (15010021), Cond.methodLink RL 151 yL_acts, Cond.static yL_acts, Cond.code yL_acts cL_acts 9 (some .boolean), Cond.methodLink RL 103 yL_low, Cond.static yL_low, Cond.code yL_low cL_low 2 (some .int), Cond.constant RL 8 (2147483647)]
def wsL_law_r5 : List Cond := [Cond.methodLink RL 87 yX5_map, Cond.instanceMethod yX5_map, Cond.selects RX5 yX5_map yX5_map, Cond.code yX5_map cX5_map 3 (some .float), Cond.methodLink RX5 40 yX3_has, Cond.static yX3_has, Cond.code yX3_has cX3_has 2 (some .boolean), Cond.methodLink RX5 58 yX3_speed, Cond.instanceMethod yX3_speed, Cond.selects RX3 yX3_speed yX3_speed, Cond.code yX3_speed cX3_speed 4 (some .float), Cond.methodLink RX5 167 yX5_notANumber, Cond.static yX5_notANumber, Cond.code yX5_notANumber cX5_notANumber 0 (some .float), Cond.constantFloat RX5 203 (2143289344), Cond.methodLink RL 72 yL_fast, Cond.static yL_fast, Cond.code yL_fast cL_fast 1 (some .float), Cond.constantFloat RL 20 (1092616192), Cond.constantFloat RL 21 (1101004800), Cond.constantFloat RL 22 (1107820544), Cond.constantFloat RL 23 (1112014848), Cond.constantFloat RL 24 (1112276992), Cond.constantFloat RL 25 (1115160576)]
def wsL_law_r6 : List Cond := [Cond.constantFloat RL 26 (1119092736), Cond.constantFloat RL 27 (1120403456), Cond.constantFloat RL 28 (1125515264), Cond.constantFloat RL 29 (1129447424), Cond.constantFloat RL 30 (1133903872), Cond.methodLink RL 78 yL_speed, Cond.static yL_speed, Cond.code yL_speed cL_speed 1 (some .int), Cond.constant RL 9 (1092616192), Cond.constant RL 10 (1101004800), Cond.constant RL 11 (1107820544), Cond.constant RL 12 (1112014848), Cond.constant RL 13 (1112276992), Cond.constant RL 14 (1115160576), Cond.constant RL 15 (1119092736), Cond.constant RL 16 (1120403456), Cond.constant RL 17 (1125515264), Cond.constant RL 18 (1129447424), Cond.constant RL 19 (1133903872), Cond.methodLink RL 106 yX5_setMap, Cond.instanceMethod yX5_setMap, Cond.selects RX5 yX5_setMap yX5_setMap, Cond.code yX5_setMap cX5_setMap 5 (some .int), Cond.methodLink RX5 46 yX5_isSpeed]
def wsL_law_r7 : List Cond := [Cond.static yX5_isSpeed, Cond.code yX5_isSpeed cX5_isSpeed 1 (some .boolean), Cond.constant RX5 198 (1133903872), Cond.methodLink RX5 50 yX5_floatOf, Cond.static yX5_floatOf, Cond.code yX5_floatOf cX5_floatOf 5 (some .float), Cond.constant RX5 200 (8388607), Cond.constant RX5 201 (8388608), Cond.constantFloat RX5 202 (1056964608), Cond.methodLink RX5 62 yX1_record, Cond.instanceMethod yX1_record, Cond.selects RX1 yX1_record yX1_record, Cond.code yX1_record cX1_record 3 none, Cond.methodLink RX1 31 Lib.Math.min.name, Cond.static Lib.Math.min.name, Cond.initialized "java/lang/Math", Cond.code Lib.Math.min.name Lib.Math.min.code 2 (some .int), Cond.methodLink RX1 23 yX1_rowAt, Cond.instanceMethod yX1_rowAt, Cond.selects RX1 yX1_rowAt yX1_rowAt, Cond.code yX1_rowAt cX1_rowAt 2 (some (.object "ShiftMaps$State")), Cond.methodLink RX1 27 yX4_copyFrom, Cond.instanceMethod yX4_copyFrom, Cond.selects RX4 yX4_copyFrom yX4_copyFrom]
def wsL_law_r8 : List Cond := [Cond.code yX4_copyFrom cX4_copyFrom 2 none, Cond.methodLink RX4 65 yX3_copyFrom, Cond.instanceMethod yX3_copyFrom, Cond.selects RX3 yX3_copyFrom yX3_copyFrom, Cond.code yX3_copyFrom cX3_copyFrom 2 none, Cond.methodLink RX3 31 arraycopyName, Cond.methodLink RX4 69 yX2_copyFrom, Cond.instanceMethod yX2_copyFrom, Cond.selects RX2 yX2_copyFrom yX2_copyFrom, Cond.code yX2_copyFrom cX2_copyFrom 2 none, Cond.methodLink RX2 28 arraycopyName, Cond.methodLink RX5 66 yX3_put, Cond.instanceMethod yX3_put, Cond.selects RX3 yX3_put yX3_put, Cond.code yX3_put cX3_put 4 none, Cond.methodLink RX3 19 yX3_has, Cond.methodLink RL 44 yX5_number, Cond.instanceMethod yX5_number, Cond.selects RX5 yX5_number yX5_number, Cond.code yX5_number cX5_number 2 (some .int), Cond.methodLink RX5 77 yX4_setting, Cond.instanceMethod yX4_setting, Cond.selects RX4 yX4_setting yX4_setting, Cond.code yX4_setting cX4_setting 2 (some .int)]
def wsL_law_r9 : List Cond := [Cond.methodLink RL 38 yX5_car, Cond.instanceMethod yX5_car, Cond.selects RX5 yX5_car yX5_car, Cond.code yX5_car cX5_car 2 (some .int), Cond.methodLink RX5 73 yX4_isChanging, Cond.instanceMethod yX4_isChanging, Cond.selects RX4 yX4_isChanging yX4_isChanging, Cond.code yX4_isChanging cX4_isChanging 1 (some .boolean), Cond.methodLink RX5 158 yX4_opening, Cond.instanceMethod yX4_opening, Cond.selects RX4 yX4_opening yX4_opening, Cond.code yX4_opening cX4_opening 1 (some .int), Cond.methodLink RX4 86 yX4_isChanging, Cond.methodLink RX4 160 yX4_closedOnlyIn, Cond.static yX4_closedOnlyIn, Cond.code yX4_closedOnlyIn cX4_closedOnlyIn 3 (some .int), Cond.methodLink RX4 156 yX4_isClosed, Cond.static yX4_isClosed, Cond.code yX4_isClosed cX4_isClosed 3 (some .boolean), Cond.fieldLink RX4 150 "ShiftMaps$State" "LOWER_CLUTCH" "[I", Cond.fieldLink RX4 153 "ShiftMaps$State" "HIGHER_CLUTCH" "[I", Cond.methodLink RX5 161 yX4_closing, Cond.instanceMethod yX4_closing, Cond.selects RX4 yX4_closing yX4_closing]
def wsL_law_r10 : List Cond := [Cond.code yX4_closing cX4_closing 1 (some .int), Cond.methodLink RL 109 yX5_setNumber, Cond.instanceMethod yX5_setNumber, Cond.selects RX5 yX5_setNumber yX5_setNumber, Cond.code yX5_setNumber cX5_setNumber 4 (some .int), Cond.methodLink RX5 70 yX4_allows, Cond.instanceMethod yX4_allows, Cond.selects RX4 yX4_allows yX4_allows, Cond.code yX4_allows cX4_allows 3 (some .boolean), Cond.methodLink RX4 72 yX4_setting, Cond.methodLink RX5 81 yX4_putSetting, Cond.instanceMethod yX4_putSetting, Cond.selects RX4 yX4_putSetting yX4_putSetting, Cond.code yX4_putSetting cX4_putSetting 3 none, Cond.methodLink RL 112 yX5_byHand, Cond.instanceMethod yX5_byHand, Cond.selects RX5 yX5_byHand yX5_byHand, Cond.code yX5_byHand cX5_byHand 2 (some .int), Cond.methodLink RL 57 yX5_count, Cond.instanceMethod yX5_count, Cond.selects RX5 yX5_count yX5_count, Cond.code yX5_count cX5_count 2 (some .int), Cond.methodLink RX5 143 yX1_size, Cond.instanceMethod yX1_size]
def wsL_law_r11 : List Cond := [Cond.selects RX1 yX1_size yX1_size, Cond.code yX1_size cX1_size 1 (some .int), Cond.methodLink RX5 133 yX0_length, Cond.instanceMethod yX0_length, Cond.selects RX0 yX0_length yX0_length, Cond.code yX0_length cX0_length 1 (some .int), Cond.methodLink RX5 195 yX4_counted, Cond.instanceMethod yX4_counted, Cond.selects RX4 yX4_counted yX4_counted, Cond.code yX4_counted cX4_counted 2 (some .int), Cond.methodLink RL 116 yX5_shift, Cond.instanceMethod yX5_shift, Cond.selects RX5 yX5_shift yX5_shift, Cond.code yX5_shift cX5_shift 3 (some .int), Cond.methodLink RX5 123 yX4_mayShiftTo, Cond.instanceMethod yX4_mayShiftTo, Cond.selects RX4 yX4_mayShiftTo yX4_mayShiftTo, Cond.code yX4_mayShiftTo cX4_mayShiftTo 2 (some .boolean), Cond.methodLink RX4 105 yX3_exceeds, Cond.instanceMethod yX3_exceeds, Cond.selects RX3 yX3_exceeds yX3_exceeds, Cond.code yX3_exceeds cX3_exceeds 3 (some .boolean), Cond.methodLink RX3 23 yX3_speed, Cond.methodLink RX5 126 yX4_begin]
def wsL_law_r12 : List Cond := [Cond.instanceMethod yX4_begin, Cond.selects RX4 yX4_begin yX4_begin, Cond.code yX4_begin cX4_begin 4 none, Cond.methodLink RX4 135 yX4_swings, Cond.instanceMethod yX4_swings, Cond.selects RX4 yX4_swings yX4_swings, Cond.code yX4_swings cX4_swings 3 (some .boolean), Cond.methodLink RX4 147 yX2_told, Cond.instanceMethod yX2_told, Cond.selects RX2 yX2_told yX2_told, Cond.code yX2_told cX2_told 5 (some .int), Cond.methodLink RX4 139 yX4_tick, Cond.instanceMethod yX4_tick, Cond.selects RX4 yX4_tick yX4_tick, Cond.code yX4_tick cX4_tick 1 (some .int), Cond.methodLink RX4 76 yX4_counted, Cond.methodLink RX4 143 yX2_add, Cond.instanceMethod yX2_add, Cond.selects RX2 yX2_add yX2_add, Cond.code yX2_add cX2_add 7 none, Cond.methodLink RX2 22 Lib.Math.min.name, Cond.methodLink RX4 131 yX4_countOneMore, Cond.instanceMethod yX4_countOneMore, Cond.selects RX4 yX4_countOneMore yX4_countOneMore]
def wsL_law_r13 : List Cond := [Cond.code yX4_countOneMore cX4_countOneMore 2 none, Cond.methodLink RL 68 yX5_change, Cond.instanceMethod yX5_change, Cond.selects RX5 yX5_change yX5_change, Cond.code yX5_change cX5_change 3 (some .int), Cond.methodLink RX5 191 yX2_told, Cond.methodLink RL 81 yL_pedal, Cond.static yL_pedal, Cond.code yL_pedal cL_pedal 1 (some .int), Cond.constant RL 31 (1048576000), Cond.constant RL 32 (1056964608), Cond.constant RL 33 (1064514355), Cond.constant RL 34 (1065353216), Cond.methodLink RL 95 yX5_drive, Cond.instanceMethod yX5_drive, Cond.selects RX5 yX5_drive yX5_drive, Cond.code yX5_drive cX5_drive 4 (some .int), Cond.constant RX5 99 (99999), Cond.methodLink RX5 92 yX5_isPedal, Cond.static yX5_isPedal, Cond.code yX5_isPedal cX5_isPedal 1 (some .boolean), Cond.constant RX5 199 (1065353216), Cond.methodLink RX5 95 yX4_tick, Cond.methodLink RX5 100 yX4_passTicks]
def wsL_law_r14 : List Cond := [Cond.instanceMethod yX4_passTicks, Cond.selects RX4 yX4_passTicks yX4_passTicks, Cond.code yX4_passTicks cX4_passTicks 6 (some .int), Cond.methodLink RX4 79 yX4_passTick, Cond.instanceMethod yX4_passTick, Cond.selects RX4 yX4_passTick yX4_passTick, Cond.code yX4_passTick cX4_passTick 4 (some .boolean), Cond.methodLink RX4 83 yX4_goOnWithChange, Cond.instanceMethod yX4_goOnWithChange, Cond.selects RX4 yX4_goOnWithChange yX4_goOnWithChange, Cond.code yX4_goOnWithChange cX4_goOnWithChange 1 none, Cond.methodLink RX4 90 yX4_reasonToChange, Cond.instanceMethod yX4_reasonToChange, Cond.selects RX4 yX4_reasonToChange yX4_reasonToChange, Cond.code yX4_reasonToChange cX4_reasonToChange 3 (some .int), Cond.methodLink RX4 109 yX4_isDeep, Cond.static yX4_isDeep, Cond.code yX4_isDeep cX4_isDeep 1 (some .boolean), Cond.constantFloat RX4 124 (1064514355), Cond.methodLink RX4 113 yX4_kickdownGear, Cond.instanceMethod yX4_kickdownGear, Cond.selects RX4 yX4_kickdownGear yX4_kickdownGear, Cond.code yX4_kickdownGear cX4_kickdownGear 3 (some .int), Cond.methodLink RX4 125 Lib.Math.max.name]
def wsL_law_r15 : List Cond := [Cond.static Lib.Math.max.name, Cond.code Lib.Math.max.name Lib.Math.max.code 2 (some .int), Cond.methodLink RX4 117 yX3_upFrom, Cond.instanceMethod yX3_upFrom, Cond.selects RX3 yX3_upFrom yX3_upFrom, Cond.code yX3_upFrom cX3_upFrom 4 (some .float), Cond.methodLink RX4 121 yX3_downTo, Cond.instanceMethod yX3_downTo, Cond.selects RX3 yX3_downTo yX3_downTo, Cond.code yX3_downTo cX3_downTo 3 (some .float), Cond.methodLink RX3 27 yX3_upFrom, Cond.methodLink RX4 94 yX4_gearChosenBy, Cond.instanceMethod yX4_gearChosenBy, Cond.selects RX4 yX4_gearChosenBy yX4_gearChosenBy, Cond.code yX4_gearChosenBy cX4_gearChosenBy 3 (some .int), Cond.methodLink RX4 98 yX4_begin, Cond.methodLink RX4 102 yX4_countTick, Cond.instanceMethod yX4_countTick, Cond.selects RX4 yX4_countTick yX4_countTick, Cond.code yX4_countTick cX4_countTick 1 none, Cond.methodLink RL 119 yL_settles, Cond.static yL_settles, Cond.code yL_settles cL_settles 5 (some .boolean), Cond.methodLink RL 126 yX5_settles]
def wsL_law_r16 : List Cond := [Cond.instanceMethod yX5_settles, Cond.selects RX5 yX5_settles yX5_settles, Cond.code yX5_settles cX5_settles 7 (some .int), Cond.methodLink RX5 146 yX4_copyFrom, Cond.methodLink RX5 181 yX4_passTick, Cond.methodLink RL 123 yL_tick, Cond.static yL_tick, Cond.code yL_tick cL_tick 31 (some .boolean), Cond.constantFloat RL 37 (1064514355), Cond.methodLink RL 75 yL_deep, Cond.static yL_deep, Cond.code yL_deep cL_deep 1 (some .float), Cond.constantFloat RL 35 (1048576000), Cond.constantFloat RL 36 (1056964608), Cond.methodLink RL 84 yX5_wouldChoose, Cond.instanceMethod yX5_wouldChoose, Cond.selects RX5 yX5_wouldChoose yX5_wouldChoose, Cond.code yX5_wouldChoose cX5_wouldChoose 3 (some .int), Cond.methodLink RL 91 yX5_border, Cond.instanceMethod yX5_border, Cond.selects RX5 yX5_border yX5_border, Cond.code yX5_border cX5_border 5 (some .float), Cond.methodLink RX5 174 yX3_upFrom, Cond.methodLink RX5 178 yX3_downTo]
def wsL_law_r17 : List Cond := [Cond.methodLink RL 99 yL_wentToAndFro, Cond.static yL_wentToAndFro, Cond.code yL_wentToAndFro cL_wentToAndFro 3 (some .boolean), Cond.methodLink RL 154 yL_told, Cond.static yL_told, Cond.code yL_told cL_told 18 (some .boolean), Cond.methodLink RL 47 yL_isClosed, Cond.static yL_isClosed, Cond.code yL_isClosed cL_isClosed 3 (some .boolean), Cond.methodLink RL 53 yX5_pressed, Cond.instanceMethod yX5_pressed, Cond.selects RX5 yX5_pressed yX5_pressed, Cond.code yX5_pressed cX5_pressed 2 (some .float), Cond.methodLink RX5 164 yX4_pressureOf, Cond.instanceMethod yX4_pressureOf, Cond.selects RX4 yX4_pressureOf yX4_pressureOf, Cond.code yX4_pressureOf cX4_pressureOf 2 (some .float), Cond.methodLink RX4 163 yX4_opening, Cond.methodLink RX4 166 yX4_openingPressure, Cond.instanceMethod yX4_openingPressure, Cond.selects RX4 yX4_openingPressure yX4_openingPressure, Cond.code yX4_openingPressure cX4_openingPressure 2 (some .float), Cond.methodLink RX4 170 yX4_closing, Cond.methodLink RX4 173 yX4_closingPressure]
def wsL_law_r18 : List Cond := [Cond.instanceMethod yX4_closingPressure, Cond.selects RX4 yX4_closingPressure yX4_closingPressure, Cond.code yX4_closingPressure cX4_closingPressure 3 (some .float), Cond.methodLink RL 60 yX5_force, Cond.instanceMethod yX5_force, Cond.selects RX5 yX5_force yX5_force, Cond.code yX5_force cX5_force 1 (some .float), Cond.methodLink RX5 171 yX4_greaterPressure, Cond.instanceMethod yX4_greaterPressure, Cond.selects RX4 yX4_greaterPressure yX4_greaterPressure, Cond.code yX4_greaterPressure cX4_greaterPressure 3 (some .float), Cond.methodLink RL 64 yL_isNone, Cond.static yL_isNone, Cond.code yL_isNone cL_isNone 1 (some .boolean), Cond.methodLink RL 157 yL_errors, Cond.static yL_errors, Cond.code yL_errors cL_errors 3 (some .boolean), Cond.constant RL 128 (-2147483648), Cond.constant RL 129 (1133903873), Cond.constant RL 130 (2143289344), Cond.constant RL 131 (1065353217), Cond.methodLink RL 132 yX5_clearText, Cond.instanceMethod yX5_clearText, Cond.selects RX5 yX5_clearText yX5_clearText]
def wsL_law_r19 : List Cond := [Cond.code yX5_clearText cX5_clearText 2 (some .int), Cond.methodLink RX5 136 yX0_clear, Cond.instanceMethod yX0_clear, Cond.selects RX0 yX0_clear yX0_clear, Cond.code yX0_clear cX0_clear 1 none, Cond.methodLink RL 136 yX5_readDrive, Cond.instanceMethod yX5_readDrive, Cond.selects RX5 yX5_readDrive yX5_readDrive, Cond.code yX5_readDrive cX5_readDrive 6 (some .int), Cond.constantFloat RX5 119 (1120403456), Cond.methodLink RX5 104 yX0_read, Cond.instanceMethod yX0_read, Cond.selects RX0 yX0_read yX0_read, Cond.code yX0_read cX0_read 2 (some .int), Cond.methodLink RX0 41 yX0_expectNumber, Cond.instanceMethod yX0_expectNumber, Cond.selects RX0 yX0_expectNumber yX0_expectNumber, Cond.code yX0_expectNumber cX0_expectNumber 2 none, Cond.methodLink RX0 45 yX0_takes, Cond.instanceMethod yX0_takes, Cond.selects RX0 yX0_takes yX0_takes, Cond.code yX0_takes cX0_takes 2 (some .boolean), Cond.methodLink RX0 53 yX0_endNumber, Cond.instanceMethod yX0_endNumber]
def wsL_law_r20 : List Cond := [Cond.selects RX0 yX0_endNumber yX0_endNumber, Cond.code yX0_endNumber cX0_endNumber 2 (some .boolean), Cond.methodLink RX0 63 yX0_putNumber, Cond.instanceMethod yX0_putNumber, Cond.selects RX0 yX0_putNumber yX0_putNumber, Cond.code yX0_putNumber cX0_putNumber 4 none, Cond.methodLink RX0 49 yX0_endPart, Cond.instanceMethod yX0_endPart, Cond.selects RX0 yX0_endPart yX0_endPart, Cond.code yX0_endPart cX0_endPart 2 (some .boolean), Cond.methodLink RX0 57 yX0_takesDigit, Cond.instanceMethod yX0_takesDigit, Cond.selects RX0 yX0_takesDigit yX0_takesDigit, Cond.code yX0_takesDigit cX0_takesDigit 3 (some .boolean), Cond.fieldLink RX0 60 "ShiftMaps$DriveText" "GREATEST" "[I", Cond.methodLink RX5 107 yX0_ticksOfAllParts, Cond.instanceMethod yX0_ticksOfAllParts, Cond.selects RX0 yX0_ticksOfAllParts yX0_ticksOfAllParts, Cond.code yX0_ticksOfAllParts cX0_ticksOfAllParts 3 (some .int), Cond.methodLink RX0 37 yX0_ticksOf, Cond.instanceMethod yX0_ticksOf, Cond.selects RX0 yX0_ticksOf yX0_ticksOf, Cond.code yX0_ticksOf cX0_ticksOf 2 (some .int), Cond.methodLink RX0 33 yX0_numberOf]
def wsL_law_r21 : List Cond := [Cond.instanceMethod yX0_numberOf, Cond.selects RX0 yX0_numberOf yX0_numberOf, Cond.code yX0_numberOf cX0_numberOf 4 (some .int), Cond.methodLink RX5 110 yX0_partCount, Cond.instanceMethod yX0_partCount, Cond.selects RX0 yX0_partCount yX0_partCount, Cond.code yX0_partCount cX0_partCount 1 (some .int), Cond.methodLink RX5 113 yX0_speedOf, Cond.instanceMethod yX0_speedOf, Cond.selects RX0 yX0_speedOf yX0_speedOf, Cond.code yX0_speedOf cX0_speedOf 2 (some .int), Cond.methodLink RX5 116 yX0_hundredthsOf, Cond.instanceMethod yX0_hundredthsOf, Cond.selects RX0 yX0_hundredthsOf yX0_hundredthsOf, Cond.code yX0_hundredthsOf cX0_hundredthsOf 2 (some .int), Cond.methodLink RX5 120 yX0_ticksOf, Cond.methodLink RL 139 yX5_type, Cond.instanceMethod yX5_type, Cond.selects RX5 yX5_type yX5_type, Cond.code yX5_type cX5_type 2 (some .int), Cond.methodLink RX5 129 yX0_append, Cond.instanceMethod yX0_append, Cond.selects RX0 yX0_append yX0_append, Cond.code yX0_append cX0_append 2 (some .boolean)]
def wsL_law_r22 : List Cond := [Cond.methodLink RL 143 yX5_undo, Cond.instanceMethod yX5_undo, Cond.selects RX5 yX5_undo yX5_undo, Cond.code yX5_undo cX5_undo 1 (some .int), Cond.methodLink RX5 139 yX1_takeLatestInto, Cond.instanceMethod yX1_takeLatestInto, Cond.selects RX1 yX1_takeLatestInto yX1_takeLatestInto, Cond.code yX1_takeLatestInto cX1_takeLatestInto 4 (some .boolean)]
def wsL_law : List Cond := (wsL_law_r1 ++ (wsL_law_r2 ++ (wsL_law_r3 ++ (wsL_law_r4 ++ (wsL_law_r5 ++ (wsL_law_r6 ++ (wsL_law_r7 ++ (wsL_law_r8 ++ (wsL_law_r9 ++ (wsL_law_r10 ++ (wsL_law_r11 ++ (wsL_law_r12 ++ (wsL_law_r13 ++ (wsL_law_r14 ++ (wsL_law_r15 ++ (wsL_law_r16 ++ (wsL_law_r17 ++ (wsL_law_r18 ++ (wsL_law_r19 ++ (wsL_law_r20 ++ (wsL_law_r21 ++ wsL_law_r22))))))))))))))))))))) ++ wsX50 ++ wsX40 ++ wsX10 ++ wsX00 ++ wsX30 ++ wsX20 ++ ([] : List Cond)
abbrev vwCl : List vw_C := [(RX0, TX0, 7), (RX1, TX1, 3), (RX2, TX2, 3), (RX3, TX3, 1), (RX4, TX4, 11), (RX5, TX5, 6)]
end
section
set_option maxRecDepth 20000 in
set_option maxRecDepth 20000 in
theorem m_in_wsL_law_r1 : ∀ w ∈ wsL_law_r1, w ∈ lw_tbl := (List.forall_mem_cons.mpr ⟨List.mem_of_getElem? (i := 26) rfl, (List.forall_mem_cons.mpr ⟨List.mem_of_getElem? (i := 27) rfl, (List.forall_mem_cons.mpr ⟨List.mem_of_getElem? (i := 18) rfl, (List.forall_mem_cons.mpr ⟨List.mem_of_getElem? (i := 28) rfl, (List.forall_mem_cons.mpr ⟨List.mem_of_getElem? (i := 29) rfl, (List.forall_mem_cons.mpr ⟨List.mem_of_getElem? (i := 30) rfl, (List.forall_mem_cons.mpr ⟨List.mem_of_getElem? (i := 31) rfl, (List.forall_mem_cons.mpr ⟨List.mem_of_getElem? (i := 32) rfl, (List.forall_mem_cons.mpr ⟨List.mem_of_getElem? (i := 33) rfl, (List.forall_mem_cons.mpr ⟨List.mem_of_getElem? (i := 34) rfl, (List.forall_mem_cons.mpr ⟨List.mem_of_getElem? (i := 35) rfl, (List.forall_mem_cons.mpr ⟨List.mem_of_getElem? (i := 19) rfl, (List.forall_mem_cons.mpr ⟨List.mem_of_getElem? (i := 164) rfl, (List.forall_mem_cons.mpr ⟨List.mem_of_getElem? (i := 165) rfl, (List.forall_mem_cons.mpr ⟨List.mem_of_getElem? (i := 166) rfl, (List.forall_mem_cons.mpr ⟨List.mem_of_getElem? (i := 116) rfl, (List.forall_mem_cons.mpr ⟨List.mem_of_getElem? (i := 117) rfl, (List.forall_mem_cons.mpr ⟨List.mem_of_getElem? (i := 23) rfl, (List.forall_mem_cons.mpr ⟨List.mem_of_getElem? (i := 167) rfl, (List.forall_mem_cons.mpr ⟨List.mem_of_getElem? (i := 135) rfl, (List.forall_mem_cons.mpr ⟨List.mem_of_getElem? (i := 136) rfl, (List.forall_mem_cons.mpr ⟨List.mem_of_getElem? (i := 24) rfl, (List.forall_mem_cons.mpr ⟨List.mem_of_getElem? (i := 168) rfl, (List.forall_mem_cons.mpr ⟨List.mem_of_getElem? (i := 169) rfl, (fun _ h => absurd h List.not_mem_nil)⟩)⟩)⟩)⟩)⟩)⟩)⟩)⟩)⟩)⟩)⟩)⟩)⟩)⟩)⟩)⟩)⟩)⟩)⟩)⟩)⟩)⟩)⟩)⟩)
set_option maxRecDepth 20000 in
theorem m_in_wsL_law_r2 : ∀ w ∈ wsL_law_r2, w ∈ lw_tbl := (List.forall_mem_cons.mpr ⟨List.mem_of_getElem? (i := 36) rfl, (List.forall_mem_cons.mpr ⟨List.mem_of_getElem? (i := 37) rfl, (List.forall_mem_cons.mpr ⟨List.mem_of_getElem? (i := 38) rfl, (List.forall_mem_cons.mpr ⟨List.mem_of_getElem? (i := 39) rfl, (List.forall_mem_cons.mpr ⟨List.mem_of_getElem? (i := 40) rfl, (List.forall_mem_cons.mpr ⟨List.mem_of_getElem? (i := 41) rfl, (List.forall_mem_cons.mpr ⟨List.mem_of_getElem? (i := 20) rfl, (List.forall_mem_cons.mpr ⟨List.mem_of_getElem? (i := 75) rfl, (List.forall_mem_cons.mpr ⟨List.mem_of_getElem? (i := 53) rfl, (List.forall_mem_cons.mpr ⟨List.mem_of_getElem? (i := 54) rfl, (List.forall_mem_cons.mpr ⟨List.mem_of_getElem? (i := 21) rfl, (List.forall_mem_cons.mpr ⟨List.mem_of_getElem? (i := 77) rfl, (List.forall_mem_cons.mpr ⟨List.mem_of_getElem? (i := 69) rfl, (List.forall_mem_cons.mpr ⟨List.mem_of_getElem? (i := 79) rfl, (List.forall_mem_cons.mpr ⟨List.mem_of_getElem? (i := 70) rfl, (List.forall_mem_cons.mpr ⟨List.mem_of_getElem? (i := 80) rfl, (List.forall_mem_cons.mpr ⟨List.mem_of_getElem? (i := 81) rfl, (List.forall_mem_cons.mpr ⟨List.mem_of_getElem? (i := 83) rfl, (List.forall_mem_cons.mpr ⟨List.mem_of_getElem? (i := 85) rfl, (List.forall_mem_cons.mpr ⟨List.mem_of_getElem? (i := 87) rfl, (List.forall_mem_cons.mpr ⟨List.mem_of_getElem? (i := 89) rfl, (List.forall_mem_cons.mpr ⟨List.mem_of_getElem? (i := 91) rfl, (List.forall_mem_cons.mpr ⟨List.mem_of_getElem? (i := 92) rfl, (List.forall_mem_cons.mpr ⟨List.mem_of_getElem? (i := 72) rfl, (fun _ h => absurd h List.not_mem_nil)⟩)⟩)⟩)⟩)⟩)⟩)⟩)⟩)⟩)⟩)⟩)⟩)⟩)⟩)⟩)⟩)⟩)⟩)⟩)⟩)⟩)⟩)⟩)⟩)
set_option maxRecDepth 20000 in
theorem m_in_wsL_law_r3 : ∀ w ∈ wsL_law_r3, w ∈ lw_tbl := (List.forall_mem_cons.mpr ⟨List.mem_of_getElem? (i := 74) rfl, (List.forall_mem_cons.mpr ⟨List.mem_of_getElem? (i := 73) rfl, (List.forall_mem_cons.mpr ⟨List.mem_of_getElem? (i := 22) rfl, (List.forall_mem_cons.mpr ⟨List.mem_of_getElem? (i := 42) rfl, (List.forall_mem_cons.mpr ⟨List.mem_of_getElem? (i := 43) rfl, (List.forall_mem_cons.mpr ⟨List.mem_of_getElem? (i := 44) rfl, (List.forall_mem_cons.mpr ⟨List.mem_of_getElem? (i := 45) rfl, (List.forall_mem_cons.mpr ⟨List.mem_of_getElem? (i := 46) rfl, (List.forall_mem_cons.mpr ⟨List.mem_of_getElem? (i := 52) rfl, (List.forall_mem_cons.mpr ⟨List.mem_of_getElem? (i := 48) rfl, (List.forall_mem_cons.mpr ⟨List.mem_of_getElem? (i := 56) rfl, (List.forall_mem_cons.mpr ⟨List.mem_of_getElem? (i := 57) rfl, (List.forall_mem_cons.mpr ⟨List.mem_of_getElem? (i := 58) rfl, (List.forall_mem_cons.mpr ⟨List.mem_of_getElem? (i := 59) rfl, (List.forall_mem_cons.mpr ⟨List.mem_of_getElem? (i := 60) rfl, (List.forall_mem_cons.mpr ⟨List.mem_of_getElem? (i := 61) rfl, (List.forall_mem_cons.mpr ⟨List.mem_of_getElem? (i := 118) rfl, (List.forall_mem_cons.mpr ⟨List.mem_of_getElem? (i := 119) rfl, (List.forall_mem_cons.mpr ⟨List.mem_of_getElem? (i := 120) rfl, (List.forall_mem_cons.mpr ⟨List.mem_of_getElem? (i := 121) rfl, (List.forall_mem_cons.mpr ⟨List.mem_of_getElem? (i := 122) rfl, (List.forall_mem_cons.mpr ⟨List.mem_of_getElem? (i := 125) rfl, (List.forall_mem_cons.mpr ⟨List.mem_of_getElem? (i := 126) rfl, (List.forall_mem_cons.mpr ⟨List.mem_of_getElem? (i := 127) rfl, (fun _ h => absurd h List.not_mem_nil)⟩)⟩)⟩)⟩)⟩)⟩)⟩)⟩)⟩)⟩)⟩)⟩)⟩)⟩)⟩)⟩)⟩)⟩)⟩)⟩)⟩)⟩)⟩)⟩)
set_option maxRecDepth 20000 in
theorem m_in_wsL_law_r4 : ∀ w ∈ wsL_law_r4, w ∈ lw_tbl := (List.forall_mem_cons.mpr ⟨List.mem_of_getElem? (i := 124) rfl, (List.forall_mem_cons.mpr ⟨List.mem_of_getElem? (i := 138) rfl, (List.forall_mem_cons.mpr ⟨List.mem_of_getElem? (i := 139) rfl, (List.forall_mem_cons.mpr ⟨List.mem_of_getElem? (i := 140) rfl, (List.forall_mem_cons.mpr ⟨List.mem_of_getElem? (i := 163) rfl, (List.forall_mem_cons.mpr ⟨List.mem_of_getElem? (i := 141) rfl, (List.forall_mem_cons.mpr ⟨List.mem_of_getElem? (i := 142) rfl, (List.forall_mem_cons.mpr ⟨List.mem_of_getElem? (i := 143) rfl, (List.forall_mem_cons.mpr ⟨List.mem_of_getElem? (i := 144) rfl, (List.forall_mem_cons.mpr ⟨List.mem_of_getElem? (i := 145) rfl, (List.forall_mem_cons.mpr ⟨List.mem_of_getElem? (i := 146) rfl, (List.forall_mem_cons.mpr ⟨List.mem_of_getElem? (i := 147) rfl, (List.forall_mem_cons.mpr ⟨List.mem_of_getElem? (i := 183) rfl, (List.forall_mem_cons.mpr ⟨List.mem_of_getElem? (i := 184) rfl, (List.forall_mem_cons.mpr ⟨List.mem_of_getElem? (i := 17) rfl, (List.forall_mem_cons.mpr ⟨List.mem_of_getElem? (i := 185) rfl, (List.forall_mem_cons.mpr ⟨List.mem_of_getElem? (i := 186) rfl, (List.forall_mem_cons.mpr ⟨List.mem_of_getElem? (i := 286) rfl, (List.forall_mem_cons.mpr ⟨List.mem_of_getElem? (i := 287) rfl, (List.forall_mem_cons.mpr ⟨List.mem_of_getElem? (i := 288) rfl, (List.forall_mem_cons.mpr ⟨List.mem_of_getElem? (i := 289) rfl, (List.forall_mem_cons.mpr ⟨List.mem_of_getElem? (i := 290) rfl, (List.forall_mem_cons.mpr ⟨List.mem_of_getElem? (i := 291) rfl, (List.forall_mem_cons.mpr ⟨List.mem_of_getElem? (i := 292) rfl, (fun _ h => absurd h List.not_mem_nil)⟩)⟩)⟩)⟩)⟩)⟩)⟩)⟩)⟩)⟩)⟩)⟩)⟩)⟩)⟩)⟩)⟩)⟩)⟩)⟩)⟩)⟩)⟩)⟩)
set_option maxRecDepth 20000 in
theorem m_in_wsL_law_r5 : ∀ w ∈ wsL_law_r5, w ∈ lw_tbl := (List.forall_mem_cons.mpr ⟨List.mem_of_getElem? (i := 293) rfl, (List.forall_mem_cons.mpr ⟨List.mem_of_getElem? (i := 294) rfl, (List.forall_mem_cons.mpr ⟨List.mem_of_getElem? (i := 295) rfl, (List.forall_mem_cons.mpr ⟨List.mem_of_getElem? (i := 296) rfl, (List.forall_mem_cons.mpr ⟨List.mem_of_getElem? (i := 297) rfl, (List.forall_mem_cons.mpr ⟨List.mem_of_getElem? (i := 298) rfl, (List.forall_mem_cons.mpr ⟨List.mem_of_getElem? (i := 299) rfl, (List.forall_mem_cons.mpr ⟨List.mem_of_getElem? (i := 300) rfl, (List.forall_mem_cons.mpr ⟨List.mem_of_getElem? (i := 301) rfl, (List.forall_mem_cons.mpr ⟨List.mem_of_getElem? (i := 302) rfl, (List.forall_mem_cons.mpr ⟨List.mem_of_getElem? (i := 303) rfl, (List.forall_mem_cons.mpr ⟨List.mem_of_getElem? (i := 247) rfl, (List.forall_mem_cons.mpr ⟨List.mem_of_getElem? (i := 248) rfl, (List.forall_mem_cons.mpr ⟨List.mem_of_getElem? (i := 249) rfl, (List.forall_mem_cons.mpr ⟨List.mem_of_getElem? (i := 250) rfl, (List.forall_mem_cons.mpr ⟨List.mem_of_getElem? (i := 304) rfl, (List.forall_mem_cons.mpr ⟨List.mem_of_getElem? (i := 305) rfl, (List.forall_mem_cons.mpr ⟨List.mem_of_getElem? (i := 306) rfl, (List.forall_mem_cons.mpr ⟨List.mem_of_getElem? (i := 307) rfl, (List.forall_mem_cons.mpr ⟨List.mem_of_getElem? (i := 308) rfl, (List.forall_mem_cons.mpr ⟨List.mem_of_getElem? (i := 309) rfl, (List.forall_mem_cons.mpr ⟨List.mem_of_getElem? (i := 310) rfl, (List.forall_mem_cons.mpr ⟨List.mem_of_getElem? (i := 311) rfl, (List.forall_mem_cons.mpr ⟨List.mem_of_getElem? (i := 312) rfl, (fun _ h => absurd h List.not_mem_nil)⟩)⟩)⟩)⟩)⟩)⟩)⟩)⟩)⟩)⟩)⟩)⟩)⟩)⟩)⟩)⟩)⟩)⟩)⟩)⟩)⟩)⟩)⟩)⟩)
set_option maxRecDepth 20000 in
theorem m_in_wsL_law_r6 : ∀ w ∈ wsL_law_r6, w ∈ lw_tbl := (List.forall_mem_cons.mpr ⟨List.mem_of_getElem? (i := 313) rfl, (List.forall_mem_cons.mpr ⟨List.mem_of_getElem? (i := 314) rfl, (List.forall_mem_cons.mpr ⟨List.mem_of_getElem? (i := 315) rfl, (List.forall_mem_cons.mpr ⟨List.mem_of_getElem? (i := 316) rfl, (List.forall_mem_cons.mpr ⟨List.mem_of_getElem? (i := 317) rfl, (List.forall_mem_cons.mpr ⟨List.mem_of_getElem? (i := 318) rfl, (List.forall_mem_cons.mpr ⟨List.mem_of_getElem? (i := 319) rfl, (List.forall_mem_cons.mpr ⟨List.mem_of_getElem? (i := 320) rfl, (List.forall_mem_cons.mpr ⟨List.mem_of_getElem? (i := 321) rfl, (List.forall_mem_cons.mpr ⟨List.mem_of_getElem? (i := 322) rfl, (List.forall_mem_cons.mpr ⟨List.mem_of_getElem? (i := 323) rfl, (List.forall_mem_cons.mpr ⟨List.mem_of_getElem? (i := 324) rfl, (List.forall_mem_cons.mpr ⟨List.mem_of_getElem? (i := 325) rfl, (List.forall_mem_cons.mpr ⟨List.mem_of_getElem? (i := 326) rfl, (List.forall_mem_cons.mpr ⟨List.mem_of_getElem? (i := 327) rfl, (List.forall_mem_cons.mpr ⟨List.mem_of_getElem? (i := 328) rfl, (List.forall_mem_cons.mpr ⟨List.mem_of_getElem? (i := 329) rfl, (List.forall_mem_cons.mpr ⟨List.mem_of_getElem? (i := 330) rfl, (List.forall_mem_cons.mpr ⟨List.mem_of_getElem? (i := 331) rfl, (List.forall_mem_cons.mpr ⟨List.mem_of_getElem? (i := 332) rfl, (List.forall_mem_cons.mpr ⟨List.mem_of_getElem? (i := 333) rfl, (List.forall_mem_cons.mpr ⟨List.mem_of_getElem? (i := 334) rfl, (List.forall_mem_cons.mpr ⟨List.mem_of_getElem? (i := 335) rfl, (List.forall_mem_cons.mpr ⟨List.mem_of_getElem? (i := 336) rfl, (fun _ h => absurd h List.not_mem_nil)⟩)⟩)⟩)⟩)⟩)⟩)⟩)⟩)⟩)⟩)⟩)⟩)⟩)⟩)⟩)⟩)⟩)⟩)⟩)⟩)⟩)⟩)⟩)⟩)
set_option maxRecDepth 20000 in
theorem m_in_wsL_law_r7 : ∀ w ∈ wsL_law_r7, w ∈ lw_tbl := (List.forall_mem_cons.mpr ⟨List.mem_of_getElem? (i := 337) rfl, (List.forall_mem_cons.mpr ⟨List.mem_of_getElem? (i := 338) rfl, (List.forall_mem_cons.mpr ⟨List.mem_of_getElem? (i := 339) rfl, (List.forall_mem_cons.mpr ⟨List.mem_of_getElem? (i := 340) rfl, (List.forall_mem_cons.mpr ⟨List.mem_of_getElem? (i := 341) rfl, (List.forall_mem_cons.mpr ⟨List.mem_of_getElem? (i := 342) rfl, (List.forall_mem_cons.mpr ⟨List.mem_of_getElem? (i := 343) rfl, (List.forall_mem_cons.mpr ⟨List.mem_of_getElem? (i := 344) rfl, (List.forall_mem_cons.mpr ⟨List.mem_of_getElem? (i := 345) rfl, (List.forall_mem_cons.mpr ⟨List.mem_of_getElem? (i := 346) rfl, (List.forall_mem_cons.mpr ⟨List.mem_of_getElem? (i := 347) rfl, (List.forall_mem_cons.mpr ⟨List.mem_of_getElem? (i := 348) rfl, (List.forall_mem_cons.mpr ⟨List.mem_of_getElem? (i := 349) rfl, (List.forall_mem_cons.mpr ⟨List.mem_of_getElem? (i := 368) rfl, (List.forall_mem_cons.mpr ⟨List.mem_of_getElem? (i := 369) rfl, (List.forall_mem_cons.mpr ⟨List.mem_of_getElem? (i := 25) rfl, (List.forall_mem_cons.mpr ⟨List.mem_of_getElem? (i := 370) rfl, (List.forall_mem_cons.mpr ⟨List.mem_of_getElem? (i := 350) rfl, (List.forall_mem_cons.mpr ⟨List.mem_of_getElem? (i := 352) rfl, (List.forall_mem_cons.mpr ⟨List.mem_of_getElem? (i := 2) rfl, (List.forall_mem_cons.mpr ⟨List.mem_of_getElem? (i := 353) rfl, (List.forall_mem_cons.mpr ⟨List.mem_of_getElem? (i := 354) rfl, (List.forall_mem_cons.mpr ⟨List.mem_of_getElem? (i := 355) rfl, (List.forall_mem_cons.mpr ⟨List.mem_of_getElem? (i := 356) rfl, (fun _ h => absurd h List.not_mem_nil)⟩)⟩)⟩)⟩)⟩)⟩)⟩)⟩)⟩)⟩)⟩)⟩)⟩)⟩)⟩)⟩)⟩)⟩)⟩)⟩)⟩)⟩)⟩)⟩)
set_option maxRecDepth 20000 in
theorem m_in_wsL_law_r8 : ∀ w ∈ wsL_law_r8, w ∈ lw_tbl := (List.forall_mem_cons.mpr ⟨List.mem_of_getElem? (i := 357) rfl, (List.forall_mem_cons.mpr ⟨List.mem_of_getElem? (i := 358) rfl, (List.forall_mem_cons.mpr ⟨List.mem_of_getElem? (i := 359) rfl, (List.forall_mem_cons.mpr ⟨List.mem_of_getElem? (i := 360) rfl, (List.forall_mem_cons.mpr ⟨List.mem_of_getElem? (i := 361) rfl, (List.forall_mem_cons.mpr ⟨List.mem_of_getElem? (i := 362) rfl, (List.forall_mem_cons.mpr ⟨List.mem_of_getElem? (i := 363) rfl, (List.forall_mem_cons.mpr ⟨List.mem_of_getElem? (i := 364) rfl, (List.forall_mem_cons.mpr ⟨List.mem_of_getElem? (i := 365) rfl, (List.forall_mem_cons.mpr ⟨List.mem_of_getElem? (i := 366) rfl, (List.forall_mem_cons.mpr ⟨List.mem_of_getElem? (i := 367) rfl, (List.forall_mem_cons.mpr ⟨List.mem_of_getElem? (i := 371) rfl, (List.forall_mem_cons.mpr ⟨List.mem_of_getElem? (i := 372) rfl, (List.forall_mem_cons.mpr ⟨List.mem_of_getElem? (i := 373) rfl, (List.forall_mem_cons.mpr ⟨List.mem_of_getElem? (i := 374) rfl, (List.forall_mem_cons.mpr ⟨List.mem_of_getElem? (i := 375) rfl, (List.forall_mem_cons.mpr ⟨List.mem_of_getElem? (i := 217) rfl, (List.forall_mem_cons.mpr ⟨List.mem_of_getElem? (i := 218) rfl, (List.forall_mem_cons.mpr ⟨List.mem_of_getElem? (i := 219) rfl, (List.forall_mem_cons.mpr ⟨List.mem_of_getElem? (i := 220) rfl, (List.forall_mem_cons.mpr ⟨List.mem_of_getElem? (i := 221) rfl, (List.forall_mem_cons.mpr ⟨List.mem_of_getElem? (i := 222) rfl, (List.forall_mem_cons.mpr ⟨List.mem_of_getElem? (i := 223) rfl, (List.forall_mem_cons.mpr ⟨List.mem_of_getElem? (i := 224) rfl, (fun _ h => absurd h List.not_mem_nil)⟩)⟩)⟩)⟩)⟩)⟩)⟩)⟩)⟩)⟩)⟩)⟩)⟩)⟩)⟩)⟩)⟩)⟩)⟩)⟩)⟩)⟩)⟩)⟩)
set_option maxRecDepth 20000 in
theorem m_in_wsL_law_r9 : ∀ w ∈ wsL_law_r9, w ∈ lw_tbl := (List.forall_mem_cons.mpr ⟨List.mem_of_getElem? (i := 190) rfl, (List.forall_mem_cons.mpr ⟨List.mem_of_getElem? (i := 191) rfl, (List.forall_mem_cons.mpr ⟨List.mem_of_getElem? (i := 192) rfl, (List.forall_mem_cons.mpr ⟨List.mem_of_getElem? (i := 193) rfl, (List.forall_mem_cons.mpr ⟨List.mem_of_getElem? (i := 194) rfl, (List.forall_mem_cons.mpr ⟨List.mem_of_getElem? (i := 195) rfl, (List.forall_mem_cons.mpr ⟨List.mem_of_getElem? (i := 196) rfl, (List.forall_mem_cons.mpr ⟨List.mem_of_getElem? (i := 197) rfl, (List.forall_mem_cons.mpr ⟨List.mem_of_getElem? (i := 198) rfl, (List.forall_mem_cons.mpr ⟨List.mem_of_getElem? (i := 199) rfl, (List.forall_mem_cons.mpr ⟨List.mem_of_getElem? (i := 200) rfl, (List.forall_mem_cons.mpr ⟨List.mem_of_getElem? (i := 201) rfl, (List.forall_mem_cons.mpr ⟨List.mem_of_getElem? (i := 202) rfl, (List.forall_mem_cons.mpr ⟨List.mem_of_getElem? (i := 203) rfl, (List.forall_mem_cons.mpr ⟨List.mem_of_getElem? (i := 204) rfl, (List.forall_mem_cons.mpr ⟨List.mem_of_getElem? (i := 205) rfl, (List.forall_mem_cons.mpr ⟨List.mem_of_getElem? (i := 206) rfl, (List.forall_mem_cons.mpr ⟨List.mem_of_getElem? (i := 207) rfl, (List.forall_mem_cons.mpr ⟨List.mem_of_getElem? (i := 208) rfl, (List.forall_mem_cons.mpr ⟨List.mem_of_getElem? (i := 209) rfl, (List.forall_mem_cons.mpr ⟨List.mem_of_getElem? (i := 211) rfl, (List.forall_mem_cons.mpr ⟨List.mem_of_getElem? (i := 213) rfl, (List.forall_mem_cons.mpr ⟨List.mem_of_getElem? (i := 214) rfl, (List.forall_mem_cons.mpr ⟨List.mem_of_getElem? (i := 215) rfl, (fun _ h => absurd h List.not_mem_nil)⟩)⟩)⟩)⟩)⟩)⟩)⟩)⟩)⟩)⟩)⟩)⟩)⟩)⟩)⟩)⟩)⟩)⟩)⟩)⟩)⟩)⟩)⟩)⟩)
set_option maxRecDepth 20000 in
theorem m_in_wsL_law_r10 : ∀ w ∈ wsL_law_r10, w ∈ lw_tbl := (List.forall_mem_cons.mpr ⟨List.mem_of_getElem? (i := 216) rfl, (List.forall_mem_cons.mpr ⟨List.mem_of_getElem? (i := 376) rfl, (List.forall_mem_cons.mpr ⟨List.mem_of_getElem? (i := 377) rfl, (List.forall_mem_cons.mpr ⟨List.mem_of_getElem? (i := 378) rfl, (List.forall_mem_cons.mpr ⟨List.mem_of_getElem? (i := 379) rfl, (List.forall_mem_cons.mpr ⟨List.mem_of_getElem? (i := 380) rfl, (List.forall_mem_cons.mpr ⟨List.mem_of_getElem? (i := 381) rfl, (List.forall_mem_cons.mpr ⟨List.mem_of_getElem? (i := 382) rfl, (List.forall_mem_cons.mpr ⟨List.mem_of_getElem? (i := 383) rfl, (List.forall_mem_cons.mpr ⟨List.mem_of_getElem? (i := 241) rfl, (List.forall_mem_cons.mpr ⟨List.mem_of_getElem? (i := 384) rfl, (List.forall_mem_cons.mpr ⟨List.mem_of_getElem? (i := 385) rfl, (List.forall_mem_cons.mpr ⟨List.mem_of_getElem? (i := 386) rfl, (List.forall_mem_cons.mpr ⟨List.mem_of_getElem? (i := 387) rfl, (List.forall_mem_cons.mpr ⟨List.mem_of_getElem? (i := 388) rfl, (List.forall_mem_cons.mpr ⟨List.mem_of_getElem? (i := 389) rfl, (List.forall_mem_cons.mpr ⟨List.mem_of_getElem? (i := 390) rfl, (List.forall_mem_cons.mpr ⟨List.mem_of_getElem? (i := 391) rfl, (List.forall_mem_cons.mpr ⟨List.mem_of_getElem? (i := 251) rfl, (List.forall_mem_cons.mpr ⟨List.mem_of_getElem? (i := 252) rfl, (List.forall_mem_cons.mpr ⟨List.mem_of_getElem? (i := 253) rfl, (List.forall_mem_cons.mpr ⟨List.mem_of_getElem? (i := 254) rfl, (List.forall_mem_cons.mpr ⟨List.mem_of_getElem? (i := 255) rfl, (List.forall_mem_cons.mpr ⟨List.mem_of_getElem? (i := 256) rfl, (fun _ h => absurd h List.not_mem_nil)⟩)⟩)⟩)⟩)⟩)⟩)⟩)⟩)⟩)⟩)⟩)⟩)⟩)⟩)⟩)⟩)⟩)⟩)⟩)⟩)⟩)⟩)⟩)⟩)
set_option maxRecDepth 20000 in
theorem m_in_wsL_law_r11 : ∀ w ∈ wsL_law_r11, w ∈ lw_tbl := (List.forall_mem_cons.mpr ⟨List.mem_of_getElem? (i := 257) rfl, (List.forall_mem_cons.mpr ⟨List.mem_of_getElem? (i := 258) rfl, (List.forall_mem_cons.mpr ⟨List.mem_of_getElem? (i := 259) rfl, (List.forall_mem_cons.mpr ⟨List.mem_of_getElem? (i := 260) rfl, (List.forall_mem_cons.mpr ⟨List.mem_of_getElem? (i := 261) rfl, (List.forall_mem_cons.mpr ⟨List.mem_of_getElem? (i := 262) rfl, (List.forall_mem_cons.mpr ⟨List.mem_of_getElem? (i := 263) rfl, (List.forall_mem_cons.mpr ⟨List.mem_of_getElem? (i := 264) rfl, (List.forall_mem_cons.mpr ⟨List.mem_of_getElem? (i := 265) rfl, (List.forall_mem_cons.mpr ⟨List.mem_of_getElem? (i := 266) rfl, (List.forall_mem_cons.mpr ⟨List.mem_of_getElem? (i := 392) rfl, (List.forall_mem_cons.mpr ⟨List.mem_of_getElem? (i := 393) rfl, (List.forall_mem_cons.mpr ⟨List.mem_of_getElem? (i := 394) rfl, (List.forall_mem_cons.mpr ⟨List.mem_of_getElem? (i := 395) rfl, (List.forall_mem_cons.mpr ⟨List.mem_of_getElem? (i := 396) rfl, (List.forall_mem_cons.mpr ⟨List.mem_of_getElem? (i := 397) rfl, (List.forall_mem_cons.mpr ⟨List.mem_of_getElem? (i := 398) rfl, (List.forall_mem_cons.mpr ⟨List.mem_of_getElem? (i := 399) rfl, (List.forall_mem_cons.mpr ⟨List.mem_of_getElem? (i := 400) rfl, (List.forall_mem_cons.mpr ⟨List.mem_of_getElem? (i := 401) rfl, (List.forall_mem_cons.mpr ⟨List.mem_of_getElem? (i := 402) rfl, (List.forall_mem_cons.mpr ⟨List.mem_of_getElem? (i := 403) rfl, (List.forall_mem_cons.mpr ⟨List.mem_of_getElem? (i := 404) rfl, (List.forall_mem_cons.mpr ⟨List.mem_of_getElem? (i := 405) rfl, (fun _ h => absurd h List.not_mem_nil)⟩)⟩)⟩)⟩)⟩)⟩)⟩)⟩)⟩)⟩)⟩)⟩)⟩)⟩)⟩)⟩)⟩)⟩)⟩)⟩)⟩)⟩)⟩)⟩)
set_option maxRecDepth 20000 in
theorem m_in_wsL_law_r12 : ∀ w ∈ wsL_law_r12, w ∈ lw_tbl := (List.forall_mem_cons.mpr ⟨List.mem_of_getElem? (i := 406) rfl, (List.forall_mem_cons.mpr ⟨List.mem_of_getElem? (i := 407) rfl, (List.forall_mem_cons.mpr ⟨List.mem_of_getElem? (i := 408) rfl, (List.forall_mem_cons.mpr ⟨List.mem_of_getElem? (i := 409) rfl, (List.forall_mem_cons.mpr ⟨List.mem_of_getElem? (i := 411) rfl, (List.forall_mem_cons.mpr ⟨List.mem_of_getElem? (i := 3) rfl, (List.forall_mem_cons.mpr ⟨List.mem_of_getElem? (i := 412) rfl, (List.forall_mem_cons.mpr ⟨List.mem_of_getElem? (i := 413) rfl, (List.forall_mem_cons.mpr ⟨List.mem_of_getElem? (i := 283) rfl, (List.forall_mem_cons.mpr ⟨List.mem_of_getElem? (i := 284) rfl, (List.forall_mem_cons.mpr ⟨List.mem_of_getElem? (i := 285) rfl, (List.forall_mem_cons.mpr ⟨List.mem_of_getElem? (i := 414) rfl, (List.forall_mem_cons.mpr ⟨List.mem_of_getElem? (i := 415) rfl, (List.forall_mem_cons.mpr ⟨List.mem_of_getElem? (i := 416) rfl, (List.forall_mem_cons.mpr ⟨List.mem_of_getElem? (i := 417) rfl, (List.forall_mem_cons.mpr ⟨List.mem_of_getElem? (i := 418) rfl, (List.forall_mem_cons.mpr ⟨List.mem_of_getElem? (i := 419) rfl, (List.forall_mem_cons.mpr ⟨List.mem_of_getElem? (i := 420) rfl, (List.forall_mem_cons.mpr ⟨List.mem_of_getElem? (i := 421) rfl, (List.forall_mem_cons.mpr ⟨List.mem_of_getElem? (i := 422) rfl, (List.forall_mem_cons.mpr ⟨List.mem_of_getElem? (i := 423) rfl, (List.forall_mem_cons.mpr ⟨List.mem_of_getElem? (i := 424) rfl, (List.forall_mem_cons.mpr ⟨List.mem_of_getElem? (i := 426) rfl, (List.forall_mem_cons.mpr ⟨List.mem_of_getElem? (i := 4) rfl, (fun _ h => absurd h List.not_mem_nil)⟩)⟩)⟩)⟩)⟩)⟩)⟩)⟩)⟩)⟩)⟩)⟩)⟩)⟩)⟩)⟩)⟩)⟩)⟩)⟩)⟩)⟩)⟩)⟩)
set_option maxRecDepth 20000 in
theorem m_in_wsL_law_r13 : ∀ w ∈ wsL_law_r13, w ∈ lw_tbl := (List.forall_mem_cons.mpr ⟨List.mem_of_getElem? (i := 427) rfl, (List.forall_mem_cons.mpr ⟨List.mem_of_getElem? (i := 278) rfl, (List.forall_mem_cons.mpr ⟨List.mem_of_getElem? (i := 279) rfl, (List.forall_mem_cons.mpr ⟨List.mem_of_getElem? (i := 280) rfl, (List.forall_mem_cons.mpr ⟨List.mem_of_getElem? (i := 281) rfl, (List.forall_mem_cons.mpr ⟨List.mem_of_getElem? (i := 282) rfl, (List.forall_mem_cons.mpr ⟨List.mem_of_getElem? (i := 428) rfl, (List.forall_mem_cons.mpr ⟨List.mem_of_getElem? (i := 429) rfl, (List.forall_mem_cons.mpr ⟨List.mem_of_getElem? (i := 430) rfl, (List.forall_mem_cons.mpr ⟨List.mem_of_getElem? (i := 431) rfl, (List.forall_mem_cons.mpr ⟨List.mem_of_getElem? (i := 432) rfl, (List.forall_mem_cons.mpr ⟨List.mem_of_getElem? (i := 433) rfl, (List.forall_mem_cons.mpr ⟨List.mem_of_getElem? (i := 434) rfl, (List.forall_mem_cons.mpr ⟨List.mem_of_getElem? (i := 435) rfl, (List.forall_mem_cons.mpr ⟨List.mem_of_getElem? (i := 436) rfl, (List.forall_mem_cons.mpr ⟨List.mem_of_getElem? (i := 437) rfl, (List.forall_mem_cons.mpr ⟨List.mem_of_getElem? (i := 438) rfl, (List.forall_mem_cons.mpr ⟨List.mem_of_getElem? (i := 444) rfl, (List.forall_mem_cons.mpr ⟨List.mem_of_getElem? (i := 439) rfl, (List.forall_mem_cons.mpr ⟨List.mem_of_getElem? (i := 440) rfl, (List.forall_mem_cons.mpr ⟨List.mem_of_getElem? (i := 441) rfl, (List.forall_mem_cons.mpr ⟨List.mem_of_getElem? (i := 442) rfl, (List.forall_mem_cons.mpr ⟨List.mem_of_getElem? (i := 443) rfl, (List.forall_mem_cons.mpr ⟨List.mem_of_getElem? (i := 445) rfl, (fun _ h => absurd h List.not_mem_nil)⟩)⟩)⟩)⟩)⟩)⟩)⟩)⟩)⟩)⟩)⟩)⟩)⟩)⟩)⟩)⟩)⟩)⟩)⟩)⟩)⟩)⟩)⟩)⟩)
set_option maxRecDepth 20000 in
theorem m_in_wsL_law_r14 : ∀ w ∈ wsL_law_r14, w ∈ lw_tbl := (List.forall_mem_cons.mpr ⟨List.mem_of_getElem? (i := 446) rfl, (List.forall_mem_cons.mpr ⟨List.mem_of_getElem? (i := 447) rfl, (List.forall_mem_cons.mpr ⟨List.mem_of_getElem? (i := 448) rfl, (List.forall_mem_cons.mpr ⟨List.mem_of_getElem? (i := 449) rfl, (List.forall_mem_cons.mpr ⟨List.mem_of_getElem? (i := 450) rfl, (List.forall_mem_cons.mpr ⟨List.mem_of_getElem? (i := 451) rfl, (List.forall_mem_cons.mpr ⟨List.mem_of_getElem? (i := 452) rfl, (List.forall_mem_cons.mpr ⟨List.mem_of_getElem? (i := 453) rfl, (List.forall_mem_cons.mpr ⟨List.mem_of_getElem? (i := 455) rfl, (List.forall_mem_cons.mpr ⟨List.mem_of_getElem? (i := 5) rfl, (List.forall_mem_cons.mpr ⟨List.mem_of_getElem? (i := 456) rfl, (List.forall_mem_cons.mpr ⟨List.mem_of_getElem? (i := 457) rfl, (List.forall_mem_cons.mpr ⟨List.mem_of_getElem? (i := 459) rfl, (List.forall_mem_cons.mpr ⟨List.mem_of_getElem? (i := 6) rfl, (List.forall_mem_cons.mpr ⟨List.mem_of_getElem? (i := 460) rfl, (List.forall_mem_cons.mpr ⟨List.mem_of_getElem? (i := 461) rfl, (List.forall_mem_cons.mpr ⟨List.mem_of_getElem? (i := 462) rfl, (List.forall_mem_cons.mpr ⟨List.mem_of_getElem? (i := 463) rfl, (List.forall_mem_cons.mpr ⟨List.mem_of_getElem? (i := 464) rfl, (List.forall_mem_cons.mpr ⟨List.mem_of_getElem? (i := 465) rfl, (List.forall_mem_cons.mpr ⟨List.mem_of_getElem? (i := 467) rfl, (List.forall_mem_cons.mpr ⟨List.mem_of_getElem? (i := 7) rfl, (List.forall_mem_cons.mpr ⟨List.mem_of_getElem? (i := 468) rfl, (List.forall_mem_cons.mpr ⟨List.mem_of_getElem? (i := 469) rfl, (fun _ h => absurd h List.not_mem_nil)⟩)⟩)⟩)⟩)⟩)⟩)⟩)⟩)⟩)⟩)⟩)⟩)⟩)⟩)⟩)⟩)⟩)⟩)⟩)⟩)⟩)⟩)⟩)⟩)
set_option maxRecDepth 20000 in
theorem m_in_wsL_law_r15 : ∀ w ∈ wsL_law_r15, w ∈ lw_tbl := (List.forall_mem_cons.mpr ⟨List.mem_of_getElem? (i := 470) rfl, (List.forall_mem_cons.mpr ⟨List.mem_of_getElem? (i := 471) rfl, (List.forall_mem_cons.mpr ⟨List.mem_of_getElem? (i := 472) rfl, (List.forall_mem_cons.mpr ⟨List.mem_of_getElem? (i := 473) rfl, (List.forall_mem_cons.mpr ⟨List.mem_of_getElem? (i := 474) rfl, (List.forall_mem_cons.mpr ⟨List.mem_of_getElem? (i := 475) rfl, (List.forall_mem_cons.mpr ⟨List.mem_of_getElem? (i := 476) rfl, (List.forall_mem_cons.mpr ⟨List.mem_of_getElem? (i := 477) rfl, (List.forall_mem_cons.mpr ⟨List.mem_of_getElem? (i := 478) rfl, (List.forall_mem_cons.mpr ⟨List.mem_of_getElem? (i := 479) rfl, (List.forall_mem_cons.mpr ⟨List.mem_of_getElem? (i := 480) rfl, (List.forall_mem_cons.mpr ⟨List.mem_of_getElem? (i := 481) rfl, (List.forall_mem_cons.mpr ⟨List.mem_of_getElem? (i := 483) rfl, (List.forall_mem_cons.mpr ⟨List.mem_of_getElem? (i := 8) rfl, (List.forall_mem_cons.mpr ⟨List.mem_of_getElem? (i := 484) rfl, (List.forall_mem_cons.mpr ⟨List.mem_of_getElem? (i := 485) rfl, (List.forall_mem_cons.mpr ⟨List.mem_of_getElem? (i := 486) rfl, (List.forall_mem_cons.mpr ⟨List.mem_of_getElem? (i := 488) rfl, (List.forall_mem_cons.mpr ⟨List.mem_of_getElem? (i := 9) rfl, (List.forall_mem_cons.mpr ⟨List.mem_of_getElem? (i := 489) rfl, (List.forall_mem_cons.mpr ⟨List.mem_of_getElem? (i := 490) rfl, (List.forall_mem_cons.mpr ⟨List.mem_of_getElem? (i := 491) rfl, (List.forall_mem_cons.mpr ⟨List.mem_of_getElem? (i := 492) rfl, (List.forall_mem_cons.mpr ⟨List.mem_of_getElem? (i := 493) rfl, (fun _ h => absurd h List.not_mem_nil)⟩)⟩)⟩)⟩)⟩)⟩)⟩)⟩)⟩)⟩)⟩)⟩)⟩)⟩)⟩)⟩)⟩)⟩)⟩)⟩)⟩)⟩)⟩)⟩)
set_option maxRecDepth 20000 in
theorem m_in_wsL_law_r16 : ∀ w ∈ wsL_law_r16, w ∈ lw_tbl := (List.forall_mem_cons.mpr ⟨List.mem_of_getElem? (i := 494) rfl, (List.forall_mem_cons.mpr ⟨List.mem_of_getElem? (i := 495) rfl, (List.forall_mem_cons.mpr ⟨List.mem_of_getElem? (i := 496) rfl, (List.forall_mem_cons.mpr ⟨List.mem_of_getElem? (i := 497) rfl, (List.forall_mem_cons.mpr ⟨List.mem_of_getElem? (i := 498) rfl, (List.forall_mem_cons.mpr ⟨List.mem_of_getElem? (i := 499) rfl, (List.forall_mem_cons.mpr ⟨List.mem_of_getElem? (i := 500) rfl, (List.forall_mem_cons.mpr ⟨List.mem_of_getElem? (i := 501) rfl, (List.forall_mem_cons.mpr ⟨List.mem_of_getElem? (i := 507) rfl, (List.forall_mem_cons.mpr ⟨List.mem_of_getElem? (i := 502) rfl, (List.forall_mem_cons.mpr ⟨List.mem_of_getElem? (i := 503) rfl, (List.forall_mem_cons.mpr ⟨List.mem_of_getElem? (i := 504) rfl, (List.forall_mem_cons.mpr ⟨List.mem_of_getElem? (i := 505) rfl, (List.forall_mem_cons.mpr ⟨List.mem_of_getElem? (i := 506) rfl, (List.forall_mem_cons.mpr ⟨List.mem_of_getElem? (i := 508) rfl, (List.forall_mem_cons.mpr ⟨List.mem_of_getElem? (i := 509) rfl, (List.forall_mem_cons.mpr ⟨List.mem_of_getElem? (i := 510) rfl, (List.forall_mem_cons.mpr ⟨List.mem_of_getElem? (i := 511) rfl, (List.forall_mem_cons.mpr ⟨List.mem_of_getElem? (i := 512) rfl, (List.forall_mem_cons.mpr ⟨List.mem_of_getElem? (i := 513) rfl, (List.forall_mem_cons.mpr ⟨List.mem_of_getElem? (i := 514) rfl, (List.forall_mem_cons.mpr ⟨List.mem_of_getElem? (i := 515) rfl, (List.forall_mem_cons.mpr ⟨List.mem_of_getElem? (i := 516) rfl, (List.forall_mem_cons.mpr ⟨List.mem_of_getElem? (i := 517) rfl, (fun _ h => absurd h List.not_mem_nil)⟩)⟩)⟩)⟩)⟩)⟩)⟩)⟩)⟩)⟩)⟩)⟩)⟩)⟩)⟩)⟩)⟩)⟩)⟩)⟩)⟩)⟩)⟩)⟩)
set_option maxRecDepth 20000 in
theorem m_in_wsL_law_r17 : ∀ w ∈ wsL_law_r17, w ∈ lw_tbl := (List.forall_mem_cons.mpr ⟨List.mem_of_getElem? (i := 518) rfl, (List.forall_mem_cons.mpr ⟨List.mem_of_getElem? (i := 519) rfl, (List.forall_mem_cons.mpr ⟨List.mem_of_getElem? (i := 520) rfl, (List.forall_mem_cons.mpr ⟨List.mem_of_getElem? (i := 187) rfl, (List.forall_mem_cons.mpr ⟨List.mem_of_getElem? (i := 188) rfl, (List.forall_mem_cons.mpr ⟨List.mem_of_getElem? (i := 189) rfl, (List.forall_mem_cons.mpr ⟨List.mem_of_getElem? (i := 225) rfl, (List.forall_mem_cons.mpr ⟨List.mem_of_getElem? (i := 226) rfl, (List.forall_mem_cons.mpr ⟨List.mem_of_getElem? (i := 227) rfl, (List.forall_mem_cons.mpr ⟨List.mem_of_getElem? (i := 228) rfl, (List.forall_mem_cons.mpr ⟨List.mem_of_getElem? (i := 229) rfl, (List.forall_mem_cons.mpr ⟨List.mem_of_getElem? (i := 230) rfl, (List.forall_mem_cons.mpr ⟨List.mem_of_getElem? (i := 231) rfl, (List.forall_mem_cons.mpr ⟨List.mem_of_getElem? (i := 232) rfl, (List.forall_mem_cons.mpr ⟨List.mem_of_getElem? (i := 233) rfl, (List.forall_mem_cons.mpr ⟨List.mem_of_getElem? (i := 234) rfl, (List.forall_mem_cons.mpr ⟨List.mem_of_getElem? (i := 235) rfl, (List.forall_mem_cons.mpr ⟨List.mem_of_getElem? (i := 236) rfl, (List.forall_mem_cons.mpr ⟨List.mem_of_getElem? (i := 237) rfl, (List.forall_mem_cons.mpr ⟨List.mem_of_getElem? (i := 239) rfl, (List.forall_mem_cons.mpr ⟨List.mem_of_getElem? (i := 0) rfl, (List.forall_mem_cons.mpr ⟨List.mem_of_getElem? (i := 240) rfl, (List.forall_mem_cons.mpr ⟨List.mem_of_getElem? (i := 242) rfl, (List.forall_mem_cons.mpr ⟨List.mem_of_getElem? (i := 243) rfl, (fun _ h => absurd h List.not_mem_nil)⟩)⟩)⟩)⟩)⟩)⟩)⟩)⟩)⟩)⟩)⟩)⟩)⟩)⟩)⟩)⟩)⟩)⟩)⟩)⟩)⟩)⟩)⟩)⟩)
set_option maxRecDepth 20000 in
theorem m_in_wsL_law_r18 : ∀ w ∈ wsL_law_r18, w ∈ lw_tbl := (List.forall_mem_cons.mpr ⟨List.mem_of_getElem? (i := 245) rfl, (List.forall_mem_cons.mpr ⟨List.mem_of_getElem? (i := 1) rfl, (List.forall_mem_cons.mpr ⟨List.mem_of_getElem? (i := 246) rfl, (List.forall_mem_cons.mpr ⟨List.mem_of_getElem? (i := 267) rfl, (List.forall_mem_cons.mpr ⟨List.mem_of_getElem? (i := 268) rfl, (List.forall_mem_cons.mpr ⟨List.mem_of_getElem? (i := 269) rfl, (List.forall_mem_cons.mpr ⟨List.mem_of_getElem? (i := 270) rfl, (List.forall_mem_cons.mpr ⟨List.mem_of_getElem? (i := 271) rfl, (List.forall_mem_cons.mpr ⟨List.mem_of_getElem? (i := 272) rfl, (List.forall_mem_cons.mpr ⟨List.mem_of_getElem? (i := 273) rfl, (List.forall_mem_cons.mpr ⟨List.mem_of_getElem? (i := 274) rfl, (List.forall_mem_cons.mpr ⟨List.mem_of_getElem? (i := 275) rfl, (List.forall_mem_cons.mpr ⟨List.mem_of_getElem? (i := 276) rfl, (List.forall_mem_cons.mpr ⟨List.mem_of_getElem? (i := 277) rfl, (List.forall_mem_cons.mpr ⟨List.mem_of_getElem? (i := 521) rfl, (List.forall_mem_cons.mpr ⟨List.mem_of_getElem? (i := 522) rfl, (List.forall_mem_cons.mpr ⟨List.mem_of_getElem? (i := 523) rfl, (List.forall_mem_cons.mpr ⟨List.mem_of_getElem? (i := 524) rfl, (List.forall_mem_cons.mpr ⟨List.mem_of_getElem? (i := 525) rfl, (List.forall_mem_cons.mpr ⟨List.mem_of_getElem? (i := 526) rfl, (List.forall_mem_cons.mpr ⟨List.mem_of_getElem? (i := 527) rfl, (List.forall_mem_cons.mpr ⟨List.mem_of_getElem? (i := 528) rfl, (List.forall_mem_cons.mpr ⟨List.mem_of_getElem? (i := 529) rfl, (List.forall_mem_cons.mpr ⟨List.mem_of_getElem? (i := 530) rfl, (fun _ h => absurd h List.not_mem_nil)⟩)⟩)⟩)⟩)⟩)⟩)⟩)⟩)⟩)⟩)⟩)⟩)⟩)⟩)⟩)⟩)⟩)⟩)⟩)⟩)⟩)⟩)⟩)⟩)
set_option maxRecDepth 20000 in
theorem m_in_wsL_law_r19 : ∀ w ∈ wsL_law_r19, w ∈ lw_tbl := (List.forall_mem_cons.mpr ⟨List.mem_of_getElem? (i := 531) rfl, (List.forall_mem_cons.mpr ⟨List.mem_of_getElem? (i := 532) rfl, (List.forall_mem_cons.mpr ⟨List.mem_of_getElem? (i := 533) rfl, (List.forall_mem_cons.mpr ⟨List.mem_of_getElem? (i := 534) rfl, (List.forall_mem_cons.mpr ⟨List.mem_of_getElem? (i := 535) rfl, (List.forall_mem_cons.mpr ⟨List.mem_of_getElem? (i := 536) rfl, (List.forall_mem_cons.mpr ⟨List.mem_of_getElem? (i := 537) rfl, (List.forall_mem_cons.mpr ⟨List.mem_of_getElem? (i := 538) rfl, (List.forall_mem_cons.mpr ⟨List.mem_of_getElem? (i := 539) rfl, (List.forall_mem_cons.mpr ⟨List.mem_of_getElem? (i := 594) rfl, (List.forall_mem_cons.mpr ⟨List.mem_of_getElem? (i := 540) rfl, (List.forall_mem_cons.mpr ⟨List.mem_of_getElem? (i := 541) rfl, (List.forall_mem_cons.mpr ⟨List.mem_of_getElem? (i := 542) rfl, (List.forall_mem_cons.mpr ⟨List.mem_of_getElem? (i := 543) rfl, (List.forall_mem_cons.mpr ⟨List.mem_of_getElem? (i := 544) rfl, (List.forall_mem_cons.mpr ⟨List.mem_of_getElem? (i := 546) rfl, (List.forall_mem_cons.mpr ⟨List.mem_of_getElem? (i := 10) rfl, (List.forall_mem_cons.mpr ⟨List.mem_of_getElem? (i := 547) rfl, (List.forall_mem_cons.mpr ⟨List.mem_of_getElem? (i := 548) rfl, (List.forall_mem_cons.mpr ⟨List.mem_of_getElem? (i := 550) rfl, (List.forall_mem_cons.mpr ⟨List.mem_of_getElem? (i := 11) rfl, (List.forall_mem_cons.mpr ⟨List.mem_of_getElem? (i := 551) rfl, (List.forall_mem_cons.mpr ⟨List.mem_of_getElem? (i := 552) rfl, (List.forall_mem_cons.mpr ⟨List.mem_of_getElem? (i := 554) rfl, (fun _ h => absurd h List.not_mem_nil)⟩)⟩)⟩)⟩)⟩)⟩)⟩)⟩)⟩)⟩)⟩)⟩)⟩)⟩)⟩)⟩)⟩)⟩)⟩)⟩)⟩)⟩)⟩)⟩)
set_option maxRecDepth 20000 in
theorem m_in_wsL_law_r20 : ∀ w ∈ wsL_law_r20, w ∈ lw_tbl := (List.forall_mem_cons.mpr ⟨List.mem_of_getElem? (i := 12) rfl, (List.forall_mem_cons.mpr ⟨List.mem_of_getElem? (i := 555) rfl, (List.forall_mem_cons.mpr ⟨List.mem_of_getElem? (i := 556) rfl, (List.forall_mem_cons.mpr ⟨List.mem_of_getElem? (i := 558) rfl, (List.forall_mem_cons.mpr ⟨List.mem_of_getElem? (i := 13) rfl, (List.forall_mem_cons.mpr ⟨List.mem_of_getElem? (i := 559) rfl, (List.forall_mem_cons.mpr ⟨List.mem_of_getElem? (i := 560) rfl, (List.forall_mem_cons.mpr ⟨List.mem_of_getElem? (i := 562) rfl, (List.forall_mem_cons.mpr ⟨List.mem_of_getElem? (i := 14) rfl, (List.forall_mem_cons.mpr ⟨List.mem_of_getElem? (i := 563) rfl, (List.forall_mem_cons.mpr ⟨List.mem_of_getElem? (i := 564) rfl, (List.forall_mem_cons.mpr ⟨List.mem_of_getElem? (i := 566) rfl, (List.forall_mem_cons.mpr ⟨List.mem_of_getElem? (i := 15) rfl, (List.forall_mem_cons.mpr ⟨List.mem_of_getElem? (i := 567) rfl, (List.forall_mem_cons.mpr ⟨List.mem_of_getElem? (i := 568) rfl, (List.forall_mem_cons.mpr ⟨List.mem_of_getElem? (i := 570) rfl, (List.forall_mem_cons.mpr ⟨List.mem_of_getElem? (i := 571) rfl, (List.forall_mem_cons.mpr ⟨List.mem_of_getElem? (i := 572) rfl, (List.forall_mem_cons.mpr ⟨List.mem_of_getElem? (i := 573) rfl, (List.forall_mem_cons.mpr ⟨List.mem_of_getElem? (i := 574) rfl, (List.forall_mem_cons.mpr ⟨List.mem_of_getElem? (i := 575) rfl, (List.forall_mem_cons.mpr ⟨List.mem_of_getElem? (i := 576) rfl, (List.forall_mem_cons.mpr ⟨List.mem_of_getElem? (i := 577) rfl, (List.forall_mem_cons.mpr ⟨List.mem_of_getElem? (i := 578) rfl, (fun _ h => absurd h List.not_mem_nil)⟩)⟩)⟩)⟩)⟩)⟩)⟩)⟩)⟩)⟩)⟩)⟩)⟩)⟩)⟩)⟩)⟩)⟩)⟩)⟩)⟩)⟩)⟩)⟩)
set_option maxRecDepth 20000 in
theorem m_in_wsL_law_r21 : ∀ w ∈ wsL_law_r21, w ∈ lw_tbl := (List.forall_mem_cons.mpr ⟨List.mem_of_getElem? (i := 580) rfl, (List.forall_mem_cons.mpr ⟨List.mem_of_getElem? (i := 16) rfl, (List.forall_mem_cons.mpr ⟨List.mem_of_getElem? (i := 581) rfl, (List.forall_mem_cons.mpr ⟨List.mem_of_getElem? (i := 582) rfl, (List.forall_mem_cons.mpr ⟨List.mem_of_getElem? (i := 583) rfl, (List.forall_mem_cons.mpr ⟨List.mem_of_getElem? (i := 584) rfl, (List.forall_mem_cons.mpr ⟨List.mem_of_getElem? (i := 585) rfl, (List.forall_mem_cons.mpr ⟨List.mem_of_getElem? (i := 586) rfl, (List.forall_mem_cons.mpr ⟨List.mem_of_getElem? (i := 587) rfl, (List.forall_mem_cons.mpr ⟨List.mem_of_getElem? (i := 588) rfl, (List.forall_mem_cons.mpr ⟨List.mem_of_getElem? (i := 589) rfl, (List.forall_mem_cons.mpr ⟨List.mem_of_getElem? (i := 590) rfl, (List.forall_mem_cons.mpr ⟨List.mem_of_getElem? (i := 591) rfl, (List.forall_mem_cons.mpr ⟨List.mem_of_getElem? (i := 592) rfl, (List.forall_mem_cons.mpr ⟨List.mem_of_getElem? (i := 593) rfl, (List.forall_mem_cons.mpr ⟨List.mem_of_getElem? (i := 595) rfl, (List.forall_mem_cons.mpr ⟨List.mem_of_getElem? (i := 596) rfl, (List.forall_mem_cons.mpr ⟨List.mem_of_getElem? (i := 597) rfl, (List.forall_mem_cons.mpr ⟨List.mem_of_getElem? (i := 598) rfl, (List.forall_mem_cons.mpr ⟨List.mem_of_getElem? (i := 599) rfl, (List.forall_mem_cons.mpr ⟨List.mem_of_getElem? (i := 600) rfl, (List.forall_mem_cons.mpr ⟨List.mem_of_getElem? (i := 601) rfl, (List.forall_mem_cons.mpr ⟨List.mem_of_getElem? (i := 602) rfl, (List.forall_mem_cons.mpr ⟨List.mem_of_getElem? (i := 603) rfl, (fun _ h => absurd h List.not_mem_nil)⟩)⟩)⟩)⟩)⟩)⟩)⟩)⟩)⟩)⟩)⟩)⟩)⟩)⟩)⟩)⟩)⟩)⟩)⟩)⟩)⟩)⟩)⟩)⟩)
set_option maxRecDepth 20000 in
theorem m_in_wsL_law_r22 : ∀ w ∈ wsL_law_r22, w ∈ lw_tbl := (List.forall_mem_cons.mpr ⟨List.mem_of_getElem? (i := 604) rfl, (List.forall_mem_cons.mpr ⟨List.mem_of_getElem? (i := 605) rfl, (List.forall_mem_cons.mpr ⟨List.mem_of_getElem? (i := 606) rfl, (List.forall_mem_cons.mpr ⟨List.mem_of_getElem? (i := 607) rfl, (List.forall_mem_cons.mpr ⟨List.mem_of_getElem? (i := 608) rfl, (List.forall_mem_cons.mpr ⟨List.mem_of_getElem? (i := 609) rfl, (List.forall_mem_cons.mpr ⟨List.mem_of_getElem? (i := 610) rfl, (List.forall_mem_cons.mpr ⟨List.mem_of_getElem? (i := 611) rfl, (fun _ h => absurd h List.not_mem_nil)⟩)⟩)⟩)⟩)⟩)⟩)⟩)⟩)
theorem wsL_law_in : ∀ w ∈ wsL_law, w ∈ lw_tbl := (List.forall_mem_append.mpr ⟨(List.forall_mem_append.mpr ⟨(List.forall_mem_append.mpr ⟨(List.forall_mem_append.mpr ⟨(List.forall_mem_append.mpr ⟨(List.forall_mem_append.mpr ⟨(List.forall_mem_append.mpr ⟨(List.forall_mem_append.mpr ⟨m_in_wsL_law_r1, (List.forall_mem_append.mpr ⟨m_in_wsL_law_r2, (List.forall_mem_append.mpr ⟨m_in_wsL_law_r3, (List.forall_mem_append.mpr ⟨m_in_wsL_law_r4, (List.forall_mem_append.mpr ⟨m_in_wsL_law_r5, (List.forall_mem_append.mpr ⟨m_in_wsL_law_r6, (List.forall_mem_append.mpr ⟨m_in_wsL_law_r7, (List.forall_mem_append.mpr ⟨m_in_wsL_law_r8, (List.forall_mem_append.mpr ⟨m_in_wsL_law_r9, (List.forall_mem_append.mpr ⟨m_in_wsL_law_r10, (List.forall_mem_append.mpr ⟨m_in_wsL_law_r11, (List.forall_mem_append.mpr ⟨m_in_wsL_law_r12, (List.forall_mem_append.mpr ⟨m_in_wsL_law_r13, (List.forall_mem_append.mpr ⟨m_in_wsL_law_r14, (List.forall_mem_append.mpr ⟨m_in_wsL_law_r15, (List.forall_mem_append.mpr ⟨m_in_wsL_law_r16, (List.forall_mem_append.mpr ⟨m_in_wsL_law_r17, (List.forall_mem_append.mpr ⟨m_in_wsL_law_r18, (List.forall_mem_append.mpr ⟨m_in_wsL_law_r19, (List.forall_mem_append.mpr ⟨m_in_wsL_law_r20, (List.forall_mem_append.mpr ⟨m_in_wsL_law_r21, m_in_wsL_law_r22⟩)⟩)⟩)⟩)⟩)⟩)⟩)⟩)⟩)⟩)⟩)⟩)⟩)⟩)⟩)⟩)⟩)⟩)⟩)⟩)⟩), (pl_at (us := wsX50) [170, 172, 174, 176, 178, 180] rfl)⟩), (pl_at (us := wsX40) [93, 95, 97, 99, 101, 103, 105, 107, 109, 111, 113] rfl)⟩), (pl_at (us := wsX10) [128, 130, 132] rfl)⟩), (pl_at (us := wsX00) [148, 150, 152, 154, 156, 158, 160] rfl)⟩), (uin_at (us := wsX30) 49 rfl)⟩), (pl_at (us := wsX20) [62, 64, 66] rfl)⟩), (fun _ h => absurd h List.not_mem_nil)⟩)
theorem inlX0 : ∀ w ∈ wsX00, w ∈ wsL_law := fun _ h => List.mem_append_left _ (List.mem_append_left _ (List.mem_append_left _ (List.mem_append_right _ h)))
theorem inX0 : ∀ w ∈ wsX00, w ∈ lw_tbl := fun w h => wsL_law_in w (inlX0 w h)
theorem inlX1 : ∀ w ∈ wsX10, w ∈ wsL_law := fun _ h => List.mem_append_left _ (List.mem_append_left _ (List.mem_append_left _ (List.mem_append_left _ (List.mem_append_right _ h))))
theorem inX1 : ∀ w ∈ wsX10, w ∈ lw_tbl := fun w h => wsL_law_in w (inlX1 w h)
theorem inlX2 : ∀ w ∈ wsX20, w ∈ wsL_law := fun _ h => List.mem_append_left _ (List.mem_append_right _ h)
theorem inX2 : ∀ w ∈ wsX20, w ∈ lw_tbl := fun w h => wsL_law_in w (inlX2 w h)
theorem inlX3 : ∀ w ∈ wsX30, w ∈ wsL_law := fun _ h => List.mem_append_left _ (List.mem_append_left _ (List.mem_append_right _ h))
theorem inX3 : ∀ w ∈ wsX30, w ∈ lw_tbl := fun w h => wsL_law_in w (inlX3 w h)
theorem inlX4 : ∀ w ∈ wsX40, w ∈ wsL_law := fun _ h => List.mem_append_left _ (List.mem_append_left _ (List.mem_append_left _ (List.mem_append_left _ (List.mem_append_left _ (List.mem_append_right _ h)))))
theorem inX4 : ∀ w ∈ wsX40, w ∈ lw_tbl := fun w h => wsL_law_in w (inlX4 w h)
theorem inlX5 : ∀ w ∈ wsX50, w ∈ wsL_law := fun _ h => List.mem_append_left _ (List.mem_append_left _ (List.mem_append_left _ (List.mem_append_left _ (List.mem_append_left _ (List.mem_append_left _ (List.mem_append_right _ h))))))
theorem inX5 : ∀ w ∈ wsX50, w ∈ lw_tbl := fun w h => wsL_law_in w (inlX5 w h)
theorem inX6 : ∀ w ∈ wsX60, w ∈ lw_tbl := by decide +kernel
theorem inJ9 : ∀ w ∈ wsJ90, w ∈ lw_tbl := by decide +kernel
theorem inJ10 : ∀ w ∈ wsJ100, w ∈ lw_tbl := by decide +kernel
end
section
theorem dX0_init_0 : decode cX0_init 0 = .ok (.aload_n 0, 1) := by decide +kernel
theorem dX0_init_1 : decode cX0_init 1 = .ok (.invokespecial 3, 3) := by decide +kernel
theorem dX0_init_4 : decode cX0_init 4 = .ok (.aload_n 0, 1) := by decide +kernel
theorem dX0_init_5 : decode cX0_init 5 = .ok (.bipush 60, 2) := by decide +kernel
theorem dX0_init_7 : decode cX0_init 7 = .ok (.newarray .char, 2) := by decide +kernel
theorem dX0_init_9 : decode cX0_init 9 = .ok (.putfield 9, 3) := by decide +kernel
theorem dX0_init_12 : decode cX0_init 12 = .ok (.aload_n 0, 1) := by decide +kernel
theorem dX0_init_13 : decode cX0_init 13 = .ok (.iconst 0, 1) := by decide +kernel
theorem dX0_init_14 : decode cX0_init 14 = .ok (.putfield 13, 3) := by decide +kernel
theorem dX0_init_17 : decode cX0_init 17 = .ok (.aload_n 0, 1) := by decide +kernel
theorem dX0_init_18 : decode cX0_init 18 = .ok (.bipush 45, 2) := by decide +kernel
theorem dX0_init_20 : decode cX0_init 20 = .ok (.newarray .int, 2) := by decide +kernel
theorem dX0_init_22 : decode cX0_init 22 = .ok (.putfield 17, 3) := by decide +kernel
theorem dX0_init_25 : decode cX0_init 25 = .ok (.aload_n 0, 1) := by decide +kernel
theorem dX0_init_26 : decode cX0_init 26 = .ok (.iconst 0, 1) := by decide +kernel
theorem dX0_init_27 : decode cX0_init 27 = .ok (.putfield 21, 3) := by decide +kernel
theorem dX0_init_30 : decode cX0_init 30 = .ok (.aload_n 0, 1) := by decide +kernel
theorem dX0_init_31 : decode cX0_init 31 = .ok (.iconst 0, 1) := by decide +kernel
theorem dX0_init_32 : decode cX0_init 32 = .ok (.putfield 24, 3) := by decide +kernel
theorem dX0_init_35 : decode cX0_init 35 = .ok (.aload_n 0, 1) := by decide +kernel
theorem dX0_init_36 : decode cX0_init 36 = .ok (.iconst 0, 1) := by decide +kernel
theorem dX0_init_37 : decode cX0_init 37 = .ok (.putfield 27, 3) := by decide +kernel
theorem dX0_init_40 : decode cX0_init 40 = .ok (.aload_n 0, 1) := by decide +kernel
theorem dX0_init_41 : decode cX0_init 41 = .ok (.iconst 0, 1) := by decide +kernel
theorem dX0_init_42 : decode cX0_init 42 = .ok (.putfield 30, 3) := by decide +kernel
theorem dX0_init_45 : decode cX0_init 45 = .ok (.return_, 1) := by decide +kernel
theorem dX0_append_0 : decode cX0_append 0 = .ok (.aload_n 0, 1) := by decide +kernel
theorem dX0_append_1 : decode cX0_append 1 = .ok (.getfield 13, 3) := by decide +kernel
theorem dX0_append_4 : decode cX0_append 4 = .ok (.ifCond .lt 15, 3) := by decide +kernel
theorem dX0_append_7 : decode cX0_append 7 = .ok (.aload_n 0, 1) := by decide +kernel
theorem dX0_append_8 : decode cX0_append 8 = .ok (.getfield 13, 3) := by decide +kernel
theorem dX0_append_11 : decode cX0_append 11 = .ok (.aload_n 0, 1) := by decide +kernel
theorem dX0_append_12 : decode cX0_append 12 = .ok (.getfield 9, 3) := by decide +kernel
theorem dX0_append_15 : decode cX0_append 15 = .ok (.arraylength, 1) := by decide +kernel
theorem dX0_append_16 : decode cX0_append 16 = .ok (.if_icmp .lt 5, 3) := by decide +kernel
theorem dX0_append_19 : decode cX0_append 19 = .ok (.iconst 0, 1) := by decide +kernel
theorem dX0_append_20 : decode cX0_append 20 = .ok (.ireturn, 1) := by decide +kernel
theorem dX0_append_21 : decode cX0_append 21 = .ok (.aload_n 0, 1) := by decide +kernel
theorem dX0_append_22 : decode cX0_append 22 = .ok (.getfield 9, 3) := by decide +kernel
theorem dX0_append_25 : decode cX0_append 25 = .ok (.aload_n 0, 1) := by decide +kernel
theorem dX0_append_26 : decode cX0_append 26 = .ok (.getfield 13, 3) := by decide +kernel
theorem dX0_append_29 : decode cX0_append 29 = .ok (.iload_n 1, 1) := by decide +kernel
theorem dX0_append_30 : decode cX0_append 30 = .ok (.castore, 1) := by decide +kernel
theorem dX0_append_31 : decode cX0_append 31 = .ok (.aload_n 0, 1) := by decide +kernel
theorem dX0_append_32 : decode cX0_append 32 = .ok (.dup, 1) := by decide +kernel
theorem dX0_append_33 : decode cX0_append 33 = .ok (.getfield 13, 3) := by decide +kernel
theorem dX0_append_36 : decode cX0_append 36 = .ok (.iconst 1, 1) := by decide +kernel
theorem dX0_append_37 : decode cX0_append 37 = .ok (.iadd, 1) := by decide +kernel
theorem dX0_append_38 : decode cX0_append 38 = .ok (.putfield 13, 3) := by decide +kernel
theorem dX0_append_41 : decode cX0_append 41 = .ok (.iconst 1, 1) := by decide +kernel
theorem dX0_append_42 : decode cX0_append 42 = .ok (.ireturn, 1) := by decide +kernel
theorem dX0_length_0 : decode cX0_length 0 = .ok (.aload_n 0, 1) := by decide +kernel
theorem dX0_length_1 : decode cX0_length 1 = .ok (.getfield 13, 3) := by decide +kernel
theorem dX0_length_4 : decode cX0_length 4 = .ok (.ireturn, 1) := by decide +kernel
theorem dX0_clear_0 : decode cX0_clear 0 = .ok (.aload_n 0, 1) := by decide +kernel
theorem dX0_clear_1 : decode cX0_clear 1 = .ok (.iconst 0, 1) := by decide +kernel
theorem dX0_clear_2 : decode cX0_clear 2 = .ok (.putfield 13, 3) := by decide +kernel
theorem dX0_clear_5 : decode cX0_clear 5 = .ok (.return_, 1) := by decide +kernel
theorem dX0_partCount_0 : decode cX0_partCount 0 = .ok (.aload_n 0, 1) := by decide +kernel
theorem dX0_partCount_1 : decode cX0_partCount 1 = .ok (.getfield 21, 3) := by decide +kernel
theorem dX0_partCount_4 : decode cX0_partCount 4 = .ok (.ireturn, 1) := by decide +kernel
set_option maxRecDepth 20000 in
theorem ggX0_speedOf_X0_numberOf : GoodIn wsX0_speedOf wsX0_numberOf := goodIn_r _ [5, 6, 7, 8, 9, 10, 11, 12, 13] (by decide +kernel) (by decide +kernel)
set_option maxRecDepth 20000 in
theorem gX0_speedOf_X0_numberOf : GoodIn wsX0_speedOf (wsV RX0 33 RX0 yX0_numberOf wsX0_numberOf) := goodIn_app (goodIn_of _ (by decide +kernel)) ggX0_speedOf_X0_numberOf
theorem dX0_speedOf_0 : decode cX0_speedOf 0 = .ok (.aload_n 0, 1) := by decide +kernel
theorem dX0_speedOf_1 : decode cX0_speedOf 1 = .ok (.iload_n 1, 1) := by decide +kernel
theorem dX0_speedOf_2 : decode cX0_speedOf 2 = .ok (.iconst 0, 1) := by decide +kernel
theorem dX0_speedOf_3 : decode cX0_speedOf 3 = .ok (.invokevirtual 33, 3) := by decide +kernel
theorem dX0_speedOf_6 : decode cX0_speedOf 6 = .ok (.ireturn, 1) := by decide +kernel
set_option maxRecDepth 20000 in
theorem ggX0_hundredthsOf_X0_numberOf : GoodIn wsX0_hundredthsOf wsX0_numberOf := goodIn_r _ [5, 6, 7, 8, 9, 10, 11, 12, 13] (by decide +kernel) (by decide +kernel)
set_option maxRecDepth 20000 in
theorem gX0_hundredthsOf_X0_numberOf : GoodIn wsX0_hundredthsOf (wsV RX0 33 RX0 yX0_numberOf wsX0_numberOf) := goodIn_app (goodIn_of _ (by decide +kernel)) ggX0_hundredthsOf_X0_numberOf
theorem dX0_hundredthsOf_0 : decode cX0_hundredthsOf 0 = .ok (.aload_n 0, 1) := by decide +kernel
theorem dX0_hundredthsOf_1 : decode cX0_hundredthsOf 1 = .ok (.iload_n 1, 1) := by decide +kernel
theorem dX0_hundredthsOf_2 : decode cX0_hundredthsOf 2 = .ok (.iconst 1, 1) := by decide +kernel
theorem dX0_hundredthsOf_3 : decode cX0_hundredthsOf 3 = .ok (.invokevirtual 33, 3) := by decide +kernel
theorem dX0_hundredthsOf_6 : decode cX0_hundredthsOf 6 = .ok (.ireturn, 1) := by decide +kernel
set_option maxRecDepth 20000 in
theorem ggX0_ticksOf_X0_numberOf : GoodIn wsX0_ticksOf wsX0_numberOf := goodIn_r _ [5, 6, 7, 8, 9, 10, 11, 12, 13] (by decide +kernel) (by decide +kernel)
set_option maxRecDepth 20000 in
theorem gX0_ticksOf_X0_numberOf : GoodIn wsX0_ticksOf (wsV RX0 33 RX0 yX0_numberOf wsX0_numberOf) := goodIn_app (goodIn_of _ (by decide +kernel)) ggX0_ticksOf_X0_numberOf
theorem dX0_ticksOf_0 : decode cX0_ticksOf 0 = .ok (.aload_n 0, 1) := by decide +kernel
theorem dX0_ticksOf_1 : decode cX0_ticksOf 1 = .ok (.iload_n 1, 1) := by decide +kernel
theorem dX0_ticksOf_2 : decode cX0_ticksOf 2 = .ok (.iconst 2, 1) := by decide +kernel
theorem dX0_ticksOf_3 : decode cX0_ticksOf 3 = .ok (.invokevirtual 33, 3) := by decide +kernel
theorem dX0_ticksOf_6 : decode cX0_ticksOf 6 = .ok (.ireturn, 1) := by decide +kernel
set_option maxRecDepth 20000 in
theorem ggX0_ticksOfAllParts_X0_ticksOf : GoodIn wsX0_ticksOfAllParts wsX0_ticksOf := goodIn_r _ [6, 7, 8, 9, 5, 10, 11, 12, 13, 14, 15, 16, 17, 18] (by decide +kernel) (by decide +kernel)
set_option maxRecDepth 20000 in
theorem gX0_ticksOfAllParts_X0_ticksOf : GoodIn wsX0_ticksOfAllParts (wsV RX0 37 RX0 yX0_ticksOf wsX0_ticksOf) := goodIn_app (goodIn_of _ (by decide +kernel)) ggX0_ticksOfAllParts_X0_ticksOf
theorem dX0_ticksOfAllParts_0 : decode cX0_ticksOfAllParts 0 = .ok (.iconst 0, 1) := by decide +kernel
theorem dX0_ticksOfAllParts_1 : decode cX0_ticksOfAllParts 1 = .ok (.istore_n 1, 1) := by decide +kernel
theorem dX0_ticksOfAllParts_2 : decode cX0_ticksOfAllParts 2 = .ok (.iconst 0, 1) := by decide +kernel
theorem dX0_ticksOfAllParts_3 : decode cX0_ticksOfAllParts 3 = .ok (.istore_n 2, 1) := by decide +kernel
theorem dX0_ticksOfAllParts_4 : decode cX0_ticksOfAllParts 4 = .ok (.iload_n 2, 1) := by decide +kernel
theorem dX0_ticksOfAllParts_5 : decode cX0_ticksOfAllParts 5 = .ok (.aload_n 0, 1) := by decide +kernel
theorem dX0_ticksOfAllParts_6 : decode cX0_ticksOfAllParts 6 = .ok (.getfield 21, 3) := by decide +kernel
theorem dX0_ticksOfAllParts_9 : decode cX0_ticksOfAllParts 9 = .ok (.if_icmp .ge 17, 3) := by decide +kernel
theorem dX0_ticksOfAllParts_12 : decode cX0_ticksOfAllParts 12 = .ok (.iload_n 1, 1) := by decide +kernel
theorem dX0_ticksOfAllParts_13 : decode cX0_ticksOfAllParts 13 = .ok (.aload_n 0, 1) := by decide +kernel
theorem dX0_ticksOfAllParts_14 : decode cX0_ticksOfAllParts 14 = .ok (.iload_n 2, 1) := by decide +kernel
theorem dX0_ticksOfAllParts_15 : decode cX0_ticksOfAllParts 15 = .ok (.invokevirtual 37, 3) := by decide +kernel
theorem dX0_ticksOfAllParts_18 : decode cX0_ticksOfAllParts 18 = .ok (.iadd, 1) := by decide +kernel
theorem dX0_ticksOfAllParts_19 : decode cX0_ticksOfAllParts 19 = .ok (.istore_n 1, 1) := by decide +kernel
theorem dX0_ticksOfAllParts_20 : decode cX0_ticksOfAllParts 20 = .ok (.iinc 2 1, 3) := by decide +kernel
theorem dX0_ticksOfAllParts_23 : decode cX0_ticksOfAllParts 23 = .ok (.goto (-19), 3) := by decide +kernel
theorem dX0_ticksOfAllParts_26 : decode cX0_ticksOfAllParts 26 = .ok (.iload_n 1, 1) := by decide +kernel
theorem dX0_ticksOfAllParts_27 : decode cX0_ticksOfAllParts 27 = .ok (.ireturn, 1) := by decide +kernel
set_option maxRecDepth 20000 in
theorem ggX0_read_X0_expectNumber : GoodIn wsX0_read wsX0_expectNumber := goodIn_r _ [8, 9, 10, 11, 34, 35, 36, 37, 38, 39, 40] (by decide +kernel) (by decide +kernel)
set_option maxRecDepth 20000 in
theorem gX0_read_X0_expectNumber : GoodIn wsX0_read (wsV RX0 41 RX0 yX0_expectNumber wsX0_expectNumber) := goodIn_app (goodIn_of _ (by decide +kernel)) ggX0_read_X0_expectNumber
set_option maxRecDepth 20000 in
theorem ggX0_read_X0_takes : GoodIn wsX0_read wsX0_takes := goodIn_r _ [15, 9, 16, 17, 18, 7, 19, 11, 10, 20, 21, 22, 23, 1, 24, 4, 5, 6, 8, 25, 26, 27, 28, 29, 30, 31, 32, 33, 34, 35, 36, 37, 38, 39, 40] (by decide +kernel) (by decide +kernel)
set_option maxRecDepth 20000 in
theorem gX0_read_X0_takes : GoodIn wsX0_read (wsV RX0 45 RX0 yX0_takes wsX0_takes) := goodIn_app (goodIn_of _ (by decide +kernel)) ggX0_read_X0_takes
set_option maxRecDepth 20000 in
theorem ggX0_read_X0_endPart : GoodIn wsX0_read wsX0_endPart := goodIn_r _ [28, 9, 1, 16, 17, 18, 7, 19, 11, 10, 20, 21, 22, 23, 24, 4, 5, 6, 8, 34, 35, 36, 37, 38, 39, 40] (by decide +kernel) (by decide +kernel)
set_option maxRecDepth 20000 in
theorem gX0_read_X0_endPart : GoodIn wsX0_read (wsV RX0 49 RX0 yX0_endPart wsX0_endPart) := goodIn_app (goodIn_of _ (by decide +kernel)) ggX0_read_X0_endPart
theorem dX0_read_0 : decode cX0_read 0 = .ok (.aload_n 0, 1) := by decide +kernel
theorem dX0_read_1 : decode cX0_read 1 = .ok (.iconst 0, 1) := by decide +kernel
theorem dX0_read_2 : decode cX0_read 2 = .ok (.putfield 21, 3) := by decide +kernel
theorem dX0_read_5 : decode cX0_read 5 = .ok (.aload_n 0, 1) := by decide +kernel
theorem dX0_read_6 : decode cX0_read 6 = .ok (.iconst 0, 1) := by decide +kernel
theorem dX0_read_7 : decode cX0_read 7 = .ok (.invokevirtual 41, 3) := by decide +kernel
theorem dX0_read_10 : decode cX0_read 10 = .ok (.iconst 0, 1) := by decide +kernel
theorem dX0_read_11 : decode cX0_read 11 = .ok (.istore_n 1, 1) := by decide +kernel
theorem dX0_read_12 : decode cX0_read 12 = .ok (.iload_n 1, 1) := by decide +kernel
theorem dX0_read_13 : decode cX0_read 13 = .ok (.aload_n 0, 1) := by decide +kernel
theorem dX0_read_14 : decode cX0_read 14 = .ok (.getfield 13, 3) := by decide +kernel
theorem dX0_read_17 : decode cX0_read 17 = .ok (.if_icmp .ge 33, 3) := by decide +kernel
theorem dX0_read_20 : decode cX0_read 20 = .ok (.iload_n 1, 1) := by decide +kernel
theorem dX0_read_21 : decode cX0_read 21 = .ok (.aload_n 0, 1) := by decide +kernel
theorem dX0_read_22 : decode cX0_read 22 = .ok (.getfield 9, 3) := by decide +kernel
theorem dX0_read_25 : decode cX0_read 25 = .ok (.arraylength, 1) := by decide +kernel
theorem dX0_read_26 : decode cX0_read 26 = .ok (.if_icmp .ge 24, 3) := by decide +kernel
theorem dX0_read_29 : decode cX0_read 29 = .ok (.aload_n 0, 1) := by decide +kernel
theorem dX0_read_30 : decode cX0_read 30 = .ok (.aload_n 0, 1) := by decide +kernel
theorem dX0_read_31 : decode cX0_read 31 = .ok (.getfield 9, 3) := by decide +kernel
theorem dX0_read_34 : decode cX0_read 34 = .ok (.iload_n 1, 1) := by decide +kernel
theorem dX0_read_35 : decode cX0_read 35 = .ok (.caload, 1) := by decide +kernel
theorem dX0_read_36 : decode cX0_read 36 = .ok (.invokevirtual 45, 3) := by decide +kernel
theorem dX0_read_39 : decode cX0_read 39 = .ok (.ifCond .ne 5, 3) := by decide +kernel
theorem dX0_read_42 : decode cX0_read 42 = .ok (.iload_n 1, 1) := by decide +kernel
theorem dX0_read_43 : decode cX0_read 43 = .ok (.ireturn, 1) := by decide +kernel
theorem dX0_read_44 : decode cX0_read 44 = .ok (.iinc 1 1, 3) := by decide +kernel
theorem dX0_read_47 : decode cX0_read 47 = .ok (.goto (-35), 3) := by decide +kernel
theorem dX0_read_50 : decode cX0_read 50 = .ok (.aload_n 0, 1) := by decide +kernel
theorem dX0_read_51 : decode cX0_read 51 = .ok (.invokevirtual 49, 3) := by decide +kernel
theorem dX0_read_54 : decode cX0_read 54 = .ok (.ifCond .eq 7, 3) := by decide +kernel
theorem dX0_read_57 : decode cX0_read 57 = .ok (.iconst (-1), 1) := by decide +kernel
theorem dX0_read_58 : decode cX0_read 58 = .ok (.goto 7, 3) := by decide +kernel
theorem dX0_read_61 : decode cX0_read 61 = .ok (.aload_n 0, 1) := by decide +kernel
theorem dX0_read_62 : decode cX0_read 62 = .ok (.getfield 13, 3) := by decide +kernel
theorem dX0_read_65 : decode cX0_read 65 = .ok (.ireturn, 1) := by decide +kernel
theorem dX0_expectNumber_0 : decode cX0_expectNumber 0 = .ok (.aload_n 0, 1) := by decide +kernel
theorem dX0_expectNumber_1 : decode cX0_expectNumber 1 = .ok (.iload_n 1, 1) := by decide +kernel
theorem dX0_expectNumber_2 : decode cX0_expectNumber 2 = .ok (.putfield 24, 3) := by decide +kernel
theorem dX0_expectNumber_5 : decode cX0_expectNumber 5 = .ok (.aload_n 0, 1) := by decide +kernel
theorem dX0_expectNumber_6 : decode cX0_expectNumber 6 = .ok (.iconst 0, 1) := by decide +kernel
theorem dX0_expectNumber_7 : decode cX0_expectNumber 7 = .ok (.putfield 27, 3) := by decide +kernel
theorem dX0_expectNumber_10 : decode cX0_expectNumber 10 = .ok (.aload_n 0, 1) := by decide +kernel
theorem dX0_expectNumber_11 : decode cX0_expectNumber 11 = .ok (.iconst 0, 1) := by decide +kernel
theorem dX0_expectNumber_12 : decode cX0_expectNumber 12 = .ok (.putfield 30, 3) := by decide +kernel
theorem dX0_expectNumber_15 : decode cX0_expectNumber 15 = .ok (.return_, 1) := by decide +kernel
set_option maxRecDepth 20000 in
theorem ggX0_takes_X0_endNumber : GoodIn wsX0_takes wsX0_endNumber := goodIn_r _ [6, 7, 1, 8, 9, 10, 11, 5, 12, 13, 14, 15, 16, 17, 18, 28, 29, 30, 31, 32, 33, 34] (by decide +kernel) (by decide +kernel)
set_option maxRecDepth 20000 in
theorem gX0_takes_X0_endNumber : GoodIn wsX0_takes (wsV RX0 53 RX0 yX0_endNumber wsX0_endNumber) := goodIn_app (goodIn_of _ (by decide +kernel)) ggX0_takes_X0_endNumber
set_option maxRecDepth 20000 in
theorem ggX0_takes_X0_endPart : GoodIn wsX0_takes wsX0_endPart := goodIn_r _ [22, 1, 13, 2, 3, 4, 5, 6, 7, 8, 9, 10, 11, 12, 14, 15, 16, 17, 18, 28, 29, 30, 31, 32, 33, 34] (by decide +kernel) (by decide +kernel)
set_option maxRecDepth 20000 in
theorem gX0_takes_X0_endPart : GoodIn wsX0_takes (wsV RX0 49 RX0 yX0_endPart wsX0_endPart) := goodIn_app (goodIn_of _ (by decide +kernel)) ggX0_takes_X0_endPart
set_option maxRecDepth 20000 in
theorem ggX0_takes_X0_takesDigit : GoodIn wsX0_takes wsX0_takesDigit := goodIn_r _ [26, 7, 8, 1, 27, 28, 29, 30, 31, 32, 33, 34] (by decide +kernel) (by decide +kernel)
set_option maxRecDepth 20000 in
theorem gX0_takes_X0_takesDigit : GoodIn wsX0_takes (wsV RX0 57 RX0 yX0_takesDigit wsX0_takesDigit) := goodIn_app (goodIn_of _ (by decide +kernel)) ggX0_takes_X0_takesDigit
theorem dX0_takes_0 : decode cX0_takes 0 = .ok (.iload_n 1, 1) := by decide +kernel
theorem dX0_takes_1 : decode cX0_takes 1 = .ok (.lookupswitch 83 #[(42, 56), (44, 35), (59, 78)], 35) := by decide +kernel
theorem dX0_takes_36 : decode cX0_takes 36 = .ok (.aload_n 0, 1) := by decide +kernel
theorem dX0_takes_37 : decode cX0_takes 37 = .ok (.getfield 24, 3) := by decide +kernel
theorem dX0_takes_40 : decode cX0_takes 40 = .ok (.ifCond .ne 15, 3) := by decide +kernel
theorem dX0_takes_43 : decode cX0_takes 43 = .ok (.aload_n 0, 1) := by decide +kernel
theorem dX0_takes_44 : decode cX0_takes 44 = .ok (.iconst 1, 1) := by decide +kernel
theorem dX0_takes_45 : decode cX0_takes 45 = .ok (.invokevirtual 53, 3) := by decide +kernel
theorem dX0_takes_48 : decode cX0_takes 48 = .ok (.ifCond .eq 7, 3) := by decide +kernel
theorem dX0_takes_51 : decode cX0_takes 51 = .ok (.iconst 1, 1) := by decide +kernel
theorem dX0_takes_52 : decode cX0_takes 52 = .ok (.goto 4, 3) := by decide +kernel
theorem dX0_takes_55 : decode cX0_takes 55 = .ok (.iconst 0, 1) := by decide +kernel
theorem dX0_takes_56 : decode cX0_takes 56 = .ok (.ireturn, 1) := by decide +kernel
theorem dX0_takes_57 : decode cX0_takes 57 = .ok (.aload_n 0, 1) := by decide +kernel
theorem dX0_takes_58 : decode cX0_takes 58 = .ok (.getfield 24, 3) := by decide +kernel
theorem dX0_takes_61 : decode cX0_takes 61 = .ok (.iconst 1, 1) := by decide +kernel
theorem dX0_takes_62 : decode cX0_takes 62 = .ok (.if_icmp .ne 15, 3) := by decide +kernel
theorem dX0_takes_65 : decode cX0_takes 65 = .ok (.aload_n 0, 1) := by decide +kernel
theorem dX0_takes_66 : decode cX0_takes 66 = .ok (.iconst 2, 1) := by decide +kernel
theorem dX0_takes_67 : decode cX0_takes 67 = .ok (.invokevirtual 53, 3) := by decide +kernel
theorem dX0_takes_70 : decode cX0_takes 70 = .ok (.ifCond .eq 7, 3) := by decide +kernel
theorem dX0_takes_73 : decode cX0_takes 73 = .ok (.iconst 1, 1) := by decide +kernel
theorem dX0_takes_74 : decode cX0_takes 74 = .ok (.goto 4, 3) := by decide +kernel
theorem dX0_takes_77 : decode cX0_takes 77 = .ok (.iconst 0, 1) := by decide +kernel
theorem dX0_takes_78 : decode cX0_takes 78 = .ok (.ireturn, 1) := by decide +kernel
theorem dX0_takes_79 : decode cX0_takes 79 = .ok (.aload_n 0, 1) := by decide +kernel
theorem dX0_takes_80 : decode cX0_takes 80 = .ok (.invokevirtual 49, 3) := by decide +kernel
theorem dX0_takes_83 : decode cX0_takes 83 = .ok (.ireturn, 1) := by decide +kernel
theorem dX0_takes_84 : decode cX0_takes 84 = .ok (.iload_n 1, 1) := by decide +kernel
theorem dX0_takes_85 : decode cX0_takes 85 = .ok (.bipush 48, 2) := by decide +kernel
theorem dX0_takes_87 : decode cX0_takes 87 = .ok (.if_icmp .lt 24, 3) := by decide +kernel
theorem dX0_takes_90 : decode cX0_takes 90 = .ok (.iload_n 1, 1) := by decide +kernel
theorem dX0_takes_91 : decode cX0_takes 91 = .ok (.bipush 57, 2) := by decide +kernel
theorem dX0_takes_93 : decode cX0_takes 93 = .ok (.if_icmp .gt 18, 3) := by decide +kernel
theorem dX0_takes_96 : decode cX0_takes 96 = .ok (.aload_n 0, 1) := by decide +kernel
theorem dX0_takes_97 : decode cX0_takes 97 = .ok (.iload_n 1, 1) := by decide +kernel
theorem dX0_takes_98 : decode cX0_takes 98 = .ok (.bipush 48, 2) := by decide +kernel
theorem dX0_takes_100 : decode cX0_takes 100 = .ok (.isub, 1) := by decide +kernel
theorem dX0_takes_101 : decode cX0_takes 101 = .ok (.invokevirtual 57, 3) := by decide +kernel
theorem dX0_takes_104 : decode cX0_takes 104 = .ok (.ifCond .eq 7, 3) := by decide +kernel
theorem dX0_takes_107 : decode cX0_takes 107 = .ok (.iconst 1, 1) := by decide +kernel
theorem dX0_takes_108 : decode cX0_takes 108 = .ok (.goto 4, 3) := by decide +kernel
theorem dX0_takes_111 : decode cX0_takes 111 = .ok (.iconst 0, 1) := by decide +kernel
theorem dX0_takes_112 : decode cX0_takes 112 = .ok (.ireturn, 1) := by decide +kernel
theorem dX0_takesDigit_0 : decode cX0_takesDigit 0 = .ok (.aload_n 0, 1) := by decide +kernel
theorem dX0_takesDigit_1 : decode cX0_takesDigit 1 = .ok (.getfield 30, 3) := by decide +kernel
theorem dX0_takesDigit_4 : decode cX0_takesDigit 4 = .ok (.ifCond .le 12, 3) := by decide +kernel
theorem dX0_takesDigit_7 : decode cX0_takesDigit 7 = .ok (.aload_n 0, 1) := by decide +kernel
theorem dX0_takesDigit_8 : decode cX0_takesDigit 8 = .ok (.getfield 27, 3) := by decide +kernel
theorem dX0_takesDigit_11 : decode cX0_takesDigit 11 = .ok (.ifCond .ne 5, 3) := by decide +kernel
theorem dX0_takesDigit_14 : decode cX0_takesDigit 14 = .ok (.iconst 0, 1) := by decide +kernel
theorem dX0_takesDigit_15 : decode cX0_takesDigit 15 = .ok (.ireturn, 1) := by decide +kernel
theorem dX0_takesDigit_16 : decode cX0_takesDigit 16 = .ok (.aload_n 0, 1) := by decide +kernel
theorem dX0_takesDigit_17 : decode cX0_takesDigit 17 = .ok (.getfield 24, 3) := by decide +kernel
theorem dX0_takesDigit_20 : decode cX0_takesDigit 20 = .ok (.iconst 2, 1) := by decide +kernel
theorem dX0_takesDigit_21 : decode cX0_takesDigit 21 = .ok (.if_icmp .ne 16, 3) := by decide +kernel
theorem dX0_takesDigit_24 : decode cX0_takesDigit 24 = .ok (.aload_n 0, 1) := by decide +kernel
theorem dX0_takesDigit_25 : decode cX0_takesDigit 25 = .ok (.getfield 30, 3) := by decide +kernel
theorem dX0_takesDigit_28 : decode cX0_takesDigit 28 = .ok (.ifCond .ne 9, 3) := by decide +kernel
theorem dX0_takesDigit_31 : decode cX0_takesDigit 31 = .ok (.iload_n 1, 1) := by decide +kernel
theorem dX0_takesDigit_32 : decode cX0_takesDigit 32 = .ok (.ifCond .ne 5, 3) := by decide +kernel
theorem dX0_takesDigit_35 : decode cX0_takesDigit 35 = .ok (.iconst 0, 1) := by decide +kernel
theorem dX0_takesDigit_36 : decode cX0_takesDigit 36 = .ok (.ireturn, 1) := by decide +kernel
theorem dX0_takesDigit_37 : decode cX0_takesDigit 37 = .ok (.aload_n 0, 1) := by decide +kernel
theorem dX0_takesDigit_38 : decode cX0_takesDigit 38 = .ok (.getfield 27, 3) := by decide +kernel
theorem dX0_takesDigit_41 : decode cX0_takesDigit 41 = .ok (.bipush 10, 2) := by decide +kernel
theorem dX0_takesDigit_43 : decode cX0_takesDigit 43 = .ok (.imul, 1) := by decide +kernel
theorem dX0_takesDigit_44 : decode cX0_takesDigit 44 = .ok (.iload_n 1, 1) := by decide +kernel
theorem dX0_takesDigit_45 : decode cX0_takesDigit 45 = .ok (.iadd, 1) := by decide +kernel
theorem dX0_takesDigit_46 : decode cX0_takesDigit 46 = .ok (.istore_n 2, 1) := by decide +kernel
theorem dX0_takesDigit_47 : decode cX0_takesDigit 47 = .ok (.aload_n 0, 1) := by decide +kernel
theorem dX0_takesDigit_48 : decode cX0_takesDigit 48 = .ok (.getfield 24, 3) := by decide +kernel
theorem dX0_takesDigit_51 : decode cX0_takesDigit 51 = .ok (.ifCond .lt 26, 3) := by decide +kernel
theorem dX0_takesDigit_54 : decode cX0_takesDigit 54 = .ok (.aload_n 0, 1) := by decide +kernel
theorem dX0_takesDigit_55 : decode cX0_takesDigit 55 = .ok (.getfield 24, 3) := by decide +kernel
theorem dX0_takesDigit_58 : decode cX0_takesDigit 58 = .ok (.getstatic 60, 3) := by decide +kernel
theorem dX0_takesDigit_61 : decode cX0_takesDigit 61 = .ok (.arraylength, 1) := by decide +kernel
theorem dX0_takesDigit_62 : decode cX0_takesDigit 62 = .ok (.if_icmp .ge 15, 3) := by decide +kernel
theorem dX0_takesDigit_65 : decode cX0_takesDigit 65 = .ok (.iload_n 2, 1) := by decide +kernel
theorem dX0_takesDigit_66 : decode cX0_takesDigit 66 = .ok (.getstatic 60, 3) := by decide +kernel
theorem dX0_takesDigit_69 : decode cX0_takesDigit 69 = .ok (.aload_n 0, 1) := by decide +kernel
theorem dX0_takesDigit_70 : decode cX0_takesDigit 70 = .ok (.getfield 24, 3) := by decide +kernel
theorem dX0_takesDigit_73 : decode cX0_takesDigit 73 = .ok (.iaload, 1) := by decide +kernel
theorem dX0_takesDigit_74 : decode cX0_takesDigit 74 = .ok (.if_icmp .le 5, 3) := by decide +kernel
theorem dX0_takesDigit_77 : decode cX0_takesDigit 77 = .ok (.iconst 0, 1) := by decide +kernel
theorem dX0_takesDigit_78 : decode cX0_takesDigit 78 = .ok (.ireturn, 1) := by decide +kernel
theorem dX0_takesDigit_79 : decode cX0_takesDigit 79 = .ok (.aload_n 0, 1) := by decide +kernel
theorem dX0_takesDigit_80 : decode cX0_takesDigit 80 = .ok (.iload_n 2, 1) := by decide +kernel
theorem dX0_takesDigit_81 : decode cX0_takesDigit 81 = .ok (.putfield 27, 3) := by decide +kernel
theorem dX0_takesDigit_84 : decode cX0_takesDigit 84 = .ok (.aload_n 0, 1) := by decide +kernel
theorem dX0_takesDigit_85 : decode cX0_takesDigit 85 = .ok (.dup, 1) := by decide +kernel
theorem dX0_takesDigit_86 : decode cX0_takesDigit 86 = .ok (.getfield 30, 3) := by decide +kernel
theorem dX0_takesDigit_89 : decode cX0_takesDigit 89 = .ok (.iconst 1, 1) := by decide +kernel
theorem dX0_takesDigit_90 : decode cX0_takesDigit 90 = .ok (.iadd, 1) := by decide +kernel
theorem dX0_takesDigit_91 : decode cX0_takesDigit 91 = .ok (.putfield 30, 3) := by decide +kernel
theorem dX0_takesDigit_94 : decode cX0_takesDigit 94 = .ok (.iconst 1, 1) := by decide +kernel
theorem dX0_takesDigit_95 : decode cX0_takesDigit 95 = .ok (.ireturn, 1) := by decide +kernel
set_option maxRecDepth 20000 in
theorem ggX0_endNumber_X0_putNumber : GoodIn wsX0_endNumber wsX0_putNumber := goodIn_r _ [8, 9, 10, 15, 16, 17, 18, 19, 20, 21] (by decide +kernel) (by decide +kernel)
set_option maxRecDepth 20000 in
theorem gX0_endNumber_X0_putNumber : GoodIn wsX0_endNumber (wsV RX0 63 RX0 yX0_putNumber wsX0_putNumber) := goodIn_app (goodIn_of _ (by decide +kernel)) ggX0_endNumber_X0_putNumber
set_option maxRecDepth 20000 in
theorem ggX0_endNumber_X0_expectNumber : GoodIn wsX0_endNumber wsX0_expectNumber := goodIn_r _ [14, 2, 3, 1, 15, 16, 17, 18, 19, 20, 21] (by decide +kernel) (by decide +kernel)
set_option maxRecDepth 20000 in
theorem gX0_endNumber_X0_expectNumber : GoodIn wsX0_endNumber (wsV RX0 41 RX0 yX0_expectNumber wsX0_expectNumber) := goodIn_app (goodIn_of _ (by decide +kernel)) ggX0_endNumber_X0_expectNumber
theorem dX0_endNumber_0 : decode cX0_endNumber 0 = .ok (.aload_n 0, 1) := by decide +kernel
theorem dX0_endNumber_1 : decode cX0_endNumber 1 = .ok (.getfield 30, 3) := by decide +kernel
theorem dX0_endNumber_4 : decode cX0_endNumber 4 = .ok (.ifCond .ne 5, 3) := by decide +kernel
theorem dX0_endNumber_7 : decode cX0_endNumber 7 = .ok (.iconst 0, 1) := by decide +kernel
theorem dX0_endNumber_8 : decode cX0_endNumber 8 = .ok (.ireturn, 1) := by decide +kernel
theorem dX0_endNumber_9 : decode cX0_endNumber 9 = .ok (.aload_n 0, 1) := by decide +kernel
theorem dX0_endNumber_10 : decode cX0_endNumber 10 = .ok (.aload_n 0, 1) := by decide +kernel
theorem dX0_endNumber_11 : decode cX0_endNumber 11 = .ok (.getfield 24, 3) := by decide +kernel
theorem dX0_endNumber_14 : decode cX0_endNumber 14 = .ok (.aload_n 0, 1) := by decide +kernel
theorem dX0_endNumber_15 : decode cX0_endNumber 15 = .ok (.getfield 27, 3) := by decide +kernel
theorem dX0_endNumber_18 : decode cX0_endNumber 18 = .ok (.invokevirtual 63, 3) := by decide +kernel
theorem dX0_endNumber_21 : decode cX0_endNumber 21 = .ok (.aload_n 0, 1) := by decide +kernel
theorem dX0_endNumber_22 : decode cX0_endNumber 22 = .ok (.iload_n 1, 1) := by decide +kernel
theorem dX0_endNumber_23 : decode cX0_endNumber 23 = .ok (.invokevirtual 41, 3) := by decide +kernel
theorem dX0_endNumber_26 : decode cX0_endNumber 26 = .ok (.iconst 1, 1) := by decide +kernel
theorem dX0_endNumber_27 : decode cX0_endNumber 27 = .ok (.ireturn, 1) := by decide +kernel
set_option maxRecDepth 20000 in
theorem ggX0_endPart_X0_endNumber : GoodIn wsX0_endPart wsX0_endNumber := goodIn_r _ [7, 8, 1, 9, 10, 11, 12, 6, 13, 2, 14, 15, 16, 17, 18, 19, 20, 21, 22, 23, 24, 25] (by decide +kernel) (by decide +kernel)
set_option maxRecDepth 20000 in
theorem gX0_endPart_X0_endNumber : GoodIn wsX0_endPart (wsV RX0 53 RX0 yX0_endNumber wsX0_endNumber) := goodIn_app (goodIn_of _ (by decide +kernel)) ggX0_endPart_X0_endNumber
set_option maxRecDepth 20000 in
theorem ggX0_endPart_X0_putNumber : GoodIn wsX0_endPart wsX0_putNumber := goodIn_r _ [13, 2, 14, 19, 20, 21, 22, 23, 24, 25] (by decide +kernel) (by decide +kernel)
set_option maxRecDepth 20000 in
theorem gX0_endPart_X0_putNumber : GoodIn wsX0_endPart (wsV RX0 63 RX0 yX0_putNumber wsX0_putNumber) := goodIn_app (goodIn_of _ (by decide +kernel)) ggX0_endPart_X0_putNumber
theorem dX0_endPart_0 : decode cX0_endPart 0 = .ok (.aload_n 0, 1) := by decide +kernel
theorem dX0_endPart_1 : decode cX0_endPart 1 = .ok (.getfield 24, 3) := by decide +kernel
theorem dX0_endPart_4 : decode cX0_endPart 4 = .ok (.iconst 2, 1) := by decide +kernel
theorem dX0_endPart_5 : decode cX0_endPart 5 = .ok (.if_icmp .ne 7, 3) := by decide +kernel
theorem dX0_endPart_8 : decode cX0_endPart 8 = .ok (.iconst 1, 1) := by decide +kernel
theorem dX0_endPart_9 : decode cX0_endPart 9 = .ok (.goto 4, 3) := by decide +kernel
theorem dX0_endPart_12 : decode cX0_endPart 12 = .ok (.iconst 0, 1) := by decide +kernel
theorem dX0_endPart_13 : decode cX0_endPart 13 = .ok (.istore_n 1, 1) := by decide +kernel
theorem dX0_endPart_14 : decode cX0_endPart 14 = .ok (.aload_n 0, 1) := by decide +kernel
theorem dX0_endPart_15 : decode cX0_endPart 15 = .ok (.getfield 24, 3) := by decide +kernel
theorem dX0_endPart_18 : decode cX0_endPart 18 = .ok (.ifCond .eq 11, 3) := by decide +kernel
theorem dX0_endPart_21 : decode cX0_endPart 21 = .ok (.aload_n 0, 1) := by decide +kernel
theorem dX0_endPart_22 : decode cX0_endPart 22 = .ok (.iconst 0, 1) := by decide +kernel
theorem dX0_endPart_23 : decode cX0_endPart 23 = .ok (.invokevirtual 53, 3) := by decide +kernel
theorem dX0_endPart_26 : decode cX0_endPart 26 = .ok (.ifCond .ne 5, 3) := by decide +kernel
theorem dX0_endPart_29 : decode cX0_endPart 29 = .ok (.iconst 0, 1) := by decide +kernel
theorem dX0_endPart_30 : decode cX0_endPart 30 = .ok (.ireturn, 1) := by decide +kernel
theorem dX0_endPart_31 : decode cX0_endPart 31 = .ok (.iload_n 1, 1) := by decide +kernel
theorem dX0_endPart_32 : decode cX0_endPart 32 = .ok (.ifCond .ne 9, 3) := by decide +kernel
theorem dX0_endPart_35 : decode cX0_endPart 35 = .ok (.aload_n 0, 1) := by decide +kernel
theorem dX0_endPart_36 : decode cX0_endPart 36 = .ok (.iconst 2, 1) := by decide +kernel
theorem dX0_endPart_37 : decode cX0_endPart 37 = .ok (.iconst 1, 1) := by decide +kernel
theorem dX0_endPart_38 : decode cX0_endPart 38 = .ok (.invokevirtual 63, 3) := by decide +kernel
theorem dX0_endPart_41 : decode cX0_endPart 41 = .ok (.aload_n 0, 1) := by decide +kernel
theorem dX0_endPart_42 : decode cX0_endPart 42 = .ok (.dup, 1) := by decide +kernel
theorem dX0_endPart_43 : decode cX0_endPart 43 = .ok (.getfield 21, 3) := by decide +kernel
theorem dX0_endPart_46 : decode cX0_endPart 46 = .ok (.iconst 1, 1) := by decide +kernel
theorem dX0_endPart_47 : decode cX0_endPart 47 = .ok (.iadd, 1) := by decide +kernel
theorem dX0_endPart_48 : decode cX0_endPart 48 = .ok (.putfield 21, 3) := by decide +kernel
theorem dX0_endPart_51 : decode cX0_endPart 51 = .ok (.iconst 1, 1) := by decide +kernel
theorem dX0_endPart_52 : decode cX0_endPart 52 = .ok (.ireturn, 1) := by decide +kernel
theorem dX0_putNumber_0 : decode cX0_putNumber 0 = .ok (.aload_n 0, 1) := by decide +kernel
theorem dX0_putNumber_1 : decode cX0_putNumber 1 = .ok (.getfield 21, 3) := by decide +kernel
theorem dX0_putNumber_4 : decode cX0_putNumber 4 = .ok (.iconst 3, 1) := by decide +kernel
theorem dX0_putNumber_5 : decode cX0_putNumber 5 = .ok (.imul, 1) := by decide +kernel
theorem dX0_putNumber_6 : decode cX0_putNumber 6 = .ok (.iload_n 1, 1) := by decide +kernel
theorem dX0_putNumber_7 : decode cX0_putNumber 7 = .ok (.iadd, 1) := by decide +kernel
theorem dX0_putNumber_8 : decode cX0_putNumber 8 = .ok (.istore_n 3, 1) := by decide +kernel
theorem dX0_putNumber_9 : decode cX0_putNumber 9 = .ok (.iload_n 3, 1) := by decide +kernel
theorem dX0_putNumber_10 : decode cX0_putNumber 10 = .ok (.ifCond .lt 19, 3) := by decide +kernel
theorem dX0_putNumber_13 : decode cX0_putNumber 13 = .ok (.iload_n 3, 1) := by decide +kernel
theorem dX0_putNumber_14 : decode cX0_putNumber 14 = .ok (.aload_n 0, 1) := by decide +kernel
theorem dX0_putNumber_15 : decode cX0_putNumber 15 = .ok (.getfield 17, 3) := by decide +kernel
theorem dX0_putNumber_18 : decode cX0_putNumber 18 = .ok (.arraylength, 1) := by decide +kernel
theorem dX0_putNumber_19 : decode cX0_putNumber 19 = .ok (.if_icmp .ge 10, 3) := by decide +kernel
theorem dX0_putNumber_22 : decode cX0_putNumber 22 = .ok (.aload_n 0, 1) := by decide +kernel
theorem dX0_putNumber_23 : decode cX0_putNumber 23 = .ok (.getfield 17, 3) := by decide +kernel
theorem dX0_putNumber_26 : decode cX0_putNumber 26 = .ok (.iload_n 3, 1) := by decide +kernel
theorem dX0_putNumber_27 : decode cX0_putNumber 27 = .ok (.iload_n 2, 1) := by decide +kernel
theorem dX0_putNumber_28 : decode cX0_putNumber 28 = .ok (.iastore, 1) := by decide +kernel
theorem dX0_putNumber_29 : decode cX0_putNumber 29 = .ok (.return_, 1) := by decide +kernel
theorem dX0_numberOf_0 : decode cX0_numberOf 0 = .ok (.iload_n 1, 1) := by decide +kernel
theorem dX0_numberOf_1 : decode cX0_numberOf 1 = .ok (.iconst 3, 1) := by decide +kernel
theorem dX0_numberOf_2 : decode cX0_numberOf 2 = .ok (.imul, 1) := by decide +kernel
theorem dX0_numberOf_3 : decode cX0_numberOf 3 = .ok (.iload_n 2, 1) := by decide +kernel
theorem dX0_numberOf_4 : decode cX0_numberOf 4 = .ok (.iadd, 1) := by decide +kernel
theorem dX0_numberOf_5 : decode cX0_numberOf 5 = .ok (.istore_n 3, 1) := by decide +kernel
theorem dX0_numberOf_6 : decode cX0_numberOf 6 = .ok (.iload_n 3, 1) := by decide +kernel
theorem dX0_numberOf_7 : decode cX0_numberOf 7 = .ok (.ifCond .lt 21, 3) := by decide +kernel
theorem dX0_numberOf_10 : decode cX0_numberOf 10 = .ok (.iload_n 3, 1) := by decide +kernel
theorem dX0_numberOf_11 : decode cX0_numberOf 11 = .ok (.aload_n 0, 1) := by decide +kernel
theorem dX0_numberOf_12 : decode cX0_numberOf 12 = .ok (.getfield 17, 3) := by decide +kernel
theorem dX0_numberOf_15 : decode cX0_numberOf 15 = .ok (.arraylength, 1) := by decide +kernel
theorem dX0_numberOf_16 : decode cX0_numberOf 16 = .ok (.if_icmp .ge 12, 3) := by decide +kernel
theorem dX0_numberOf_19 : decode cX0_numberOf 19 = .ok (.aload_n 0, 1) := by decide +kernel
theorem dX0_numberOf_20 : decode cX0_numberOf 20 = .ok (.getfield 17, 3) := by decide +kernel
theorem dX0_numberOf_23 : decode cX0_numberOf 23 = .ok (.iload_n 3, 1) := by decide +kernel
theorem dX0_numberOf_24 : decode cX0_numberOf 24 = .ok (.iaload, 1) := by decide +kernel
theorem dX0_numberOf_25 : decode cX0_numberOf 25 = .ok (.goto 4, 3) := by decide +kernel
theorem dX0_numberOf_28 : decode cX0_numberOf 28 = .ok (.iconst 0, 1) := by decide +kernel
theorem dX0_numberOf_29 : decode cX0_numberOf 29 = .ok (.ireturn, 1) := by decide +kernel
set_option maxRecDepth 20000 in
theorem ggX1_init_X4_init : GoodIn wsX1_init wsX4_init := goodIn_r _ [12, 13, 2, 3, 14, 15, 16, 17, 18, 19, 20, 21, 22, 23, 24, 25, 26, 27, 28, 29, 30, 31, 32, 33, 34, 35, 36, 37, 38, 39, 40, 41, 42, 43, 44, 45, 46, 47, 48, 49, 64, 53, 54, 55, 56, 57, 58, 59, 60, 61, 62, 63, 65, 66, 67] (by decide +kernel) (by decide +kernel)
set_option maxRecDepth 20000 in
theorem gX1_init_X4_init : GoodIn wsX1_init (wsX4_init) := ggX1_init_X4_init
theorem dX1_init_0 : decode cX1_init 0 = .ok (.aload_n 0, 1) := by decide +kernel
theorem dX1_init_1 : decode cX1_init 1 = .ok (.invokespecial 1, 3) := by decide +kernel
theorem dX1_init_4 : decode cX1_init 4 = .ok (.aload_n 0, 1) := by decide +kernel
theorem dX1_init_5 : decode cX1_init 5 = .ok (.iconst 4, 1) := by decide +kernel
theorem dX1_init_6 : decode cX1_init 6 = .ok (.anewarray 9, 3) := by decide +kernel
theorem dX1_init_9 : decode cX1_init 9 = .ok (.putfield 11, 3) := by decide +kernel
theorem dX1_init_12 : decode cX1_init 12 = .ok (.aload_n 0, 1) := by decide +kernel
theorem dX1_init_13 : decode cX1_init 13 = .ok (.iconst 0, 1) := by decide +kernel
theorem dX1_init_14 : decode cX1_init 14 = .ok (.putfield 15, 3) := by decide +kernel
theorem dX1_init_17 : decode cX1_init 17 = .ok (.aload_n 0, 1) := by decide +kernel
theorem dX1_init_18 : decode cX1_init 18 = .ok (.iconst 0, 1) := by decide +kernel
theorem dX1_init_19 : decode cX1_init 19 = .ok (.putfield 19, 3) := by decide +kernel
theorem dX1_init_22 : decode cX1_init 22 = .ok (.iconst 0, 1) := by decide +kernel
theorem dX1_init_23 : decode cX1_init 23 = .ok (.istore_n 1, 1) := by decide +kernel
theorem dX1_init_24 : decode cX1_init 24 = .ok (.iload_n 1, 1) := by decide +kernel
theorem dX1_init_25 : decode cX1_init 25 = .ok (.aload_n 0, 1) := by decide +kernel
theorem dX1_init_26 : decode cX1_init 26 = .ok (.getfield 11, 3) := by decide +kernel
theorem dX1_init_29 : decode cX1_init 29 = .ok (.arraylength, 1) := by decide +kernel
theorem dX1_init_30 : decode cX1_init 30 = .ok (.if_icmp .ge 22, 3) := by decide +kernel
theorem dX1_init_33 : decode cX1_init 33 = .ok (.aload_n 0, 1) := by decide +kernel
theorem dX1_init_34 : decode cX1_init 34 = .ok (.getfield 11, 3) := by decide +kernel
theorem dX1_init_37 : decode cX1_init 37 = .ok (.iload_n 1, 1) := by decide +kernel
theorem dX1_init_38 : decode cX1_init 38 = .ok (.new 9, 3) := by decide +kernel
theorem dX1_init_41 : decode cX1_init 41 = .ok (.dup, 1) := by decide +kernel
theorem dX1_init_42 : decode cX1_init 42 = .ok (.invokespecial 22, 3) := by decide +kernel
theorem dX1_init_45 : decode cX1_init 45 = .ok (.aastore, 1) := by decide +kernel
theorem dX1_init_46 : decode cX1_init 46 = .ok (.iinc 1 1, 3) := by decide +kernel
theorem dX1_init_49 : decode cX1_init 49 = .ok (.goto (-25), 3) := by decide +kernel
theorem dX1_init_52 : decode cX1_init 52 = .ok (.return_, 1) := by decide +kernel
theorem dX1_size_0 : decode cX1_size 0 = .ok (.aload_n 0, 1) := by decide +kernel
theorem dX1_size_1 : decode cX1_size 1 = .ok (.getfield 19, 3) := by decide +kernel
theorem dX1_size_4 : decode cX1_size 4 = .ok (.ireturn, 1) := by decide +kernel
set_option maxRecDepth 20000 in
theorem ggX1_record_X1_rowAt : GoodIn wsX1_record wsX1_rowAt := goodIn_r _ [11, 12, 49, 50, 51] (by decide +kernel) (by decide +kernel)
set_option maxRecDepth 20000 in
theorem gX1_record_X1_rowAt : GoodIn wsX1_record (wsV RX1 23 RX1 yX1_rowAt wsX1_rowAt) := goodIn_app (goodIn_of _ (by decide +kernel)) ggX1_record_X1_rowAt
set_option maxRecDepth 20000 in
theorem ggX1_record_X4_copyFrom : GoodIn wsX1_record wsX4_copyFrom := goodIn_r _ [17, 18, 19, 20, 21, 22, 23, 24, 25, 26, 27, 28, 29, 30, 31, 32, 33, 34, 35, 36, 37, 38, 39, 40, 41, 42, 43, 44, 45, 46, 47, 48, 52, 53, 54, 55, 56, 57, 58, 59, 60, 61, 62, 63, 64, 65, 66] (by decide +kernel) (by decide +kernel)
set_option maxRecDepth 20000 in
theorem gX1_record_X4_copyFrom : GoodIn wsX1_record (wsV RX1 27 RX4 yX4_copyFrom wsX4_copyFrom) := goodIn_app (goodIn_of _ (by decide +kernel)) ggX1_record_X4_copyFrom
theorem dX1_record_0 : decode cX1_record 0 = .ok (.aload_n 0, 1) := by decide +kernel
theorem dX1_record_1 : decode cX1_record 1 = .ok (.aload_n 0, 1) := by decide +kernel
theorem dX1_record_2 : decode cX1_record 2 = .ok (.getfield 15, 3) := by decide +kernel
theorem dX1_record_5 : decode cX1_record 5 = .ok (.invokevirtual 23, 3) := by decide +kernel
theorem dX1_record_8 : decode cX1_record 8 = .ok (.astore_n 2, 1) := by decide +kernel
theorem dX1_record_9 : decode cX1_record 9 = .ok (.aload_n 2, 1) := by decide +kernel
theorem dX1_record_10 : decode cX1_record 10 = .ok (.ifnonnull 4, 3) := by decide +kernel
theorem dX1_record_13 : decode cX1_record 13 = .ok (.return_, 1) := by decide +kernel
theorem dX1_record_14 : decode cX1_record 14 = .ok (.aload_n 2, 1) := by decide +kernel
theorem dX1_record_15 : decode cX1_record 15 = .ok (.aload_n 1, 1) := by decide +kernel
theorem dX1_record_16 : decode cX1_record 16 = .ok (.invokevirtual 27, 3) := by decide +kernel
theorem dX1_record_19 : decode cX1_record 19 = .ok (.aload_n 0, 1) := by decide +kernel
theorem dX1_record_20 : decode cX1_record 20 = .ok (.aload_n 0, 1) := by decide +kernel
theorem dX1_record_21 : decode cX1_record 21 = .ok (.getfield 15, 3) := by decide +kernel
theorem dX1_record_24 : decode cX1_record 24 = .ok (.iconst 1, 1) := by decide +kernel
theorem dX1_record_25 : decode cX1_record 25 = .ok (.iadd, 1) := by decide +kernel
theorem dX1_record_26 : decode cX1_record 26 = .ok (.iconst 4, 1) := by decide +kernel
theorem dX1_record_27 : decode cX1_record 27 = .ok (.if_icmp .ge 12, 3) := by decide +kernel
theorem dX1_record_30 : decode cX1_record 30 = .ok (.aload_n 0, 1) := by decide +kernel
theorem dX1_record_31 : decode cX1_record 31 = .ok (.getfield 15, 3) := by decide +kernel
theorem dX1_record_34 : decode cX1_record 34 = .ok (.iconst 1, 1) := by decide +kernel
theorem dX1_record_35 : decode cX1_record 35 = .ok (.iadd, 1) := by decide +kernel
theorem dX1_record_36 : decode cX1_record 36 = .ok (.goto 4, 3) := by decide +kernel
theorem dX1_record_39 : decode cX1_record 39 = .ok (.iconst 0, 1) := by decide +kernel
theorem dX1_record_40 : decode cX1_record 40 = .ok (.putfield 15, 3) := by decide +kernel
theorem dX1_record_43 : decode cX1_record 43 = .ok (.aload_n 0, 1) := by decide +kernel
theorem dX1_record_44 : decode cX1_record 44 = .ok (.aload_n 0, 1) := by decide +kernel
theorem dX1_record_45 : decode cX1_record 45 = .ok (.getfield 19, 3) := by decide +kernel
theorem dX1_record_48 : decode cX1_record 48 = .ok (.iconst 1, 1) := by decide +kernel
theorem dX1_record_49 : decode cX1_record 49 = .ok (.iadd, 1) := by decide +kernel
end
section
theorem dX1_record_50 : decode cX1_record 50 = .ok (.iconst 4, 1) := by decide +kernel
theorem dX1_record_51 : decode cX1_record 51 = .ok (.invokestatic 31, 3) := by decide +kernel
theorem dX1_record_54 : decode cX1_record 54 = .ok (.putfield 19, 3) := by decide +kernel
theorem dX1_record_57 : decode cX1_record 57 = .ok (.return_, 1) := by decide +kernel
set_option maxRecDepth 20000 in
theorem ggX1_takeLatestInto_X1_rowAt : GoodIn wsX1_takeLatestInto wsX1_rowAt := goodIn_r _ [7, 8, 45, 46, 47] (by decide +kernel) (by decide +kernel)
set_option maxRecDepth 20000 in
theorem gX1_takeLatestInto_X1_rowAt : GoodIn wsX1_takeLatestInto (wsV RX1 23 RX1 yX1_rowAt wsX1_rowAt) := goodIn_app (goodIn_of _ (by decide +kernel)) ggX1_takeLatestInto_X1_rowAt
set_option maxRecDepth 20000 in
theorem ggX1_takeLatestInto_X4_copyFrom : GoodIn wsX1_takeLatestInto wsX4_copyFrom := goodIn_r _ [13, 14, 15, 16, 17, 18, 19, 20, 21, 22, 23, 24, 25, 26, 27, 28, 29, 30, 31, 32, 33, 34, 35, 36, 37, 38, 39, 40, 41, 42, 43, 44, 48, 49, 50, 51, 52, 53, 54, 55, 56, 57, 58, 59, 60, 61, 62] (by decide +kernel) (by decide +kernel)
set_option maxRecDepth 20000 in
theorem gX1_takeLatestInto_X4_copyFrom : GoodIn wsX1_takeLatestInto (wsV RX1 27 RX4 yX4_copyFrom wsX4_copyFrom) := goodIn_app (goodIn_of _ (by decide +kernel)) ggX1_takeLatestInto_X4_copyFrom
theorem dX1_takeLatestInto_0 : decode cX1_takeLatestInto 0 = .ok (.aload_n 0, 1) := by decide +kernel
theorem dX1_takeLatestInto_1 : decode cX1_takeLatestInto 1 = .ok (.getfield 15, 3) := by decide +kernel
theorem dX1_takeLatestInto_4 : decode cX1_takeLatestInto 4 = .ok (.ifCond .le 12, 3) := by decide +kernel
theorem dX1_takeLatestInto_7 : decode cX1_takeLatestInto 7 = .ok (.aload_n 0, 1) := by decide +kernel
theorem dX1_takeLatestInto_8 : decode cX1_takeLatestInto 8 = .ok (.getfield 15, 3) := by decide +kernel
theorem dX1_takeLatestInto_11 : decode cX1_takeLatestInto 11 = .ok (.iconst 1, 1) := by decide +kernel
theorem dX1_takeLatestInto_12 : decode cX1_takeLatestInto 12 = .ok (.isub, 1) := by decide +kernel
theorem dX1_takeLatestInto_13 : decode cX1_takeLatestInto 13 = .ok (.goto 4, 3) := by decide +kernel
theorem dX1_takeLatestInto_16 : decode cX1_takeLatestInto 16 = .ok (.iconst 3, 1) := by decide +kernel
theorem dX1_takeLatestInto_17 : decode cX1_takeLatestInto 17 = .ok (.istore_n 2, 1) := by decide +kernel
theorem dX1_takeLatestInto_18 : decode cX1_takeLatestInto 18 = .ok (.aload_n 0, 1) := by decide +kernel
theorem dX1_takeLatestInto_19 : decode cX1_takeLatestInto 19 = .ok (.iload_n 2, 1) := by decide +kernel
theorem dX1_takeLatestInto_20 : decode cX1_takeLatestInto 20 = .ok (.invokevirtual 23, 3) := by decide +kernel
theorem dX1_takeLatestInto_23 : decode cX1_takeLatestInto 23 = .ok (.astore_n 3, 1) := by decide +kernel
theorem dX1_takeLatestInto_24 : decode cX1_takeLatestInto 24 = .ok (.aload_n 0, 1) := by decide +kernel
theorem dX1_takeLatestInto_25 : decode cX1_takeLatestInto 25 = .ok (.getfield 19, 3) := by decide +kernel
theorem dX1_takeLatestInto_28 : decode cX1_takeLatestInto 28 = .ok (.ifCond .eq 7, 3) := by decide +kernel
theorem dX1_takeLatestInto_31 : decode cX1_takeLatestInto 31 = .ok (.aload_n 3, 1) := by decide +kernel
theorem dX1_takeLatestInto_32 : decode cX1_takeLatestInto 32 = .ok (.ifnonnull 5, 3) := by decide +kernel
theorem dX1_takeLatestInto_35 : decode cX1_takeLatestInto 35 = .ok (.iconst 0, 1) := by decide +kernel
theorem dX1_takeLatestInto_36 : decode cX1_takeLatestInto 36 = .ok (.ireturn, 1) := by decide +kernel
theorem dX1_takeLatestInto_37 : decode cX1_takeLatestInto 37 = .ok (.aload_n 1, 1) := by decide +kernel
theorem dX1_takeLatestInto_38 : decode cX1_takeLatestInto 38 = .ok (.aload_n 3, 1) := by decide +kernel
theorem dX1_takeLatestInto_39 : decode cX1_takeLatestInto 39 = .ok (.invokevirtual 27, 3) := by decide +kernel
theorem dX1_takeLatestInto_42 : decode cX1_takeLatestInto 42 = .ok (.aload_n 0, 1) := by decide +kernel
theorem dX1_takeLatestInto_43 : decode cX1_takeLatestInto 43 = .ok (.iload_n 2, 1) := by decide +kernel
theorem dX1_takeLatestInto_44 : decode cX1_takeLatestInto 44 = .ok (.putfield 15, 3) := by decide +kernel
theorem dX1_takeLatestInto_47 : decode cX1_takeLatestInto 47 = .ok (.aload_n 0, 1) := by decide +kernel
theorem dX1_takeLatestInto_48 : decode cX1_takeLatestInto 48 = .ok (.dup, 1) := by decide +kernel
theorem dX1_takeLatestInto_49 : decode cX1_takeLatestInto 49 = .ok (.getfield 19, 3) := by decide +kernel
theorem dX1_takeLatestInto_52 : decode cX1_takeLatestInto 52 = .ok (.iconst 1, 1) := by decide +kernel
theorem dX1_takeLatestInto_53 : decode cX1_takeLatestInto 53 = .ok (.isub, 1) := by decide +kernel
theorem dX1_takeLatestInto_54 : decode cX1_takeLatestInto 54 = .ok (.putfield 19, 3) := by decide +kernel
theorem dX1_takeLatestInto_57 : decode cX1_takeLatestInto 57 = .ok (.iconst 1, 1) := by decide +kernel
theorem dX1_takeLatestInto_58 : decode cX1_takeLatestInto 58 = .ok (.ireturn, 1) := by decide +kernel
theorem dX1_rowAt_0 : decode cX1_rowAt 0 = .ok (.iload_n 1, 1) := by decide +kernel
theorem dX1_rowAt_1 : decode cX1_rowAt 1 = .ok (.ifCond .lt 21, 3) := by decide +kernel
theorem dX1_rowAt_4 : decode cX1_rowAt 4 = .ok (.iload_n 1, 1) := by decide +kernel
theorem dX1_rowAt_5 : decode cX1_rowAt 5 = .ok (.aload_n 0, 1) := by decide +kernel
theorem dX1_rowAt_6 : decode cX1_rowAt 6 = .ok (.getfield 11, 3) := by decide +kernel
theorem dX1_rowAt_9 : decode cX1_rowAt 9 = .ok (.arraylength, 1) := by decide +kernel
theorem dX1_rowAt_10 : decode cX1_rowAt 10 = .ok (.if_icmp .ge 12, 3) := by decide +kernel
theorem dX1_rowAt_13 : decode cX1_rowAt 13 = .ok (.aload_n 0, 1) := by decide +kernel
theorem dX1_rowAt_14 : decode cX1_rowAt 14 = .ok (.getfield 11, 3) := by decide +kernel
theorem dX1_rowAt_17 : decode cX1_rowAt 17 = .ok (.iload_n 1, 1) := by decide +kernel
theorem dX1_rowAt_18 : decode cX1_rowAt 18 = .ok (.aaload, 1) := by decide +kernel
theorem dX1_rowAt_19 : decode cX1_rowAt 19 = .ok (.goto 4, 3) := by decide +kernel
theorem dX1_rowAt_22 : decode cX1_rowAt 22 = .ok (.aconst_null, 1) := by decide +kernel
theorem dX1_rowAt_23 : decode cX1_rowAt 23 = .ok (.areturn, 1) := by decide +kernel
theorem dX2_init_0 : decode cX2_init 0 = .ok (.aload_n 0, 1) := by decide +kernel
theorem dX2_init_1 : decode cX2_init 1 = .ok (.invokespecial 3, 3) := by decide +kernel
theorem dX2_init_4 : decode cX2_init 4 = .ok (.aload_n 0, 1) := by decide +kernel
theorem dX2_init_5 : decode cX2_init 5 = .ok (.bipush 50, 2) := by decide +kernel
theorem dX2_init_7 : decode cX2_init 7 = .ok (.newarray .int, 2) := by decide +kernel
theorem dX2_init_9 : decode cX2_init 9 = .ok (.putfield 11, 3) := by decide +kernel
theorem dX2_init_12 : decode cX2_init 12 = .ok (.aload_n 0, 1) := by decide +kernel
theorem dX2_init_13 : decode cX2_init 13 = .ok (.iconst 0, 1) := by decide +kernel
theorem dX2_init_14 : decode cX2_init 14 = .ok (.putfield 15, 3) := by decide +kernel
theorem dX2_init_17 : decode cX2_init 17 = .ok (.aload_n 0, 1) := by decide +kernel
theorem dX2_init_18 : decode cX2_init 18 = .ok (.iconst 0, 1) := by decide +kernel
theorem dX2_init_19 : decode cX2_init 19 = .ok (.putfield 19, 3) := by decide +kernel
theorem dX2_init_22 : decode cX2_init 22 = .ok (.return_, 1) := by decide +kernel
theorem dX2_add_0 : decode cX2_add 0 = .ok (.aload_n 0, 1) := by decide +kernel
theorem dX2_add_1 : decode cX2_add 1 = .ok (.getfield 15, 3) := by decide +kernel
theorem dX2_add_4 : decode cX2_add 4 = .ok (.iconst 5, 1) := by decide +kernel
theorem dX2_add_5 : decode cX2_add 5 = .ok (.imul, 1) := by decide +kernel
theorem dX2_add_6 : decode cX2_add 6 = .ok (.istore 6, 2) := by decide +kernel
theorem dX2_add_8 : decode cX2_add 8 = .ok (.iload 6, 2) := by decide +kernel
theorem dX2_add_10 : decode cX2_add 10 = .ok (.ifCond .lt 15, 3) := by decide +kernel
theorem dX2_add_13 : decode cX2_add 13 = .ok (.iload 6, 2) := by decide +kernel
theorem dX2_add_15 : decode cX2_add 15 = .ok (.iconst 5, 1) := by decide +kernel
theorem dX2_add_16 : decode cX2_add 16 = .ok (.iadd, 1) := by decide +kernel
theorem dX2_add_17 : decode cX2_add 17 = .ok (.aload_n 0, 1) := by decide +kernel
theorem dX2_add_18 : decode cX2_add 18 = .ok (.getfield 11, 3) := by decide +kernel
theorem dX2_add_21 : decode cX2_add 21 = .ok (.arraylength, 1) := by decide +kernel
theorem dX2_add_22 : decode cX2_add 22 = .ok (.if_icmp .le 4, 3) := by decide +kernel
theorem dX2_add_25 : decode cX2_add 25 = .ok (.return_, 1) := by decide +kernel
theorem dX2_add_26 : decode cX2_add 26 = .ok (.aload_n 0, 1) := by decide +kernel
theorem dX2_add_27 : decode cX2_add 27 = .ok (.getfield 11, 3) := by decide +kernel
theorem dX2_add_30 : decode cX2_add 30 = .ok (.iload 6, 2) := by decide +kernel
theorem dX2_add_32 : decode cX2_add 32 = .ok (.iload_n 1, 1) := by decide +kernel
theorem dX2_add_33 : decode cX2_add 33 = .ok (.iastore, 1) := by decide +kernel
theorem dX2_add_34 : decode cX2_add 34 = .ok (.aload_n 0, 1) := by decide +kernel
theorem dX2_add_35 : decode cX2_add 35 = .ok (.getfield 11, 3) := by decide +kernel
theorem dX2_add_38 : decode cX2_add 38 = .ok (.iload 6, 2) := by decide +kernel
theorem dX2_add_40 : decode cX2_add 40 = .ok (.iconst 1, 1) := by decide +kernel
theorem dX2_add_41 : decode cX2_add 41 = .ok (.iadd, 1) := by decide +kernel
theorem dX2_add_42 : decode cX2_add 42 = .ok (.iload_n 2, 1) := by decide +kernel
theorem dX2_add_43 : decode cX2_add 43 = .ok (.iastore, 1) := by decide +kernel
theorem dX2_add_44 : decode cX2_add 44 = .ok (.aload_n 0, 1) := by decide +kernel
theorem dX2_add_45 : decode cX2_add 45 = .ok (.getfield 11, 3) := by decide +kernel
theorem dX2_add_48 : decode cX2_add 48 = .ok (.iload 6, 2) := by decide +kernel
theorem dX2_add_50 : decode cX2_add 50 = .ok (.iconst 2, 1) := by decide +kernel
theorem dX2_add_51 : decode cX2_add 51 = .ok (.iadd, 1) := by decide +kernel
theorem dX2_add_52 : decode cX2_add 52 = .ok (.iload_n 3, 1) := by decide +kernel
theorem dX2_add_53 : decode cX2_add 53 = .ok (.iastore, 1) := by decide +kernel
theorem dX2_add_54 : decode cX2_add 54 = .ok (.aload_n 0, 1) := by decide +kernel
theorem dX2_add_55 : decode cX2_add 55 = .ok (.getfield 11, 3) := by decide +kernel
theorem dX2_add_58 : decode cX2_add 58 = .ok (.iload 6, 2) := by decide +kernel
theorem dX2_add_60 : decode cX2_add 60 = .ok (.iconst 3, 1) := by decide +kernel
theorem dX2_add_61 : decode cX2_add 61 = .ok (.iadd, 1) := by decide +kernel
theorem dX2_add_62 : decode cX2_add 62 = .ok (.iload 4, 2) := by decide +kernel
theorem dX2_add_64 : decode cX2_add 64 = .ok (.iastore, 1) := by decide +kernel
theorem dX2_add_65 : decode cX2_add 65 = .ok (.aload_n 0, 1) := by decide +kernel
theorem dX2_add_66 : decode cX2_add 66 = .ok (.getfield 11, 3) := by decide +kernel
theorem dX2_add_69 : decode cX2_add 69 = .ok (.iload 6, 2) := by decide +kernel
theorem dX2_add_71 : decode cX2_add 71 = .ok (.iconst 4, 1) := by decide +kernel
theorem dX2_add_72 : decode cX2_add 72 = .ok (.iadd, 1) := by decide +kernel
theorem dX2_add_73 : decode cX2_add 73 = .ok (.iload 5, 2) := by decide +kernel
theorem dX2_add_75 : decode cX2_add 75 = .ok (.ifCond .eq 7, 3) := by decide +kernel
theorem dX2_add_78 : decode cX2_add 78 = .ok (.iconst 1, 1) := by decide +kernel
theorem dX2_add_79 : decode cX2_add 79 = .ok (.goto 4, 3) := by decide +kernel
theorem dX2_add_82 : decode cX2_add 82 = .ok (.iconst 0, 1) := by decide +kernel
theorem dX2_add_83 : decode cX2_add 83 = .ok (.iastore, 1) := by decide +kernel
theorem dX2_add_84 : decode cX2_add 84 = .ok (.aload_n 0, 1) := by decide +kernel
theorem dX2_add_85 : decode cX2_add 85 = .ok (.aload_n 0, 1) := by decide +kernel
theorem dX2_add_86 : decode cX2_add 86 = .ok (.getfield 15, 3) := by decide +kernel
theorem dX2_add_89 : decode cX2_add 89 = .ok (.iconst 1, 1) := by decide +kernel
theorem dX2_add_90 : decode cX2_add 90 = .ok (.iadd, 1) := by decide +kernel
theorem dX2_add_91 : decode cX2_add 91 = .ok (.bipush 10, 2) := by decide +kernel
theorem dX2_add_93 : decode cX2_add 93 = .ok (.if_icmp .ge 12, 3) := by decide +kernel
theorem dX2_add_96 : decode cX2_add 96 = .ok (.aload_n 0, 1) := by decide +kernel
theorem dX2_add_97 : decode cX2_add 97 = .ok (.getfield 15, 3) := by decide +kernel
theorem dX2_add_100 : decode cX2_add 100 = .ok (.iconst 1, 1) := by decide +kernel
theorem dX2_add_101 : decode cX2_add 101 = .ok (.iadd, 1) := by decide +kernel
theorem dX2_add_102 : decode cX2_add 102 = .ok (.goto 4, 3) := by decide +kernel
theorem dX2_add_105 : decode cX2_add 105 = .ok (.iconst 0, 1) := by decide +kernel
theorem dX2_add_106 : decode cX2_add 106 = .ok (.putfield 15, 3) := by decide +kernel
theorem dX2_add_109 : decode cX2_add 109 = .ok (.aload_n 0, 1) := by decide +kernel
theorem dX2_add_110 : decode cX2_add 110 = .ok (.aload_n 0, 1) := by decide +kernel
theorem dX2_add_111 : decode cX2_add 111 = .ok (.getfield 19, 3) := by decide +kernel
theorem dX2_add_114 : decode cX2_add 114 = .ok (.iconst 1, 1) := by decide +kernel
theorem dX2_add_115 : decode cX2_add 115 = .ok (.iadd, 1) := by decide +kernel
theorem dX2_add_116 : decode cX2_add 116 = .ok (.bipush 10, 2) := by decide +kernel
theorem dX2_add_118 : decode cX2_add 118 = .ok (.invokestatic 22, 3) := by decide +kernel
theorem dX2_add_121 : decode cX2_add 121 = .ok (.putfield 19, 3) := by decide +kernel
theorem dX2_add_124 : decode cX2_add 124 = .ok (.return_, 1) := by decide +kernel
theorem dX2_told_0 : decode cX2_told 0 = .ok (.iload_n 1, 1) := by decide +kernel
theorem dX2_told_1 : decode cX2_told 1 = .ok (.ifCond .lt 20, 3) := by decide +kernel
theorem dX2_told_4 : decode cX2_told 4 = .ok (.iload_n 1, 1) := by decide +kernel
theorem dX2_told_5 : decode cX2_told 5 = .ok (.aload_n 0, 1) := by decide +kernel
theorem dX2_told_6 : decode cX2_told 6 = .ok (.getfield 19, 3) := by decide +kernel
theorem dX2_told_9 : decode cX2_told 9 = .ok (.if_icmp .ge 12, 3) := by decide +kernel
theorem dX2_told_12 : decode cX2_told 12 = .ok (.iload_n 2, 1) := by decide +kernel
theorem dX2_told_13 : decode cX2_told 13 = .ok (.ifCond .lt 8, 3) := by decide +kernel
theorem dX2_told_16 : decode cX2_told 16 = .ok (.iload_n 2, 1) := by decide +kernel
theorem dX2_told_17 : decode cX2_told 17 = .ok (.iconst 5, 1) := by decide +kernel
theorem dX2_told_18 : decode cX2_told 18 = .ok (.if_icmp .lt 6, 3) := by decide +kernel
theorem dX2_told_21 : decode cX2_told 21 = .ok (.bipush (-5), 2) := by decide +kernel
theorem dX2_told_23 : decode cX2_told 23 = .ok (.ireturn, 1) := by decide +kernel
theorem dX2_told_24 : decode cX2_told 24 = .ok (.aload_n 0, 1) := by decide +kernel
theorem dX2_told_25 : decode cX2_told 25 = .ok (.getfield 15, 3) := by decide +kernel
theorem dX2_told_28 : decode cX2_told 28 = .ok (.iconst 1, 1) := by decide +kernel
theorem dX2_told_29 : decode cX2_told 29 = .ok (.isub, 1) := by decide +kernel
theorem dX2_told_30 : decode cX2_told 30 = .ok (.iload_n 1, 1) := by decide +kernel
theorem dX2_told_31 : decode cX2_told 31 = .ok (.isub, 1) := by decide +kernel
theorem dX2_told_32 : decode cX2_told 32 = .ok (.istore_n 3, 1) := by decide +kernel
theorem dX2_told_33 : decode cX2_told 33 = .ok (.iload_n 3, 1) := by decide +kernel
theorem dX2_told_34 : decode cX2_told 34 = .ok (.ifCond .ge 10, 3) := by decide +kernel
theorem dX2_told_37 : decode cX2_told 37 = .ok (.iload_n 3, 1) := by decide +kernel
theorem dX2_told_38 : decode cX2_told 38 = .ok (.bipush 10, 2) := by decide +kernel
theorem dX2_told_40 : decode cX2_told 40 = .ok (.iadd, 1) := by decide +kernel
theorem dX2_told_41 : decode cX2_told 41 = .ok (.goto 4, 3) := by decide +kernel
theorem dX2_told_44 : decode cX2_told 44 = .ok (.iload_n 3, 1) := by decide +kernel
theorem dX2_told_45 : decode cX2_told 45 = .ok (.iconst 5, 1) := by decide +kernel
theorem dX2_told_46 : decode cX2_told 46 = .ok (.imul, 1) := by decide +kernel
theorem dX2_told_47 : decode cX2_told 47 = .ok (.iload_n 2, 1) := by decide +kernel
theorem dX2_told_48 : decode cX2_told 48 = .ok (.iadd, 1) := by decide +kernel
theorem dX2_told_49 : decode cX2_told 49 = .ok (.istore 4, 2) := by decide +kernel
theorem dX2_told_51 : decode cX2_told 51 = .ok (.iload 4, 2) := by decide +kernel
theorem dX2_told_53 : decode cX2_told 53 = .ok (.ifCond .lt 23, 3) := by decide +kernel
theorem dX2_told_56 : decode cX2_told 56 = .ok (.iload 4, 2) := by decide +kernel
theorem dX2_told_58 : decode cX2_told 58 = .ok (.aload_n 0, 1) := by decide +kernel
theorem dX2_told_59 : decode cX2_told 59 = .ok (.getfield 11, 3) := by decide +kernel
theorem dX2_told_62 : decode cX2_told 62 = .ok (.arraylength, 1) := by decide +kernel
theorem dX2_told_63 : decode cX2_told 63 = .ok (.if_icmp .ge 13, 3) := by decide +kernel
theorem dX2_told_66 : decode cX2_told 66 = .ok (.aload_n 0, 1) := by decide +kernel
theorem dX2_told_67 : decode cX2_told 67 = .ok (.getfield 11, 3) := by decide +kernel
theorem dX2_told_70 : decode cX2_told 70 = .ok (.iload 4, 2) := by decide +kernel
theorem dX2_told_72 : decode cX2_told 72 = .ok (.iaload, 1) := by decide +kernel
theorem dX2_told_73 : decode cX2_told 73 = .ok (.goto 5, 3) := by decide +kernel
theorem dX2_told_76 : decode cX2_told 76 = .ok (.bipush (-5), 2) := by decide +kernel
theorem dX2_told_78 : decode cX2_told 78 = .ok (.ireturn, 1) := by decide +kernel
theorem dX2_copyFrom_0 : decode cX2_copyFrom 0 = .ok (.aload_n 1, 1) := by decide +kernel
theorem dX2_copyFrom_1 : decode cX2_copyFrom 1 = .ok (.getfield 11, 3) := by decide +kernel
theorem dX2_copyFrom_4 : decode cX2_copyFrom 4 = .ok (.iconst 0, 1) := by decide +kernel
theorem dX2_copyFrom_5 : decode cX2_copyFrom 5 = .ok (.aload_n 0, 1) := by decide +kernel
theorem dX2_copyFrom_6 : decode cX2_copyFrom 6 = .ok (.getfield 11, 3) := by decide +kernel
theorem dX2_copyFrom_9 : decode cX2_copyFrom 9 = .ok (.iconst 0, 1) := by decide +kernel
theorem dX2_copyFrom_10 : decode cX2_copyFrom 10 = .ok (.aload_n 0, 1) := by decide +kernel
theorem dX2_copyFrom_11 : decode cX2_copyFrom 11 = .ok (.getfield 11, 3) := by decide +kernel
theorem dX2_copyFrom_14 : decode cX2_copyFrom 14 = .ok (.arraylength, 1) := by decide +kernel
theorem dX2_copyFrom_15 : decode cX2_copyFrom 15 = .ok (.invokestatic 28, 3) := by decide +kernel
theorem dX2_copyFrom_18 : decode cX2_copyFrom 18 = .ok (.aload_n 0, 1) := by decide +kernel
theorem dX2_copyFrom_19 : decode cX2_copyFrom 19 = .ok (.aload_n 1, 1) := by decide +kernel
theorem dX2_copyFrom_20 : decode cX2_copyFrom 20 = .ok (.getfield 15, 3) := by decide +kernel
theorem dX2_copyFrom_23 : decode cX2_copyFrom 23 = .ok (.putfield 15, 3) := by decide +kernel
theorem dX2_copyFrom_26 : decode cX2_copyFrom 26 = .ok (.aload_n 0, 1) := by decide +kernel
theorem dX2_copyFrom_27 : decode cX2_copyFrom 27 = .ok (.aload_n 1, 1) := by decide +kernel
theorem dX2_copyFrom_28 : decode cX2_copyFrom 28 = .ok (.getfield 19, 3) := by decide +kernel
theorem dX2_copyFrom_31 : decode cX2_copyFrom 31 = .ok (.putfield 19, 3) := by decide +kernel
theorem dX2_copyFrom_34 : decode cX2_copyFrom 34 = .ok (.return_, 1) := by decide +kernel
theorem dX3_init_0 : decode cX3_init 0 = .ok (.aload_n 0, 1) := by decide +kernel
theorem dX3_init_1 : decode cX3_init 1 = .ok (.invokespecial 3, 3) := by decide +kernel
theorem dX3_init_4 : decode cX3_init 4 = .ok (.aload_n 0, 1) := by decide +kernel
theorem dX3_init_5 : decode cX3_init 5 = .ok (.getstatic 9, 3) := by decide +kernel
theorem dX3_init_8 : decode cX3_init 8 = .ok (.arraylength, 1) := by decide +kernel
theorem dX3_init_9 : decode cX3_init 9 = .ok (.newarray .float, 2) := by decide +kernel
theorem dX3_init_11 : decode cX3_init 11 = .ok (.putfield 15, 3) := by decide +kernel
theorem dX3_init_14 : decode cX3_init 14 = .ok (.iconst 0, 1) := by decide +kernel
theorem dX3_init_15 : decode cX3_init 15 = .ok (.istore_n 1, 1) := by decide +kernel
theorem dX3_init_16 : decode cX3_init 16 = .ok (.iload_n 1, 1) := by decide +kernel
theorem dX3_init_17 : decode cX3_init 17 = .ok (.aload_n 0, 1) := by decide +kernel
theorem dX3_init_18 : decode cX3_init 18 = .ok (.getfield 15, 3) := by decide +kernel
theorem dX3_init_21 : decode cX3_init 21 = .ok (.arraylength, 1) := by decide +kernel
theorem dX3_init_22 : decode cX3_init 22 = .ok (.if_icmp .ge 21, 3) := by decide +kernel
theorem dX3_init_25 : decode cX3_init 25 = .ok (.aload_n 0, 1) := by decide +kernel
theorem dX3_init_26 : decode cX3_init 26 = .ok (.getfield 15, 3) := by decide +kernel
theorem dX3_init_29 : decode cX3_init 29 = .ok (.iload_n 1, 1) := by decide +kernel
theorem dX3_init_30 : decode cX3_init 30 = .ok (.getstatic 9, 3) := by decide +kernel
theorem dX3_init_33 : decode cX3_init 33 = .ok (.iload_n 1, 1) := by decide +kernel
theorem dX3_init_34 : decode cX3_init 34 = .ok (.iaload, 1) := by decide +kernel
theorem dX3_init_35 : decode cX3_init 35 = .ok (.i2f, 1) := by decide +kernel
theorem dX3_init_36 : decode cX3_init 36 = .ok (.fastore, 1) := by decide +kernel
theorem dX3_init_37 : decode cX3_init 37 = .ok (.iinc 1 1, 3) := by decide +kernel
theorem dX3_init_40 : decode cX3_init 40 = .ok (.goto (-24), 3) := by decide +kernel
theorem dX3_init_43 : decode cX3_init 43 = .ok (.return_, 1) := by decide +kernel
theorem dX3_has_0 : decode cX3_has 0 = .ok (.iload_n 1, 1) := by decide +kernel
theorem dX3_has_1 : decode cX3_has 1 = .ok (.ifCond .lt 13, 3) := by decide +kernel
theorem dX3_has_4 : decode cX3_has 4 = .ok (.iload_n 1, 1) := by decide +kernel
theorem dX3_has_5 : decode cX3_has 5 = .ok (.iconst 3, 1) := by decide +kernel
theorem dX3_has_6 : decode cX3_has 6 = .ok (.if_icmp .gt 8, 3) := by decide +kernel
theorem dX3_has_9 : decode cX3_has 9 = .ok (.iload_n 0, 1) := by decide +kernel
theorem dX3_has_10 : decode cX3_has 10 = .ok (.iconst 1, 1) := by decide +kernel
theorem dX3_has_11 : decode cX3_has 11 = .ok (.if_icmp .ge 5, 3) := by decide +kernel
theorem dX3_has_14 : decode cX3_has 14 = .ok (.iconst 0, 1) := by decide +kernel
theorem dX3_has_15 : decode cX3_has 15 = .ok (.ireturn, 1) := by decide +kernel
theorem dX3_has_16 : decode cX3_has 16 = .ok (.iload_n 1, 1) := by decide +kernel
theorem dX3_has_17 : decode cX3_has 17 = .ok (.iconst 3, 1) := by decide +kernel
theorem dX3_has_18 : decode cX3_has 18 = .ok (.if_icmp .ne 16, 3) := by decide +kernel
theorem dX3_has_21 : decode cX3_has 21 = .ok (.iload_n 0, 1) := by decide +kernel
theorem dX3_has_22 : decode cX3_has 22 = .ok (.iconst 5, 1) := by decide +kernel
theorem dX3_has_23 : decode cX3_has 23 = .ok (.if_icmp .gt 7, 3) := by decide +kernel
theorem dX3_has_26 : decode cX3_has 26 = .ok (.iconst 1, 1) := by decide +kernel
theorem dX3_has_27 : decode cX3_has 27 = .ok (.goto 17, 3) := by decide +kernel
theorem dX3_has_30 : decode cX3_has 30 = .ok (.iconst 0, 1) := by decide +kernel
theorem dX3_has_31 : decode cX3_has 31 = .ok (.goto 13, 3) := by decide +kernel
theorem dX3_has_34 : decode cX3_has 34 = .ok (.iload_n 0, 1) := by decide +kernel
theorem dX3_has_35 : decode cX3_has 35 = .ok (.iconst 5, 1) := by decide +kernel
theorem dX3_has_36 : decode cX3_has 36 = .ok (.if_icmp .ge 7, 3) := by decide +kernel
theorem dX3_has_39 : decode cX3_has 39 = .ok (.iconst 1, 1) := by decide +kernel
theorem dX3_has_40 : decode cX3_has 40 = .ok (.goto 4, 3) := by decide +kernel
theorem dX3_has_43 : decode cX3_has 43 = .ok (.iconst 0, 1) := by decide +kernel
theorem dX3_has_44 : decode cX3_has 44 = .ok (.ireturn, 1) := by decide +kernel
theorem dX3_speed_0 : decode cX3_speed 0 = .ok (.iload_n 2, 1) := by decide +kernel
theorem dX3_speed_1 : decode cX3_speed 1 = .ok (.iconst 5, 1) := by decide +kernel
theorem dX3_speed_2 : decode cX3_speed 2 = .ok (.imul, 1) := by decide +kernel
theorem dX3_speed_3 : decode cX3_speed 3 = .ok (.iload_n 1, 1) := by decide +kernel
theorem dX3_speed_4 : decode cX3_speed 4 = .ok (.iadd, 1) := by decide +kernel
theorem dX3_speed_5 : decode cX3_speed 5 = .ok (.iconst 1, 1) := by decide +kernel
theorem dX3_speed_6 : decode cX3_speed 6 = .ok (.isub, 1) := by decide +kernel
theorem dX3_speed_7 : decode cX3_speed 7 = .ok (.istore_n 3, 1) := by decide +kernel
theorem dX3_speed_8 : decode cX3_speed 8 = .ok (.iload_n 3, 1) := by decide +kernel
theorem dX3_speed_9 : decode cX3_speed 9 = .ok (.ifCond .lt 21, 3) := by decide +kernel
theorem dX3_speed_12 : decode cX3_speed 12 = .ok (.iload_n 3, 1) := by decide +kernel
theorem dX3_speed_13 : decode cX3_speed 13 = .ok (.aload_n 0, 1) := by decide +kernel
theorem dX3_speed_14 : decode cX3_speed 14 = .ok (.getfield 15, 3) := by decide +kernel
theorem dX3_speed_17 : decode cX3_speed 17 = .ok (.arraylength, 1) := by decide +kernel
theorem dX3_speed_18 : decode cX3_speed 18 = .ok (.if_icmp .ge 12, 3) := by decide +kernel
theorem dX3_speed_21 : decode cX3_speed 21 = .ok (.aload_n 0, 1) := by decide +kernel
theorem dX3_speed_22 : decode cX3_speed 22 = .ok (.getfield 15, 3) := by decide +kernel
theorem dX3_speed_25 : decode cX3_speed 25 = .ok (.iload_n 3, 1) := by decide +kernel
theorem dX3_speed_26 : decode cX3_speed 26 = .ok (.faload, 1) := by decide +kernel
theorem dX3_speed_27 : decode cX3_speed 27 = .ok (.goto 4, 3) := by decide +kernel
theorem dX3_speed_30 : decode cX3_speed 30 = .ok (.fconst 0, 1) := by decide +kernel
theorem dX3_speed_31 : decode cX3_speed 31 = .ok (.freturn, 1) := by decide +kernel
set_option maxRecDepth 20000 in
theorem ggX3_put_X3_has : GoodIn wsX3_put wsX3_has := goodIn_r _ [5] (by decide +kernel) (by decide +kernel)
set_option maxRecDepth 20000 in
theorem gX3_put_X3_has : GoodIn wsX3_put (va_wsS RX3 19 yX3_has wsX3_has) := goodIn_app (goodIn_of _ (by decide +kernel)) ggX3_put_X3_has
theorem dX3_put_0 : decode cX3_put 0 = .ok (.iload_n 1, 1) := by decide +kernel
theorem dX3_put_1 : decode cX3_put 1 = .ok (.iload_n 2, 1) := by decide +kernel
theorem dX3_put_2 : decode cX3_put 2 = .ok (.invokestatic 19, 3) := by decide +kernel
theorem dX3_put_5 : decode cX3_put 5 = .ok (.ifCond .eq 16, 3) := by decide +kernel
theorem dX3_put_8 : decode cX3_put 8 = .ok (.aload_n 0, 1) := by decide +kernel
theorem dX3_put_9 : decode cX3_put 9 = .ok (.getfield 15, 3) := by decide +kernel
theorem dX3_put_12 : decode cX3_put 12 = .ok (.iload_n 2, 1) := by decide +kernel
theorem dX3_put_13 : decode cX3_put 13 = .ok (.iconst 5, 1) := by decide +kernel
theorem dX3_put_14 : decode cX3_put 14 = .ok (.imul, 1) := by decide +kernel
theorem dX3_put_15 : decode cX3_put 15 = .ok (.iload_n 1, 1) := by decide +kernel
theorem dX3_put_16 : decode cX3_put 16 = .ok (.iadd, 1) := by decide +kernel
theorem dX3_put_17 : decode cX3_put 17 = .ok (.iconst 1, 1) := by decide +kernel
theorem dX3_put_18 : decode cX3_put 18 = .ok (.isub, 1) := by decide +kernel
theorem dX3_put_19 : decode cX3_put 19 = .ok (.fload_n 3, 1) := by decide +kernel
theorem dX3_put_20 : decode cX3_put 20 = .ok (.fastore, 1) := by decide +kernel
theorem dX3_put_21 : decode cX3_put 21 = .ok (.return_, 1) := by decide +kernel
set_option maxRecDepth 20000 in
theorem ggX3_upFrom_X3_speed : GoodIn wsX3_upFrom wsX3_speed := goodIn_r _ [5, 6, 7] (by decide +kernel) (by decide +kernel)
set_option maxRecDepth 20000 in
theorem gX3_upFrom_X3_speed : GoodIn wsX3_upFrom (wsV RX3 23 RX3 yX3_speed wsX3_speed) := goodIn_app (goodIn_of _ (by decide +kernel)) ggX3_upFrom_X3_speed
theorem dX3_upFrom_0 : decode cX3_upFrom 0 = .ok (.aload_n 0, 1) := by decide +kernel
theorem dX3_upFrom_1 : decode cX3_upFrom 1 = .ok (.iload_n 1, 1) := by decide +kernel
theorem dX3_upFrom_2 : decode cX3_upFrom 2 = .ok (.iconst 0, 1) := by decide +kernel
theorem dX3_upFrom_3 : decode cX3_upFrom 3 = .ok (.invokevirtual 23, 3) := by decide +kernel
theorem dX3_upFrom_6 : decode cX3_upFrom 6 = .ok (.fstore_n 3, 1) := by decide +kernel
theorem dX3_upFrom_7 : decode cX3_upFrom 7 = .ok (.fload_n 3, 1) := by decide +kernel
theorem dX3_upFrom_8 : decode cX3_upFrom 8 = .ok (.aload_n 0, 1) := by decide +kernel
theorem dX3_upFrom_9 : decode cX3_upFrom 9 = .ok (.iload_n 1, 1) := by decide +kernel
theorem dX3_upFrom_10 : decode cX3_upFrom 10 = .ok (.iconst 1, 1) := by decide +kernel
theorem dX3_upFrom_11 : decode cX3_upFrom 11 = .ok (.invokevirtual 23, 3) := by decide +kernel
theorem dX3_upFrom_14 : decode cX3_upFrom 14 = .ok (.fload_n 3, 1) := by decide +kernel
theorem dX3_upFrom_15 : decode cX3_upFrom 15 = .ok (.fsub, 1) := by decide +kernel
theorem dX3_upFrom_16 : decode cX3_upFrom 16 = .ok (.fload_n 2, 1) := by decide +kernel
theorem dX3_upFrom_17 : decode cX3_upFrom 17 = .ok (.fmul, 1) := by decide +kernel
theorem dX3_upFrom_18 : decode cX3_upFrom 18 = .ok (.fadd, 1) := by decide +kernel
theorem dX3_upFrom_19 : decode cX3_upFrom 19 = .ok (.freturn, 1) := by decide +kernel
set_option maxRecDepth 20000 in
theorem ggX3_downTo_X3_upFrom : GoodIn wsX3_downTo wsX3_upFrom := goodIn_r _ [5, 6, 7, 8, 4, 9, 10, 11] (by decide +kernel) (by decide +kernel)
set_option maxRecDepth 20000 in
theorem gX3_downTo_X3_upFrom : GoodIn wsX3_downTo (wsV RX3 27 RX3 yX3_upFrom wsX3_upFrom) := goodIn_app (goodIn_of _ (by decide +kernel)) ggX3_downTo_X3_upFrom
set_option maxRecDepth 20000 in
theorem ggX3_downTo_X3_speed : GoodIn wsX3_downTo wsX3_speed := goodIn_r _ [9, 10, 11] (by decide +kernel) (by decide +kernel)
set_option maxRecDepth 20000 in
theorem gX3_downTo_X3_speed : GoodIn wsX3_downTo (wsV RX3 23 RX3 yX3_speed wsX3_speed) := goodIn_app (goodIn_of _ (by decide +kernel)) ggX3_downTo_X3_speed
theorem dX3_downTo_0 : decode cX3_downTo 0 = .ok (.aload_n 0, 1) := by decide +kernel
theorem dX3_downTo_1 : decode cX3_downTo 1 = .ok (.iload_n 1, 1) := by decide +kernel
theorem dX3_downTo_2 : decode cX3_downTo 2 = .ok (.fload_n 2, 1) := by decide +kernel
theorem dX3_downTo_3 : decode cX3_downTo 3 = .ok (.invokevirtual 27, 3) := by decide +kernel
theorem dX3_downTo_6 : decode cX3_downTo 6 = .ok (.aload_n 0, 1) := by decide +kernel
theorem dX3_downTo_7 : decode cX3_downTo 7 = .ok (.iload_n 1, 1) := by decide +kernel
theorem dX3_downTo_8 : decode cX3_downTo 8 = .ok (.iconst 2, 1) := by decide +kernel
theorem dX3_downTo_9 : decode cX3_downTo 9 = .ok (.invokevirtual 23, 3) := by decide +kernel
theorem dX3_downTo_12 : decode cX3_downTo 12 = .ok (.fsub, 1) := by decide +kernel
theorem dX3_downTo_13 : decode cX3_downTo 13 = .ok (.freturn, 1) := by decide +kernel
set_option maxRecDepth 20000 in
theorem ggX3_exceeds_X3_speed : GoodIn wsX3_exceeds wsX3_speed := goodIn_r _ [5, 6, 7] (by decide +kernel) (by decide +kernel)
set_option maxRecDepth 20000 in
theorem gX3_exceeds_X3_speed : GoodIn wsX3_exceeds (wsV RX3 23 RX3 yX3_speed wsX3_speed) := goodIn_app (goodIn_of _ (by decide +kernel)) ggX3_exceeds_X3_speed
theorem dX3_exceeds_0 : decode cX3_exceeds 0 = .ok (.fload_n 1, 1) := by decide +kernel
theorem dX3_exceeds_1 : decode cX3_exceeds 1 = .ok (.aload_n 0, 1) := by decide +kernel
theorem dX3_exceeds_2 : decode cX3_exceeds 2 = .ok (.iload_n 2, 1) := by decide +kernel
theorem dX3_exceeds_3 : decode cX3_exceeds 3 = .ok (.iconst 3, 1) := by decide +kernel
theorem dX3_exceeds_4 : decode cX3_exceeds 4 = .ok (.invokevirtual 23, 3) := by decide +kernel
theorem dX3_exceeds_7 : decode cX3_exceeds 7 = .ok (.fcmp .l, 1) := by decide +kernel
theorem dX3_exceeds_8 : decode cX3_exceeds 8 = .ok (.ifCond .le 7, 3) := by decide +kernel
theorem dX3_exceeds_11 : decode cX3_exceeds 11 = .ok (.iconst 1, 1) := by decide +kernel
theorem dX3_exceeds_12 : decode cX3_exceeds 12 = .ok (.goto 4, 3) := by decide +kernel
theorem dX3_exceeds_15 : decode cX3_exceeds 15 = .ok (.iconst 0, 1) := by decide +kernel
theorem dX3_exceeds_16 : decode cX3_exceeds 16 = .ok (.ireturn, 1) := by decide +kernel
theorem dX3_copyFrom_0 : decode cX3_copyFrom 0 = .ok (.aload_n 1, 1) := by decide +kernel
theorem dX3_copyFrom_1 : decode cX3_copyFrom 1 = .ok (.getfield 15, 3) := by decide +kernel
theorem dX3_copyFrom_4 : decode cX3_copyFrom 4 = .ok (.iconst 0, 1) := by decide +kernel
theorem dX3_copyFrom_5 : decode cX3_copyFrom 5 = .ok (.aload_n 0, 1) := by decide +kernel
theorem dX3_copyFrom_6 : decode cX3_copyFrom 6 = .ok (.getfield 15, 3) := by decide +kernel
theorem dX3_copyFrom_9 : decode cX3_copyFrom 9 = .ok (.iconst 0, 1) := by decide +kernel
theorem dX3_copyFrom_10 : decode cX3_copyFrom 10 = .ok (.aload_n 0, 1) := by decide +kernel
theorem dX3_copyFrom_11 : decode cX3_copyFrom 11 = .ok (.getfield 15, 3) := by decide +kernel
theorem dX3_copyFrom_14 : decode cX3_copyFrom 14 = .ok (.arraylength, 1) := by decide +kernel
theorem dX3_copyFrom_15 : decode cX3_copyFrom 15 = .ok (.invokestatic 31, 3) := by decide +kernel
theorem dX3_copyFrom_18 : decode cX3_copyFrom 18 = .ok (.return_, 1) := by decide +kernel
set_option maxRecDepth 20000 in
theorem ggX4_init_X3_init : GoodIn wsX4_init wsX3_init := goodIn_r _ [29, 30, 2, 3, 31, 32, 33, 40] (by decide +kernel) (by decide +kernel)
set_option maxRecDepth 20000 in
theorem gX4_init_X3_init : GoodIn wsX4_init (wsX3_init) := ggX4_init_X3_init
set_option maxRecDepth 20000 in
theorem ggX4_init_X2_init : GoodIn wsX4_init wsX2_init := goodIn_r _ [35, 36, 2, 3, 12, 37, 38, 39, 52, 53, 54] (by decide +kernel) (by decide +kernel)
set_option maxRecDepth 20000 in
theorem gX4_init_X2_init_n20 : GoodIn wsX4_init (wsX2_init) := ggX4_init_X2_init
theorem dX4_init_0 : decode cX4_init 0 = .ok (.aload_n 0, 1) := by decide +kernel
theorem dX4_init_1 : decode cX4_init 1 = .ok (.invokespecial 3, 3) := by decide +kernel
theorem dX4_init_4 : decode cX4_init 4 = .ok (.aload_n 0, 1) := by decide +kernel
theorem dX4_init_5 : decode cX4_init 5 = .ok (.new 9, 3) := by decide +kernel
theorem dX4_init_8 : decode cX4_init 8 = .ok (.dup, 1) := by decide +kernel
theorem dX4_init_9 : decode cX4_init 9 = .ok (.invokespecial 11, 3) := by decide +kernel
theorem dX4_init_12 : decode cX4_init 12 = .ok (.putfield 12, 3) := by decide +kernel
theorem dX4_init_15 : decode cX4_init 15 = .ok (.aload_n 0, 1) := by decide +kernel
theorem dX4_init_16 : decode cX4_init 16 = .ok (.new 18, 3) := by decide +kernel
theorem dX4_init_19 : decode cX4_init 19 = .ok (.dup, 1) := by decide +kernel
theorem dX4_init_20 : decode cX4_init 20 = .ok (.invokespecial 20, 3) := by decide +kernel
theorem dX4_init_23 : decode cX4_init 23 = .ok (.putfield 21, 3) := by decide +kernel
theorem dX4_init_26 : decode cX4_init 26 = .ok (.aload_n 0, 1) := by decide +kernel
theorem dX4_init_27 : decode cX4_init 27 = .ok (.bipush 13, 2) := by decide +kernel
theorem dX4_init_29 : decode cX4_init 29 = .ok (.newarray .int, 2) := by decide +kernel
theorem dX4_init_31 : decode cX4_init 31 = .ok (.putfield 25, 3) := by decide +kernel
theorem dX4_init_34 : decode cX4_init 34 = .ok (.aload_n 0, 1) := by decide +kernel
theorem dX4_init_35 : decode cX4_init 35 = .ok (.getstatic 29, 3) := by decide +kernel
theorem dX4_init_38 : decode cX4_init 38 = .ok (.arraylength, 1) := by decide +kernel
theorem dX4_init_39 : decode cX4_init 39 = .ok (.newarray .int, 2) := by decide +kernel
theorem dX4_init_41 : decode cX4_init 41 = .ok (.putfield 32, 3) := by decide +kernel
theorem dX4_init_44 : decode cX4_init 44 = .ok (.aload_n 0, 1) := by decide +kernel
theorem dX4_init_45 : decode cX4_init 45 = .ok (.iconst 1, 1) := by decide +kernel
theorem dX4_init_46 : decode cX4_init 46 = .ok (.putfield 35, 3) := by decide +kernel
theorem dX4_init_49 : decode cX4_init 49 = .ok (.aload_n 0, 1) := by decide +kernel
theorem dX4_init_50 : decode cX4_init 50 = .ok (.iconst 0, 1) := by decide +kernel
theorem dX4_init_51 : decode cX4_init 51 = .ok (.putfield 39, 3) := by decide +kernel
theorem dX4_init_54 : decode cX4_init 54 = .ok (.aload_n 0, 1) := by decide +kernel
theorem dX4_init_55 : decode cX4_init 55 = .ok (.iconst 0, 1) := by decide +kernel
theorem dX4_init_56 : decode cX4_init 56 = .ok (.putfield 42, 3) := by decide +kernel
theorem dX4_init_59 : decode cX4_init 59 = .ok (.aload_n 0, 1) := by decide +kernel
theorem dX4_init_60 : decode cX4_init 60 = .ok (.iconst 0, 1) := by decide +kernel
theorem dX4_init_61 : decode cX4_init 61 = .ok (.putfield 45, 3) := by decide +kernel
theorem dX4_init_64 : decode cX4_init 64 = .ok (.aload_n 0, 1) := by decide +kernel
theorem dX4_init_65 : decode cX4_init 65 = .ok (.iconst 0, 1) := by decide +kernel
theorem dX4_init_66 : decode cX4_init 66 = .ok (.putfield 48, 3) := by decide +kernel
theorem dX4_init_69 : decode cX4_init 69 = .ok (.aload_n 0, 1) := by decide +kernel
theorem dX4_init_70 : decode cX4_init 70 = .ok (.fconst 0, 1) := by decide +kernel
theorem dX4_init_71 : decode cX4_init 71 = .ok (.putfield 52, 3) := by decide +kernel
theorem dX4_init_74 : decode cX4_init 74 = .ok (.aload_n 0, 1) := by decide +kernel
theorem dX4_init_75 : decode cX4_init 75 = .ok (.fconst 0, 1) := by decide +kernel
theorem dX4_init_76 : decode cX4_init 76 = .ok (.putfield 56, 3) := by decide +kernel
theorem dX4_init_79 : decode cX4_init 79 = .ok (.getstatic 29, 3) := by decide +kernel
theorem dX4_init_82 : decode cX4_init 82 = .ok (.iconst 0, 1) := by decide +kernel
theorem dX4_init_83 : decode cX4_init 83 = .ok (.aload_n 0, 1) := by decide +kernel
theorem dX4_init_84 : decode cX4_init 84 = .ok (.getfield 32, 3) := by decide +kernel
theorem dX4_init_87 : decode cX4_init 87 = .ok (.iconst 0, 1) := by decide +kernel
theorem dX4_init_88 : decode cX4_init 88 = .ok (.aload_n 0, 1) := by decide +kernel
theorem dX4_init_89 : decode cX4_init 89 = .ok (.getfield 32, 3) := by decide +kernel
theorem dX4_init_92 : decode cX4_init 92 = .ok (.arraylength, 1) := by decide +kernel
theorem dX4_init_93 : decode cX4_init 93 = .ok (.invokestatic 59, 3) := by decide +kernel
theorem dX4_init_96 : decode cX4_init 96 = .ok (.return_, 1) := by decide +kernel
set_option maxRecDepth 20000 in
theorem ggX4_copyFrom_X3_copyFrom : GoodIn wsX4_copyFrom wsX3_copyFrom := goodIn_r _ [20, 21, 22, 5, 6, 7, 43] (by decide +kernel) (by decide +kernel)
set_option maxRecDepth 20000 in
theorem gX4_copyFrom_X3_copyFrom : GoodIn wsX4_copyFrom (wsV RX4 65 RX3 yX3_copyFrom wsX3_copyFrom) := goodIn_app (goodIn_of _ (by decide +kernel)) ggX4_copyFrom_X3_copyFrom
set_option maxRecDepth 20000 in
theorem ggX4_copyFrom_X2_copyFrom : GoodIn wsX4_copyFrom wsX2_copyFrom := goodIn_r _ [27, 28, 29, 5, 6, 7, 30, 31, 44, 45, 46] (by decide +kernel) (by decide +kernel)
set_option maxRecDepth 20000 in
theorem gX4_copyFrom_X2_copyFrom : GoodIn wsX4_copyFrom (wsV RX4 69 RX2 yX2_copyFrom wsX2_copyFrom) := goodIn_app (goodIn_of _ (by decide +kernel)) ggX4_copyFrom_X2_copyFrom
theorem dX4_copyFrom_0 : decode cX4_copyFrom 0 = .ok (.aload_n 0, 1) := by decide +kernel
theorem dX4_copyFrom_1 : decode cX4_copyFrom 1 = .ok (.getfield 12, 3) := by decide +kernel
end
section
theorem dX4_copyFrom_4 : decode cX4_copyFrom 4 = .ok (.aload_n 1, 1) := by decide +kernel
theorem dX4_copyFrom_5 : decode cX4_copyFrom 5 = .ok (.getfield 12, 3) := by decide +kernel
theorem dX4_copyFrom_8 : decode cX4_copyFrom 8 = .ok (.invokevirtual 65, 3) := by decide +kernel
theorem dX4_copyFrom_11 : decode cX4_copyFrom 11 = .ok (.aload_n 0, 1) := by decide +kernel
theorem dX4_copyFrom_12 : decode cX4_copyFrom 12 = .ok (.getfield 21, 3) := by decide +kernel
theorem dX4_copyFrom_15 : decode cX4_copyFrom 15 = .ok (.aload_n 1, 1) := by decide +kernel
theorem dX4_copyFrom_16 : decode cX4_copyFrom 16 = .ok (.getfield 21, 3) := by decide +kernel
theorem dX4_copyFrom_19 : decode cX4_copyFrom 19 = .ok (.invokevirtual 69, 3) := by decide +kernel
theorem dX4_copyFrom_22 : decode cX4_copyFrom 22 = .ok (.aload_n 1, 1) := by decide +kernel
theorem dX4_copyFrom_23 : decode cX4_copyFrom 23 = .ok (.getfield 25, 3) := by decide +kernel
theorem dX4_copyFrom_26 : decode cX4_copyFrom 26 = .ok (.iconst 0, 1) := by decide +kernel
theorem dX4_copyFrom_27 : decode cX4_copyFrom 27 = .ok (.aload_n 0, 1) := by decide +kernel
theorem dX4_copyFrom_28 : decode cX4_copyFrom 28 = .ok (.getfield 25, 3) := by decide +kernel
theorem dX4_copyFrom_31 : decode cX4_copyFrom 31 = .ok (.iconst 0, 1) := by decide +kernel
theorem dX4_copyFrom_32 : decode cX4_copyFrom 32 = .ok (.aload_n 0, 1) := by decide +kernel
theorem dX4_copyFrom_33 : decode cX4_copyFrom 33 = .ok (.getfield 25, 3) := by decide +kernel
theorem dX4_copyFrom_36 : decode cX4_copyFrom 36 = .ok (.arraylength, 1) := by decide +kernel
theorem dX4_copyFrom_37 : decode cX4_copyFrom 37 = .ok (.invokestatic 59, 3) := by decide +kernel
theorem dX4_copyFrom_40 : decode cX4_copyFrom 40 = .ok (.aload_n 1, 1) := by decide +kernel
theorem dX4_copyFrom_41 : decode cX4_copyFrom 41 = .ok (.getfield 32, 3) := by decide +kernel
theorem dX4_copyFrom_44 : decode cX4_copyFrom 44 = .ok (.iconst 0, 1) := by decide +kernel
theorem dX4_copyFrom_45 : decode cX4_copyFrom 45 = .ok (.aload_n 0, 1) := by decide +kernel
theorem dX4_copyFrom_46 : decode cX4_copyFrom 46 = .ok (.getfield 32, 3) := by decide +kernel
theorem dX4_copyFrom_49 : decode cX4_copyFrom 49 = .ok (.iconst 0, 1) := by decide +kernel
theorem dX4_copyFrom_50 : decode cX4_copyFrom 50 = .ok (.aload_n 0, 1) := by decide +kernel
theorem dX4_copyFrom_51 : decode cX4_copyFrom 51 = .ok (.getfield 32, 3) := by decide +kernel
theorem dX4_copyFrom_54 : decode cX4_copyFrom 54 = .ok (.arraylength, 1) := by decide +kernel
theorem dX4_copyFrom_55 : decode cX4_copyFrom 55 = .ok (.invokestatic 59, 3) := by decide +kernel
theorem dX4_copyFrom_58 : decode cX4_copyFrom 58 = .ok (.aload_n 0, 1) := by decide +kernel
theorem dX4_copyFrom_59 : decode cX4_copyFrom 59 = .ok (.aload_n 1, 1) := by decide +kernel
theorem dX4_copyFrom_60 : decode cX4_copyFrom 60 = .ok (.getfield 35, 3) := by decide +kernel
theorem dX4_copyFrom_63 : decode cX4_copyFrom 63 = .ok (.putfield 35, 3) := by decide +kernel
theorem dX4_copyFrom_66 : decode cX4_copyFrom 66 = .ok (.aload_n 0, 1) := by decide +kernel
theorem dX4_copyFrom_67 : decode cX4_copyFrom 67 = .ok (.aload_n 1, 1) := by decide +kernel
theorem dX4_copyFrom_68 : decode cX4_copyFrom 68 = .ok (.getfield 39, 3) := by decide +kernel
theorem dX4_copyFrom_71 : decode cX4_copyFrom 71 = .ok (.putfield 39, 3) := by decide +kernel
theorem dX4_copyFrom_74 : decode cX4_copyFrom 74 = .ok (.aload_n 0, 1) := by decide +kernel
theorem dX4_copyFrom_75 : decode cX4_copyFrom 75 = .ok (.aload_n 1, 1) := by decide +kernel
theorem dX4_copyFrom_76 : decode cX4_copyFrom 76 = .ok (.getfield 42, 3) := by decide +kernel
theorem dX4_copyFrom_79 : decode cX4_copyFrom 79 = .ok (.putfield 42, 3) := by decide +kernel
theorem dX4_copyFrom_82 : decode cX4_copyFrom 82 = .ok (.aload_n 0, 1) := by decide +kernel
theorem dX4_copyFrom_83 : decode cX4_copyFrom 83 = .ok (.aload_n 1, 1) := by decide +kernel
theorem dX4_copyFrom_84 : decode cX4_copyFrom 84 = .ok (.getfield 45, 3) := by decide +kernel
theorem dX4_copyFrom_87 : decode cX4_copyFrom 87 = .ok (.putfield 45, 3) := by decide +kernel
theorem dX4_copyFrom_90 : decode cX4_copyFrom 90 = .ok (.aload_n 0, 1) := by decide +kernel
theorem dX4_copyFrom_91 : decode cX4_copyFrom 91 = .ok (.aload_n 1, 1) := by decide +kernel
theorem dX4_copyFrom_92 : decode cX4_copyFrom 92 = .ok (.getfield 48, 3) := by decide +kernel
theorem dX4_copyFrom_95 : decode cX4_copyFrom 95 = .ok (.putfield 48, 3) := by decide +kernel
theorem dX4_copyFrom_98 : decode cX4_copyFrom 98 = .ok (.aload_n 0, 1) := by decide +kernel
theorem dX4_copyFrom_99 : decode cX4_copyFrom 99 = .ok (.aload_n 1, 1) := by decide +kernel
theorem dX4_copyFrom_100 : decode cX4_copyFrom 100 = .ok (.getfield 52, 3) := by decide +kernel
theorem dX4_copyFrom_103 : decode cX4_copyFrom 103 = .ok (.putfield 52, 3) := by decide +kernel
theorem dX4_copyFrom_106 : decode cX4_copyFrom 106 = .ok (.aload_n 0, 1) := by decide +kernel
theorem dX4_copyFrom_107 : decode cX4_copyFrom 107 = .ok (.aload_n 1, 1) := by decide +kernel
theorem dX4_copyFrom_108 : decode cX4_copyFrom 108 = .ok (.getfield 56, 3) := by decide +kernel
theorem dX4_copyFrom_111 : decode cX4_copyFrom 111 = .ok (.putfield 56, 3) := by decide +kernel
theorem dX4_copyFrom_114 : decode cX4_copyFrom 114 = .ok (.return_, 1) := by decide +kernel
theorem dX4_setting_0 : decode cX4_setting 0 = .ok (.iload_n 1, 1) := by decide +kernel
theorem dX4_setting_1 : decode cX4_setting 1 = .ok (.ifCond .lt 21, 3) := by decide +kernel
theorem dX4_setting_4 : decode cX4_setting 4 = .ok (.iload_n 1, 1) := by decide +kernel
theorem dX4_setting_5 : decode cX4_setting 5 = .ok (.aload_n 0, 1) := by decide +kernel
theorem dX4_setting_6 : decode cX4_setting 6 = .ok (.getfield 32, 3) := by decide +kernel
theorem dX4_setting_9 : decode cX4_setting 9 = .ok (.arraylength, 1) := by decide +kernel
theorem dX4_setting_10 : decode cX4_setting 10 = .ok (.if_icmp .ge 12, 3) := by decide +kernel
theorem dX4_setting_13 : decode cX4_setting 13 = .ok (.aload_n 0, 1) := by decide +kernel
theorem dX4_setting_14 : decode cX4_setting 14 = .ok (.getfield 32, 3) := by decide +kernel
theorem dX4_setting_17 : decode cX4_setting 17 = .ok (.iload_n 1, 1) := by decide +kernel
theorem dX4_setting_18 : decode cX4_setting 18 = .ok (.iaload, 1) := by decide +kernel
theorem dX4_setting_19 : decode cX4_setting 19 = .ok (.goto 4, 3) := by decide +kernel
theorem dX4_setting_22 : decode cX4_setting 22 = .ok (.iconst (-1), 1) := by decide +kernel
theorem dX4_setting_23 : decode cX4_setting 23 = .ok (.ireturn, 1) := by decide +kernel
theorem dX4_putSetting_0 : decode cX4_putSetting 0 = .ok (.iload_n 1, 1) := by decide +kernel
theorem dX4_putSetting_1 : decode cX4_putSetting 1 = .ok (.ifCond .lt 19, 3) := by decide +kernel
theorem dX4_putSetting_4 : decode cX4_putSetting 4 = .ok (.iload_n 1, 1) := by decide +kernel
theorem dX4_putSetting_5 : decode cX4_putSetting 5 = .ok (.aload_n 0, 1) := by decide +kernel
theorem dX4_putSetting_6 : decode cX4_putSetting 6 = .ok (.getfield 32, 3) := by decide +kernel
theorem dX4_putSetting_9 : decode cX4_putSetting 9 = .ok (.arraylength, 1) := by decide +kernel
theorem dX4_putSetting_10 : decode cX4_putSetting 10 = .ok (.if_icmp .ge 10, 3) := by decide +kernel
theorem dX4_putSetting_13 : decode cX4_putSetting 13 = .ok (.aload_n 0, 1) := by decide +kernel
theorem dX4_putSetting_14 : decode cX4_putSetting 14 = .ok (.getfield 32, 3) := by decide +kernel
theorem dX4_putSetting_17 : decode cX4_putSetting 17 = .ok (.iload_n 1, 1) := by decide +kernel
theorem dX4_putSetting_18 : decode cX4_putSetting 18 = .ok (.iload_n 2, 1) := by decide +kernel
theorem dX4_putSetting_19 : decode cX4_putSetting 19 = .ok (.iastore, 1) := by decide +kernel
theorem dX4_putSetting_20 : decode cX4_putSetting 20 = .ok (.return_, 1) := by decide +kernel
set_option maxRecDepth 20000 in
theorem ggX4_allows_X4_setting : GoodIn wsX4_allows wsX4_setting := goodIn_r _ [5, 6, 7, 8, 9, 10, 11, 12, 13, 14, 15, 16, 17] (by decide +kernel) (by decide +kernel)
set_option maxRecDepth 20000 in
theorem gX4_allows_X4_setting : GoodIn wsX4_allows (wsV RX4 72 RX4 yX4_setting wsX4_setting) := goodIn_app (goodIn_of _ (by decide +kernel)) ggX4_allows_X4_setting
theorem dX4_allows_0 : decode cX4_allows 0 = .ok (.iload_n 1, 1) := by decide +kernel
theorem dX4_allows_1 : decode cX4_allows 1 = .ok (.lookupswitch 72 #[(0, 27), (1, 53)], 27) := by decide +kernel
theorem dX4_allows_28 : decode cX4_allows 28 = .ok (.iload_n 2, 1) := by decide +kernel
theorem dX4_allows_29 : decode cX4_allows 29 = .ok (.iconst 2, 1) := by decide +kernel
theorem dX4_allows_30 : decode cX4_allows 30 = .ok (.if_icmp .lt 22, 3) := by decide +kernel
theorem dX4_allows_33 : decode cX4_allows 33 = .ok (.iload_n 2, 1) := by decide +kernel
theorem dX4_allows_34 : decode cX4_allows 34 = .ok (.bipush 20, 2) := by decide +kernel
theorem dX4_allows_36 : decode cX4_allows 36 = .ok (.if_icmp .gt 16, 3) := by decide +kernel
theorem dX4_allows_39 : decode cX4_allows 39 = .ok (.iload_n 2, 1) := by decide +kernel
theorem dX4_allows_40 : decode cX4_allows 40 = .ok (.aload_n 0, 1) := by decide +kernel
theorem dX4_allows_41 : decode cX4_allows 41 = .ok (.iconst 1, 1) := by decide +kernel
theorem dX4_allows_42 : decode cX4_allows 42 = .ok (.invokevirtual 72, 3) := by decide +kernel
theorem dX4_allows_45 : decode cX4_allows 45 = .ok (.if_icmp .le 7, 3) := by decide +kernel
theorem dX4_allows_48 : decode cX4_allows 48 = .ok (.iconst 1, 1) := by decide +kernel
theorem dX4_allows_49 : decode cX4_allows 49 = .ok (.goto 4, 3) := by decide +kernel
theorem dX4_allows_52 : decode cX4_allows 52 = .ok (.iconst 0, 1) := by decide +kernel
theorem dX4_allows_53 : decode cX4_allows 53 = .ok (.ireturn, 1) := by decide +kernel
theorem dX4_allows_54 : decode cX4_allows 54 = .ok (.iload_n 2, 1) := by decide +kernel
theorem dX4_allows_55 : decode cX4_allows 55 = .ok (.ifCond .lt 16, 3) := by decide +kernel
theorem dX4_allows_58 : decode cX4_allows 58 = .ok (.iload_n 2, 1) := by decide +kernel
theorem dX4_allows_59 : decode cX4_allows 59 = .ok (.aload_n 0, 1) := by decide +kernel
theorem dX4_allows_60 : decode cX4_allows 60 = .ok (.iconst 0, 1) := by decide +kernel
theorem dX4_allows_61 : decode cX4_allows 61 = .ok (.invokevirtual 72, 3) := by decide +kernel
theorem dX4_allows_64 : decode cX4_allows 64 = .ok (.if_icmp .ge 7, 3) := by decide +kernel
theorem dX4_allows_67 : decode cX4_allows 67 = .ok (.iconst 1, 1) := by decide +kernel
theorem dX4_allows_68 : decode cX4_allows 68 = .ok (.goto 4, 3) := by decide +kernel
theorem dX4_allows_71 : decode cX4_allows 71 = .ok (.iconst 0, 1) := by decide +kernel
theorem dX4_allows_72 : decode cX4_allows 72 = .ok (.ireturn, 1) := by decide +kernel
theorem dX4_allows_73 : decode cX4_allows 73 = .ok (.iload_n 2, 1) := by decide +kernel
theorem dX4_allows_74 : decode cX4_allows 74 = .ok (.iconst 1, 1) := by decide +kernel
theorem dX4_allows_75 : decode cX4_allows 75 = .ok (.if_icmp .lt 13, 3) := by decide +kernel
theorem dX4_allows_78 : decode cX4_allows 78 = .ok (.iload_n 2, 1) := by decide +kernel
theorem dX4_allows_79 : decode cX4_allows 79 = .ok (.bipush 100, 2) := by decide +kernel
theorem dX4_allows_81 : decode cX4_allows 81 = .ok (.if_icmp .gt 7, 3) := by decide +kernel
theorem dX4_allows_84 : decode cX4_allows 84 = .ok (.iconst 1, 1) := by decide +kernel
theorem dX4_allows_85 : decode cX4_allows 85 = .ok (.goto 4, 3) := by decide +kernel
theorem dX4_allows_88 : decode cX4_allows 88 = .ok (.iconst 0, 1) := by decide +kernel
theorem dX4_allows_89 : decode cX4_allows 89 = .ok (.ireturn, 1) := by decide +kernel
theorem dX4_counted_0 : decode cX4_counted 0 = .ok (.iload_n 1, 1) := by decide +kernel
theorem dX4_counted_1 : decode cX4_counted 1 = .ok (.ifCond .lt 21, 3) := by decide +kernel
theorem dX4_counted_4 : decode cX4_counted 4 = .ok (.iload_n 1, 1) := by decide +kernel
theorem dX4_counted_5 : decode cX4_counted 5 = .ok (.aload_n 0, 1) := by decide +kernel
theorem dX4_counted_6 : decode cX4_counted 6 = .ok (.getfield 25, 3) := by decide +kernel
theorem dX4_counted_9 : decode cX4_counted 9 = .ok (.arraylength, 1) := by decide +kernel
theorem dX4_counted_10 : decode cX4_counted 10 = .ok (.if_icmp .ge 12, 3) := by decide +kernel
theorem dX4_counted_13 : decode cX4_counted 13 = .ok (.aload_n 0, 1) := by decide +kernel
theorem dX4_counted_14 : decode cX4_counted 14 = .ok (.getfield 25, 3) := by decide +kernel
theorem dX4_counted_17 : decode cX4_counted 17 = .ok (.iload_n 1, 1) := by decide +kernel
theorem dX4_counted_18 : decode cX4_counted 18 = .ok (.iaload, 1) := by decide +kernel
theorem dX4_counted_19 : decode cX4_counted 19 = .ok (.goto 5, 3) := by decide +kernel
theorem dX4_counted_22 : decode cX4_counted 22 = .ok (.bipush (-2), 2) := by decide +kernel
theorem dX4_counted_24 : decode cX4_counted 24 = .ok (.ireturn, 1) := by decide +kernel
theorem dX4_countOneMore_0 : decode cX4_countOneMore 0 = .ok (.iload_n 1, 1) := by decide +kernel
theorem dX4_countOneMore_1 : decode cX4_countOneMore 1 = .ok (.ifCond .lt 22, 3) := by decide +kernel
theorem dX4_countOneMore_4 : decode cX4_countOneMore 4 = .ok (.iload_n 1, 1) := by decide +kernel
theorem dX4_countOneMore_5 : decode cX4_countOneMore 5 = .ok (.aload_n 0, 1) := by decide +kernel
theorem dX4_countOneMore_6 : decode cX4_countOneMore 6 = .ok (.getfield 25, 3) := by decide +kernel
theorem dX4_countOneMore_9 : decode cX4_countOneMore 9 = .ok (.arraylength, 1) := by decide +kernel
theorem dX4_countOneMore_10 : decode cX4_countOneMore 10 = .ok (.if_icmp .ge 13, 3) := by decide +kernel
theorem dX4_countOneMore_13 : decode cX4_countOneMore 13 = .ok (.aload_n 0, 1) := by decide +kernel
theorem dX4_countOneMore_14 : decode cX4_countOneMore 14 = .ok (.getfield 25, 3) := by decide +kernel
theorem dX4_countOneMore_17 : decode cX4_countOneMore 17 = .ok (.iload_n 1, 1) := by decide +kernel
theorem dX4_countOneMore_18 : decode cX4_countOneMore 18 = .ok (.dup2, 1) := by decide +kernel
theorem dX4_countOneMore_19 : decode cX4_countOneMore 19 = .ok (.iaload, 1) := by decide +kernel
theorem dX4_countOneMore_20 : decode cX4_countOneMore 20 = .ok (.iconst 1, 1) := by decide +kernel
theorem dX4_countOneMore_21 : decode cX4_countOneMore 21 = .ok (.iadd, 1) := by decide +kernel
theorem dX4_countOneMore_22 : decode cX4_countOneMore 22 = .ok (.iastore, 1) := by decide +kernel
theorem dX4_countOneMore_23 : decode cX4_countOneMore 23 = .ok (.return_, 1) := by decide +kernel
set_option maxRecDepth 20000 in
theorem ggX4_tick_X4_counted : GoodIn wsX4_tick wsX4_counted := goodIn_r _ [5, 6, 7, 8, 9, 10, 11, 12, 13, 14, 15, 16, 17] (by decide +kernel) (by decide +kernel)
set_option maxRecDepth 20000 in
theorem gX4_tick_X4_counted : GoodIn wsX4_tick (wsV RX4 76 RX4 yX4_counted wsX4_counted) := goodIn_app (goodIn_of _ (by decide +kernel)) ggX4_tick_X4_counted
theorem dX4_tick_0 : decode cX4_tick 0 = .ok (.aload_n 0, 1) := by decide +kernel
theorem dX4_tick_1 : decode cX4_tick 1 = .ok (.iconst 0, 1) := by decide +kernel
theorem dX4_tick_2 : decode cX4_tick 2 = .ok (.invokevirtual 76, 3) := by decide +kernel
theorem dX4_tick_5 : decode cX4_tick 5 = .ok (.ireturn, 1) := by decide +kernel
theorem dX4_isChanging_0 : decode cX4_isChanging 0 = .ok (.aload_n 0, 1) := by decide +kernel
theorem dX4_isChanging_1 : decode cX4_isChanging 1 = .ok (.getfield 39, 3) := by decide +kernel
theorem dX4_isChanging_4 : decode cX4_isChanging 4 = .ok (.ifCond .eq 7, 3) := by decide +kernel
theorem dX4_isChanging_7 : decode cX4_isChanging 7 = .ok (.iconst 1, 1) := by decide +kernel
theorem dX4_isChanging_8 : decode cX4_isChanging 8 = .ok (.goto 4, 3) := by decide +kernel
theorem dX4_isChanging_11 : decode cX4_isChanging 11 = .ok (.iconst 0, 1) := by decide +kernel
theorem dX4_isChanging_12 : decode cX4_isChanging 12 = .ok (.ireturn, 1) := by decide +kernel
set_option maxRecDepth 20000 in
theorem ggX4_passTicks_X4_passTick : GoodIn wsX4_passTicks wsX4_passTick := goodIn_r _ [5, 6, 7, 8, 9, 10, 11, 4, 12, 13, 14, 15, 16, 17, 18, 19, 20, 21, 22, 23, 24, 25, 26, 27, 28, 29, 30, 31, 32, 33, 34, 35, 36, 37, 38, 39, 40, 41, 42, 43, 44, 45, 46, 47, 48, 49, 50, 51, 52, 53, 54, 55, 56, 57, 58, 59, 60, 61, 62, 63, 64, 65, 66, 67, 68, 69, 70, 71, 72, 73, 74, 75, 76, 77, 78, 79, 80, 81, 82, 83, 84, 85, 86, 87, 88, 89, 90, 91, 92, 93, 94, 95, 96, 97, 98, 99, 100, 101, 102, 103, 104, 105, 106, 107, 108, 109, 110, 111, 112, 113, 114, 115, 116, 117, 118, 119, 120, 121] (by decide +kernel) (by decide +kernel)
set_option maxRecDepth 20000 in
theorem gX4_passTicks_X4_passTick : GoodIn wsX4_passTicks (wsV RX4 79 RX4 yX4_passTick wsX4_passTick) := goodIn_app (goodIn_of _ (by decide +kernel)) ggX4_passTicks_X4_passTick
theorem dX4_passTicks_0 : decode cX4_passTicks 0 = .ok (.iconst 0, 1) := by decide +kernel
theorem dX4_passTicks_1 : decode cX4_passTicks 1 = .ok (.istore 4, 2) := by decide +kernel
theorem dX4_passTicks_3 : decode cX4_passTicks 3 = .ok (.iconst 0, 1) := by decide +kernel
theorem dX4_passTicks_4 : decode cX4_passTicks 4 = .ok (.istore 5, 2) := by decide +kernel
theorem dX4_passTicks_6 : decode cX4_passTicks 6 = .ok (.iload 5, 2) := by decide +kernel
theorem dX4_passTicks_8 : decode cX4_passTicks 8 = .ok (.iload_n 3, 1) := by decide +kernel
theorem dX4_passTicks_9 : decode cX4_passTicks 9 = .ok (.if_icmp .ge 21, 3) := by decide +kernel
theorem dX4_passTicks_12 : decode cX4_passTicks 12 = .ok (.aload_n 0, 1) := by decide +kernel
theorem dX4_passTicks_13 : decode cX4_passTicks 13 = .ok (.fload_n 1, 1) := by decide +kernel
theorem dX4_passTicks_14 : decode cX4_passTicks 14 = .ok (.fload_n 2, 1) := by decide +kernel
theorem dX4_passTicks_15 : decode cX4_passTicks 15 = .ok (.invokevirtual 79, 3) := by decide +kernel
theorem dX4_passTicks_18 : decode cX4_passTicks 18 = .ok (.ifCond .eq 6, 3) := by decide +kernel
theorem dX4_passTicks_21 : decode cX4_passTicks 21 = .ok (.iinc 4 1, 3) := by decide +kernel
theorem dX4_passTicks_24 : decode cX4_passTicks 24 = .ok (.iinc 5 1, 3) := by decide +kernel
theorem dX4_passTicks_27 : decode cX4_passTicks 27 = .ok (.goto (-21), 3) := by decide +kernel
theorem dX4_passTicks_30 : decode cX4_passTicks 30 = .ok (.iload 4, 2) := by decide +kernel
theorem dX4_passTicks_32 : decode cX4_passTicks 32 = .ok (.ireturn, 1) := by decide +kernel
set_option maxRecDepth 20000 in
theorem ggX4_passTick_X4_goOnWithChange : GoodIn wsX4_passTick wsX4_goOnWithChange := goodIn_r _ [8, 9, 10, 11, 12, 13, 14, 7, 15, 16, 17, 18, 19, 20, 103, 104, 105, 106, 107, 108, 109, 110, 111, 112, 113] (by decide +kernel) (by decide +kernel)
set_option maxRecDepth 20000 in
theorem gX4_passTick_X4_goOnWithChange : GoodIn wsX4_passTick (wsV RX4 83 RX4 yX4_goOnWithChange wsX4_goOnWithChange) := goodIn_app (goodIn_of _ (by decide +kernel)) ggX4_passTick_X4_goOnWithChange
set_option maxRecDepth 20000 in
theorem ggX4_passTick_X4_isChanging : GoodIn wsX4_passTick wsX4_isChanging := goodIn_r _ [15, 10, 103, 104, 105, 106, 107, 108, 109, 110, 111, 112, 113] (by decide +kernel) (by decide +kernel)
set_option maxRecDepth 20000 in
theorem gX4_passTick_X4_isChanging : GoodIn wsX4_passTick (wsV RX4 86 RX4 yX4_isChanging wsX4_isChanging) := goodIn_app (goodIn_of _ (by decide +kernel)) ggX4_passTick_X4_isChanging
set_option maxRecDepth 20000 in
theorem ggX4_passTick_X4_reasonToChange : GoodIn wsX4_passTick wsX4_reasonToChange := goodIn_r _ [24, 11, 25, 3, 26, 1, 27, 28, 29, 30, 31, 32, 33, 34, 35, 36, 37, 38, 7, 39, 40, 41, 42, 43, 44, 45, 46, 47, 48, 49, 50, 51, 52, 53, 54, 55, 56, 57, 103, 104, 105, 106, 107, 108, 109, 110, 111, 112, 113, 114] (by decide +kernel) (by decide +kernel)
set_option maxRecDepth 20000 in
theorem gX4_passTick_X4_reasonToChange : GoodIn wsX4_passTick (wsV RX4 90 RX4 yX4_reasonToChange wsX4_reasonToChange) := goodIn_app (goodIn_of _ (by decide +kernel)) ggX4_passTick_X4_reasonToChange
set_option maxRecDepth 20000 in
theorem ggX4_passTick_X4_gearChosenBy : GoodIn wsX4_passTick wsX4_gearChosenBy := goodIn_r _ [61, 11, 41, 42, 43, 7, 44, 45, 46, 47, 48, 25, 27, 28, 29, 30, 31, 32, 33, 34, 35, 36, 103, 104, 105, 106, 107, 108, 109, 110, 111, 112, 113, 114] (by decide +kernel) (by decide +kernel)
set_option maxRecDepth 20000 in
theorem gX4_passTick_X4_gearChosenBy : GoodIn wsX4_passTick (wsV RX4 94 RX4 yX4_gearChosenBy wsX4_gearChosenBy) := goodIn_app (goodIn_of _ (by decide +kernel)) ggX4_passTick_X4_gearChosenBy
set_option maxRecDepth 20000 in
theorem ggX4_passTick_X4_begin : GoodIn wsX4_passTick wsX4_begin := goodIn_r _ [65, 66, 11, 10, 9, 1, 67, 68, 69, 7, 70, 71, 72, 73, 74, 75, 76, 77, 78, 79, 80, 81, 82, 83, 84, 85, 86, 87, 16, 17, 18, 19, 20, 88, 89, 90, 91, 92, 93, 47, 94, 95, 96, 97, 98, 103, 104, 105, 106, 107, 108, 109, 110, 111, 112, 113, 115, 116, 117] (by decide +kernel) (by decide +kernel)
set_option maxRecDepth 20000 in
theorem gX4_passTick_X4_begin : GoodIn wsX4_passTick (wsV RX4 98 RX4 yX4_begin wsX4_begin) := goodIn_app (goodIn_of _ (by decide +kernel)) ggX4_passTick_X4_begin
set_option maxRecDepth 20000 in
theorem ggX4_passTick_X4_countTick : GoodIn wsX4_passTick wsX4_countTick := goodIn_r _ [102, 11, 95, 96, 97, 7, 98, 87, 12, 13, 14, 15, 10, 103, 104, 105, 106, 107, 108, 109, 110, 111, 112, 113] (by decide +kernel) (by decide +kernel)
set_option maxRecDepth 20000 in
theorem gX4_passTick_X4_countTick : GoodIn wsX4_passTick (wsV RX4 102 RX4 yX4_countTick wsX4_countTick) := goodIn_app (goodIn_of _ (by decide +kernel)) ggX4_passTick_X4_countTick
theorem dX4_passTick_0 : decode cX4_passTick 0 = .ok (.aload_n 0, 1) := by decide +kernel
theorem dX4_passTick_1 : decode cX4_passTick 1 = .ok (.invokevirtual 83, 3) := by decide +kernel
theorem dX4_passTick_4 : decode cX4_passTick 4 = .ok (.aload_n 0, 1) := by decide +kernel
theorem dX4_passTick_5 : decode cX4_passTick 5 = .ok (.invokevirtual 86, 3) := by decide +kernel
theorem dX4_passTick_8 : decode cX4_passTick 8 = .ok (.ifCond .eq 7, 3) := by decide +kernel
theorem dX4_passTick_11 : decode cX4_passTick 11 = .ok (.iconst (-1), 1) := by decide +kernel
theorem dX4_passTick_12 : decode cX4_passTick 12 = .ok (.goto 9, 3) := by decide +kernel
theorem dX4_passTick_15 : decode cX4_passTick 15 = .ok (.aload_n 0, 1) := by decide +kernel
theorem dX4_passTick_16 : decode cX4_passTick 16 = .ok (.fload_n 1, 1) := by decide +kernel
theorem dX4_passTick_17 : decode cX4_passTick 17 = .ok (.fload_n 2, 1) := by decide +kernel
theorem dX4_passTick_18 : decode cX4_passTick 18 = .ok (.invokevirtual 90, 3) := by decide +kernel
theorem dX4_passTick_21 : decode cX4_passTick 21 = .ok (.istore_n 3, 1) := by decide +kernel
theorem dX4_passTick_22 : decode cX4_passTick 22 = .ok (.aload_n 0, 1) := by decide +kernel
theorem dX4_passTick_23 : decode cX4_passTick 23 = .ok (.getfield 45, 3) := by decide +kernel
theorem dX4_passTick_26 : decode cX4_passTick 26 = .ok (.ifCond .le 13, 3) := by decide +kernel
theorem dX4_passTick_29 : decode cX4_passTick 29 = .ok (.aload_n 0, 1) := by decide +kernel
theorem dX4_passTick_30 : decode cX4_passTick 30 = .ok (.dup, 1) := by decide +kernel
theorem dX4_passTick_31 : decode cX4_passTick 31 = .ok (.getfield 45, 3) := by decide +kernel
theorem dX4_passTick_34 : decode cX4_passTick 34 = .ok (.iconst 1, 1) := by decide +kernel
theorem dX4_passTick_35 : decode cX4_passTick 35 = .ok (.isub, 1) := by decide +kernel
theorem dX4_passTick_36 : decode cX4_passTick 36 = .ok (.putfield 45, 3) := by decide +kernel
theorem dX4_passTick_39 : decode cX4_passTick 39 = .ok (.iload_n 3, 1) := by decide +kernel
theorem dX4_passTick_40 : decode cX4_passTick 40 = .ok (.iconst (-1), 1) := by decide +kernel
theorem dX4_passTick_41 : decode cX4_passTick 41 = .ok (.if_icmp .eq 14, 3) := by decide +kernel
theorem dX4_passTick_44 : decode cX4_passTick 44 = .ok (.aload_n 0, 1) := by decide +kernel
theorem dX4_passTick_45 : decode cX4_passTick 45 = .ok (.iload_n 3, 1) := by decide +kernel
theorem dX4_passTick_46 : decode cX4_passTick 46 = .ok (.aload_n 0, 1) := by decide +kernel
theorem dX4_passTick_47 : decode cX4_passTick 47 = .ok (.iload_n 3, 1) := by decide +kernel
theorem dX4_passTick_48 : decode cX4_passTick 48 = .ok (.fload_n 1, 1) := by decide +kernel
theorem dX4_passTick_49 : decode cX4_passTick 49 = .ok (.invokevirtual 94, 3) := by decide +kernel
theorem dX4_passTick_52 : decode cX4_passTick 52 = .ok (.invokevirtual 98, 3) := by decide +kernel
theorem dX4_passTick_55 : decode cX4_passTick 55 = .ok (.aload_n 0, 1) := by decide +kernel
theorem dX4_passTick_56 : decode cX4_passTick 56 = .ok (.fload_n 1, 1) := by decide +kernel
theorem dX4_passTick_57 : decode cX4_passTick 57 = .ok (.putfield 52, 3) := by decide +kernel
theorem dX4_passTick_60 : decode cX4_passTick 60 = .ok (.aload_n 0, 1) := by decide +kernel
theorem dX4_passTick_61 : decode cX4_passTick 61 = .ok (.fload_n 2, 1) := by decide +kernel
theorem dX4_passTick_62 : decode cX4_passTick 62 = .ok (.putfield 56, 3) := by decide +kernel
theorem dX4_passTick_65 : decode cX4_passTick 65 = .ok (.aload_n 0, 1) := by decide +kernel
theorem dX4_passTick_66 : decode cX4_passTick 66 = .ok (.invokevirtual 102, 3) := by decide +kernel
theorem dX4_passTick_69 : decode cX4_passTick 69 = .ok (.iload_n 3, 1) := by decide +kernel
theorem dX4_passTick_70 : decode cX4_passTick 70 = .ok (.iconst (-1), 1) := by decide +kernel
theorem dX4_passTick_71 : decode cX4_passTick 71 = .ok (.if_icmp .eq 7, 3) := by decide +kernel
theorem dX4_passTick_74 : decode cX4_passTick 74 = .ok (.iconst 1, 1) := by decide +kernel
theorem dX4_passTick_75 : decode cX4_passTick 75 = .ok (.goto 4, 3) := by decide +kernel
theorem dX4_passTick_78 : decode cX4_passTick 78 = .ok (.iconst 0, 1) := by decide +kernel
theorem dX4_passTick_79 : decode cX4_passTick 79 = .ok (.ireturn, 1) := by decide +kernel
set_option maxRecDepth 20000 in
theorem ggX4_goOnWithChange_X4_isChanging : GoodIn wsX4_goOnWithChange wsX4_isChanging := goodIn_r _ [8, 2, 14, 15, 16, 17, 18, 19, 20, 21, 22, 23, 24] (by decide +kernel) (by decide +kernel)
set_option maxRecDepth 20000 in
theorem gX4_goOnWithChange_X4_isChanging : GoodIn wsX4_goOnWithChange (wsV RX4 86 RX4 yX4_isChanging wsX4_isChanging) := goodIn_app (goodIn_of _ (by decide +kernel)) ggX4_goOnWithChange_X4_isChanging
set_option maxRecDepth 20000 in
theorem ggX4_goOnWithChange_X4_setting : GoodIn wsX4_goOnWithChange wsX4_setting := goodIn_r _ [12, 13, 14, 15, 16, 17, 18, 19, 20, 21, 22, 23, 24] (by decide +kernel) (by decide +kernel)
set_option maxRecDepth 20000 in
theorem gX4_goOnWithChange_X4_setting : GoodIn wsX4_goOnWithChange (wsV RX4 72 RX4 yX4_setting wsX4_setting) := goodIn_app (goodIn_of _ (by decide +kernel)) ggX4_goOnWithChange_X4_setting
theorem dX4_goOnWithChange_0 : decode cX4_goOnWithChange 0 = .ok (.aload_n 0, 1) := by decide +kernel
theorem dX4_goOnWithChange_1 : decode cX4_goOnWithChange 1 = .ok (.invokevirtual 86, 3) := by decide +kernel
theorem dX4_goOnWithChange_4 : decode cX4_goOnWithChange 4 = .ok (.ifCond .ne 4, 3) := by decide +kernel
theorem dX4_goOnWithChange_7 : decode cX4_goOnWithChange 7 = .ok (.return_, 1) := by decide +kernel
theorem dX4_goOnWithChange_8 : decode cX4_goOnWithChange 8 = .ok (.aload_n 0, 1) := by decide +kernel
theorem dX4_goOnWithChange_9 : decode cX4_goOnWithChange 9 = .ok (.dup, 1) := by decide +kernel
theorem dX4_goOnWithChange_10 : decode cX4_goOnWithChange 10 = .ok (.getfield 42, 3) := by decide +kernel
theorem dX4_goOnWithChange_13 : decode cX4_goOnWithChange 13 = .ok (.iconst 1, 1) := by decide +kernel
theorem dX4_goOnWithChange_14 : decode cX4_goOnWithChange 14 = .ok (.iadd, 1) := by decide +kernel
theorem dX4_goOnWithChange_15 : decode cX4_goOnWithChange 15 = .ok (.putfield 42, 3) := by decide +kernel
theorem dX4_goOnWithChange_18 : decode cX4_goOnWithChange 18 = .ok (.aload_n 0, 1) := by decide +kernel
theorem dX4_goOnWithChange_19 : decode cX4_goOnWithChange 19 = .ok (.getfield 42, 3) := by decide +kernel
theorem dX4_goOnWithChange_22 : decode cX4_goOnWithChange 22 = .ok (.aload_n 0, 1) := by decide +kernel
theorem dX4_goOnWithChange_23 : decode cX4_goOnWithChange 23 = .ok (.iconst 0, 1) := by decide +kernel
theorem dX4_goOnWithChange_24 : decode cX4_goOnWithChange 24 = .ok (.invokevirtual 72, 3) := by decide +kernel
theorem dX4_goOnWithChange_27 : decode cX4_goOnWithChange 27 = .ok (.if_icmp .lt 16, 3) := by decide +kernel
theorem dX4_goOnWithChange_30 : decode cX4_goOnWithChange 30 = .ok (.aload_n 0, 1) := by decide +kernel
theorem dX4_goOnWithChange_31 : decode cX4_goOnWithChange 31 = .ok (.aload_n 0, 1) := by decide +kernel
theorem dX4_goOnWithChange_32 : decode cX4_goOnWithChange 32 = .ok (.getfield 39, 3) := by decide +kernel
theorem dX4_goOnWithChange_35 : decode cX4_goOnWithChange 35 = .ok (.putfield 35, 3) := by decide +kernel
theorem dX4_goOnWithChange_38 : decode cX4_goOnWithChange 38 = .ok (.aload_n 0, 1) := by decide +kernel
theorem dX4_goOnWithChange_39 : decode cX4_goOnWithChange 39 = .ok (.iconst 0, 1) := by decide +kernel
theorem dX4_goOnWithChange_40 : decode cX4_goOnWithChange 40 = .ok (.putfield 39, 3) := by decide +kernel
theorem dX4_goOnWithChange_43 : decode cX4_goOnWithChange 43 = .ok (.return_, 1) := by decide +kernel
set_option maxRecDepth 20000 in
theorem ggX4_reasonToChange_X3_exceeds : GoodIn wsX4_reasonToChange wsX3_exceeds := goodIn_r _ [10, 11, 12, 13, 9, 14, 15, 49] (by decide +kernel) (by decide +kernel)
set_option maxRecDepth 20000 in
theorem gX4_reasonToChange_X3_exceeds : GoodIn wsX4_reasonToChange (wsV RX4 105 RX3 yX3_exceeds wsX3_exceeds) := goodIn_app (goodIn_of _ (by decide +kernel)) ggX4_reasonToChange_X3_exceeds
set_option maxRecDepth 20000 in
theorem ggX4_reasonToChange_X4_isDeep : GoodIn wsX4_reasonToChange wsX4_isDeep := goodIn_r _ [19, 20] (by decide +kernel) (by decide +kernel)
set_option maxRecDepth 20000 in
theorem gX4_reasonToChange_X4_isDeep : GoodIn wsX4_reasonToChange (va_wsS RX4 109 yX4_isDeep wsX4_isDeep) := goodIn_app (goodIn_of _ (by decide +kernel)) ggX4_reasonToChange_X4_isDeep
set_option maxRecDepth 20000 in
theorem ggX4_reasonToChange_X4_kickdownGear : GoodIn wsX4_reasonToChange wsX4_kickdownGear := goodIn_r _ [24, 1, 25, 26, 27, 28, 2, 6, 7, 8, 9, 10, 11, 12, 13, 14, 15, 38, 39, 40, 41, 42, 43, 44, 45, 46, 47, 48, 49] (by decide +kernel) (by decide +kernel)
set_option maxRecDepth 20000 in
theorem gX4_reasonToChange_X4_kickdownGear : GoodIn wsX4_reasonToChange (wsV RX4 113 RX4 yX4_kickdownGear wsX4_kickdownGear) := goodIn_app (goodIn_of _ (by decide +kernel)) ggX4_reasonToChange_X4_kickdownGear
set_option maxRecDepth 20000 in
theorem ggX4_reasonToChange_X3_upFrom : GoodIn wsX4_reasonToChange wsX3_upFrom := goodIn_r _ [32, 11, 12, 13, 9, 14, 15, 49] (by decide +kernel) (by decide +kernel)
set_option maxRecDepth 20000 in
theorem gX4_reasonToChange_X3_upFrom : GoodIn wsX4_reasonToChange (wsV RX4 117 RX3 yX3_upFrom wsX3_upFrom) := goodIn_app (goodIn_of _ (by decide +kernel)) ggX4_reasonToChange_X3_upFrom
set_option maxRecDepth 20000 in
theorem ggX4_reasonToChange_X3_downTo : GoodIn wsX4_reasonToChange wsX3_downTo := goodIn_r _ [36, 37, 30, 31, 9, 32, 11, 12, 13, 14, 15, 49] (by decide +kernel) (by decide +kernel)
set_option maxRecDepth 20000 in
theorem gX4_reasonToChange_X3_downTo : GoodIn wsX4_reasonToChange (wsV RX4 121 RX3 yX3_downTo wsX3_downTo) := goodIn_app (goodIn_of _ (by decide +kernel)) ggX4_reasonToChange_X3_downTo
theorem dX4_reasonToChange_0 : decode cX4_reasonToChange 0 = .ok (.aload_n 0, 1) := by decide +kernel
theorem dX4_reasonToChange_1 : decode cX4_reasonToChange 1 = .ok (.getfield 35, 3) := by decide +kernel
theorem dX4_reasonToChange_4 : decode cX4_reasonToChange 4 = .ok (.iconst 5, 1) := by decide +kernel
theorem dX4_reasonToChange_5 : decode cX4_reasonToChange 5 = .ok (.if_icmp .ge 20, 3) := by decide +kernel
theorem dX4_reasonToChange_8 : decode cX4_reasonToChange 8 = .ok (.aload_n 0, 1) := by decide +kernel
theorem dX4_reasonToChange_9 : decode cX4_reasonToChange 9 = .ok (.getfield 12, 3) := by decide +kernel
theorem dX4_reasonToChange_12 : decode cX4_reasonToChange 12 = .ok (.fload_n 1, 1) := by decide +kernel
theorem dX4_reasonToChange_13 : decode cX4_reasonToChange 13 = .ok (.aload_n 0, 1) := by decide +kernel
theorem dX4_reasonToChange_14 : decode cX4_reasonToChange 14 = .ok (.getfield 35, 3) := by decide +kernel
theorem dX4_reasonToChange_17 : decode cX4_reasonToChange 17 = .ok (.invokevirtual 105, 3) := by decide +kernel
theorem dX4_reasonToChange_20 : decode cX4_reasonToChange 20 = .ok (.ifCond .eq 5, 3) := by decide +kernel
theorem dX4_reasonToChange_23 : decode cX4_reasonToChange 23 = .ok (.iconst 4, 1) := by decide +kernel
theorem dX4_reasonToChange_24 : decode cX4_reasonToChange 24 = .ok (.ireturn, 1) := by decide +kernel
theorem dX4_reasonToChange_25 : decode cX4_reasonToChange 25 = .ok (.fload_n 2, 1) := by decide +kernel
theorem dX4_reasonToChange_26 : decode cX4_reasonToChange 26 = .ok (.invokestatic 109, 3) := by decide +kernel
theorem dX4_reasonToChange_29 : decode cX4_reasonToChange 29 = .ok (.ifCond .eq 23, 3) := by decide +kernel
theorem dX4_reasonToChange_32 : decode cX4_reasonToChange 32 = .ok (.aload_n 0, 1) := by decide +kernel
theorem dX4_reasonToChange_33 : decode cX4_reasonToChange 33 = .ok (.getfield 56, 3) := by decide +kernel
theorem dX4_reasonToChange_36 : decode cX4_reasonToChange 36 = .ok (.invokestatic 109, 3) := by decide +kernel
theorem dX4_reasonToChange_39 : decode cX4_reasonToChange 39 = .ok (.ifCond .ne 13, 3) := by decide +kernel
theorem dX4_reasonToChange_42 : decode cX4_reasonToChange 42 = .ok (.aload_n 0, 1) := by decide +kernel
theorem dX4_reasonToChange_43 : decode cX4_reasonToChange 43 = .ok (.fload_n 1, 1) := by decide +kernel
theorem dX4_reasonToChange_44 : decode cX4_reasonToChange 44 = .ok (.invokevirtual 113, 3) := by decide +kernel
theorem dX4_reasonToChange_47 : decode cX4_reasonToChange 47 = .ok (.ifCond .eq 5, 3) := by decide +kernel
theorem dX4_reasonToChange_50 : decode cX4_reasonToChange 50 = .ok (.iconst 2, 1) := by decide +kernel
theorem dX4_reasonToChange_51 : decode cX4_reasonToChange 51 = .ok (.ireturn, 1) := by decide +kernel
theorem dX4_reasonToChange_52 : decode cX4_reasonToChange 52 = .ok (.aload_n 0, 1) := by decide +kernel
theorem dX4_reasonToChange_53 : decode cX4_reasonToChange 53 = .ok (.getfield 48, 3) := by decide +kernel
theorem dX4_reasonToChange_56 : decode cX4_reasonToChange 56 = .ok (.ifCond .ne 10, 3) := by decide +kernel
theorem dX4_reasonToChange_59 : decode cX4_reasonToChange 59 = .ok (.aload_n 0, 1) := by decide +kernel
theorem dX4_reasonToChange_60 : decode cX4_reasonToChange 60 = .ok (.getfield 45, 3) := by decide +kernel
theorem dX4_reasonToChange_63 : decode cX4_reasonToChange 63 = .ok (.ifCond .le 5, 3) := by decide +kernel
theorem dX4_reasonToChange_66 : decode cX4_reasonToChange 66 = .ok (.iconst (-1), 1) := by decide +kernel
theorem dX4_reasonToChange_67 : decode cX4_reasonToChange 67 = .ok (.ireturn, 1) := by decide +kernel
theorem dX4_reasonToChange_68 : decode cX4_reasonToChange 68 = .ok (.aload_n 0, 1) := by decide +kernel
theorem dX4_reasonToChange_69 : decode cX4_reasonToChange 69 = .ok (.getfield 35, 3) := by decide +kernel
theorem dX4_reasonToChange_72 : decode cX4_reasonToChange 72 = .ok (.iconst 5, 1) := by decide +kernel
theorem dX4_reasonToChange_73 : decode cX4_reasonToChange 73 = .ok (.if_icmp .ge 22, 3) := by decide +kernel
theorem dX4_reasonToChange_76 : decode cX4_reasonToChange 76 = .ok (.fload_n 1, 1) := by decide +kernel
theorem dX4_reasonToChange_77 : decode cX4_reasonToChange 77 = .ok (.aload_n 0, 1) := by decide +kernel
theorem dX4_reasonToChange_78 : decode cX4_reasonToChange 78 = .ok (.getfield 12, 3) := by decide +kernel
theorem dX4_reasonToChange_81 : decode cX4_reasonToChange 81 = .ok (.aload_n 0, 1) := by decide +kernel
theorem dX4_reasonToChange_82 : decode cX4_reasonToChange 82 = .ok (.getfield 35, 3) := by decide +kernel
theorem dX4_reasonToChange_85 : decode cX4_reasonToChange 85 = .ok (.fload_n 2, 1) := by decide +kernel
theorem dX4_reasonToChange_86 : decode cX4_reasonToChange 86 = .ok (.invokevirtual 117, 3) := by decide +kernel
theorem dX4_reasonToChange_89 : decode cX4_reasonToChange 89 = .ok (.fcmp .l, 1) := by decide +kernel
theorem dX4_reasonToChange_90 : decode cX4_reasonToChange 90 = .ok (.ifCond .le 5, 3) := by decide +kernel
theorem dX4_reasonToChange_93 : decode cX4_reasonToChange 93 = .ok (.iconst 0, 1) := by decide +kernel
theorem dX4_reasonToChange_94 : decode cX4_reasonToChange 94 = .ok (.ireturn, 1) := by decide +kernel
theorem dX4_reasonToChange_95 : decode cX4_reasonToChange 95 = .ok (.aload_n 0, 1) := by decide +kernel
theorem dX4_reasonToChange_96 : decode cX4_reasonToChange 96 = .ok (.getfield 35, 3) := by decide +kernel
theorem dX4_reasonToChange_99 : decode cX4_reasonToChange 99 = .ok (.iconst 1, 1) := by decide +kernel
theorem dX4_reasonToChange_100 : decode cX4_reasonToChange 100 = .ok (.if_icmp .le 24, 3) := by decide +kernel
theorem dX4_reasonToChange_103 : decode cX4_reasonToChange 103 = .ok (.fload_n 1, 1) := by decide +kernel
theorem dX4_reasonToChange_104 : decode cX4_reasonToChange 104 = .ok (.aload_n 0, 1) := by decide +kernel
theorem dX4_reasonToChange_105 : decode cX4_reasonToChange 105 = .ok (.getfield 12, 3) := by decide +kernel
theorem dX4_reasonToChange_108 : decode cX4_reasonToChange 108 = .ok (.aload_n 0, 1) := by decide +kernel
theorem dX4_reasonToChange_109 : decode cX4_reasonToChange 109 = .ok (.getfield 35, 3) := by decide +kernel
theorem dX4_reasonToChange_112 : decode cX4_reasonToChange 112 = .ok (.iconst 1, 1) := by decide +kernel
theorem dX4_reasonToChange_113 : decode cX4_reasonToChange 113 = .ok (.isub, 1) := by decide +kernel
theorem dX4_reasonToChange_114 : decode cX4_reasonToChange 114 = .ok (.fload_n 2, 1) := by decide +kernel
theorem dX4_reasonToChange_115 : decode cX4_reasonToChange 115 = .ok (.invokevirtual 121, 3) := by decide +kernel
theorem dX4_reasonToChange_118 : decode cX4_reasonToChange 118 = .ok (.fcmp .g, 1) := by decide +kernel
theorem dX4_reasonToChange_119 : decode cX4_reasonToChange 119 = .ok (.ifCond .ge 5, 3) := by decide +kernel
theorem dX4_reasonToChange_122 : decode cX4_reasonToChange 122 = .ok (.iconst 1, 1) := by decide +kernel
theorem dX4_reasonToChange_123 : decode cX4_reasonToChange 123 = .ok (.ireturn, 1) := by decide +kernel
theorem dX4_reasonToChange_124 : decode cX4_reasonToChange 124 = .ok (.iconst (-1), 1) := by decide +kernel
theorem dX4_reasonToChange_125 : decode cX4_reasonToChange 125 = .ok (.ireturn, 1) := by decide +kernel
theorem dX4_isDeep_0 : decode cX4_isDeep 0 = .ok (.fload_n 0, 1) := by decide +kernel
theorem dX4_isDeep_1 : decode cX4_isDeep 1 = .ok (.ldc 124, 2) := by decide +kernel
theorem dX4_isDeep_3 : decode cX4_isDeep 3 = .ok (.fcmp .l, 1) := by decide +kernel
theorem dX4_isDeep_4 : decode cX4_isDeep 4 = .ok (.ifCond .lt 7, 3) := by decide +kernel
theorem dX4_isDeep_7 : decode cX4_isDeep 7 = .ok (.iconst 1, 1) := by decide +kernel
theorem dX4_isDeep_8 : decode cX4_isDeep 8 = .ok (.goto 4, 3) := by decide +kernel
theorem dX4_isDeep_11 : decode cX4_isDeep 11 = .ok (.iconst 0, 1) := by decide +kernel
theorem dX4_isDeep_12 : decode cX4_isDeep 12 = .ok (.ireturn, 1) := by decide +kernel
set_option maxRecDepth 20000 in
theorem ggX4_kickdownGear_X3_exceeds : GoodIn wsX4_kickdownGear wsX3_exceeds := goodIn_r _ [11, 12, 13, 14, 10, 15, 16, 28] (by decide +kernel) (by decide +kernel)
set_option maxRecDepth 20000 in
theorem gX4_kickdownGear_X3_exceeds : GoodIn wsX4_kickdownGear (wsV RX4 105 RX3 yX3_exceeds wsX3_exceeds) := goodIn_app (goodIn_of _ (by decide +kernel)) ggX4_kickdownGear_X3_exceeds
theorem dX4_kickdownGear_0 : decode cX4_kickdownGear 0 = .ok (.aload_n 0, 1) := by decide +kernel
theorem dX4_kickdownGear_1 : decode cX4_kickdownGear 1 = .ok (.getfield 35, 3) := by decide +kernel
theorem dX4_kickdownGear_4 : decode cX4_kickdownGear 4 = .ok (.iconst 2, 1) := by decide +kernel
theorem dX4_kickdownGear_5 : decode cX4_kickdownGear 5 = .ok (.isub, 1) := by decide +kernel
theorem dX4_kickdownGear_6 : decode cX4_kickdownGear 6 = .ok (.iconst 1, 1) := by decide +kernel
theorem dX4_kickdownGear_7 : decode cX4_kickdownGear 7 = .ok (.invokestatic 125, 3) := by decide +kernel
theorem dX4_kickdownGear_10 : decode cX4_kickdownGear 10 = .ok (.istore_n 2, 1) := by decide +kernel
theorem dX4_kickdownGear_11 : decode cX4_kickdownGear 11 = .ok (.iload_n 2, 1) := by decide +kernel
theorem dX4_kickdownGear_12 : decode cX4_kickdownGear 12 = .ok (.aload_n 0, 1) := by decide +kernel
theorem dX4_kickdownGear_13 : decode cX4_kickdownGear 13 = .ok (.getfield 35, 3) := by decide +kernel
theorem dX4_kickdownGear_16 : decode cX4_kickdownGear 16 = .ok (.if_icmp .ge 23, 3) := by decide +kernel
theorem dX4_kickdownGear_19 : decode cX4_kickdownGear 19 = .ok (.aload_n 0, 1) := by decide +kernel
theorem dX4_kickdownGear_20 : decode cX4_kickdownGear 20 = .ok (.getfield 12, 3) := by decide +kernel
theorem dX4_kickdownGear_23 : decode cX4_kickdownGear 23 = .ok (.fload_n 1, 1) := by decide +kernel
theorem dX4_kickdownGear_24 : decode cX4_kickdownGear 24 = .ok (.iload_n 2, 1) := by decide +kernel
theorem dX4_kickdownGear_25 : decode cX4_kickdownGear 25 = .ok (.invokevirtual 105, 3) := by decide +kernel
theorem dX4_kickdownGear_28 : decode cX4_kickdownGear 28 = .ok (.ifCond .ne 5, 3) := by decide +kernel
theorem dX4_kickdownGear_31 : decode cX4_kickdownGear 31 = .ok (.iload_n 2, 1) := by decide +kernel
theorem dX4_kickdownGear_32 : decode cX4_kickdownGear 32 = .ok (.ireturn, 1) := by decide +kernel
theorem dX4_kickdownGear_33 : decode cX4_kickdownGear 33 = .ok (.iinc 2 1, 3) := by decide +kernel
theorem dX4_kickdownGear_36 : decode cX4_kickdownGear 36 = .ok (.goto (-25), 3) := by decide +kernel
theorem dX4_kickdownGear_39 : decode cX4_kickdownGear 39 = .ok (.iconst 0, 1) := by decide +kernel
theorem dX4_kickdownGear_40 : decode cX4_kickdownGear 40 = .ok (.ireturn, 1) := by decide +kernel
set_option maxRecDepth 20000 in
theorem ggX4_gearChosenBy_X4_kickdownGear : GoodIn wsX4_gearChosenBy wsX4_kickdownGear := goodIn_r _ [6, 1, 7, 8, 9, 10, 11, 12, 13, 14, 15, 16, 17, 18, 19, 20, 21, 22, 23, 24, 25, 26, 27, 28, 29, 30, 31, 32, 33] (by decide +kernel) (by decide +kernel)
set_option maxRecDepth 20000 in
theorem gX4_gearChosenBy_X4_kickdownGear : GoodIn wsX4_gearChosenBy (wsV RX4 113 RX4 yX4_kickdownGear wsX4_kickdownGear) := goodIn_app (goodIn_of _ (by decide +kernel)) ggX4_gearChosenBy_X4_kickdownGear
theorem dX4_gearChosenBy_0 : decode cX4_gearChosenBy 0 = .ok (.iload_n 1, 1) := by decide +kernel
theorem dX4_gearChosenBy_1 : decode cX4_gearChosenBy 1 = .ok (.lookupswitch 40 #[(1, 33), (2, 27)], 27) := by decide +kernel
theorem dX4_gearChosenBy_28 : decode cX4_gearChosenBy 28 = .ok (.aload_n 0, 1) := by decide +kernel
theorem dX4_gearChosenBy_29 : decode cX4_gearChosenBy 29 = .ok (.fload_n 2, 1) := by decide +kernel
theorem dX4_gearChosenBy_30 : decode cX4_gearChosenBy 30 = .ok (.invokevirtual 113, 3) := by decide +kernel
theorem dX4_gearChosenBy_33 : decode cX4_gearChosenBy 33 = .ok (.ireturn, 1) := by decide +kernel
theorem dX4_gearChosenBy_34 : decode cX4_gearChosenBy 34 = .ok (.aload_n 0, 1) := by decide +kernel
theorem dX4_gearChosenBy_35 : decode cX4_gearChosenBy 35 = .ok (.getfield 35, 3) := by decide +kernel
theorem dX4_gearChosenBy_38 : decode cX4_gearChosenBy 38 = .ok (.iconst 1, 1) := by decide +kernel
theorem dX4_gearChosenBy_39 : decode cX4_gearChosenBy 39 = .ok (.isub, 1) := by decide +kernel
theorem dX4_gearChosenBy_40 : decode cX4_gearChosenBy 40 = .ok (.ireturn, 1) := by decide +kernel
theorem dX4_gearChosenBy_41 : decode cX4_gearChosenBy 41 = .ok (.aload_n 0, 1) := by decide +kernel
theorem dX4_gearChosenBy_42 : decode cX4_gearChosenBy 42 = .ok (.getfield 35, 3) := by decide +kernel
theorem dX4_gearChosenBy_45 : decode cX4_gearChosenBy 45 = .ok (.iconst 1, 1) := by decide +kernel
theorem dX4_gearChosenBy_46 : decode cX4_gearChosenBy 46 = .ok (.iadd, 1) := by decide +kernel
theorem dX4_gearChosenBy_47 : decode cX4_gearChosenBy 47 = .ok (.ireturn, 1) := by decide +kernel
set_option maxRecDepth 20000 in
theorem ggX4_countTick_X4_countOneMore : GoodIn wsX4_countTick wsX4_countOneMore := goodIn_r _ [6, 7, 13, 14, 15, 16, 17, 18, 19, 20, 21, 22, 23] (by decide +kernel) (by decide +kernel)
set_option maxRecDepth 20000 in
theorem gX4_countTick_X4_countOneMore : GoodIn wsX4_countTick (wsV RX4 131 RX4 yX4_countOneMore wsX4_countOneMore) := goodIn_app (goodIn_of _ (by decide +kernel)) ggX4_countTick_X4_countOneMore
set_option maxRecDepth 20000 in
theorem ggX4_countTick_X4_isChanging : GoodIn wsX4_countTick wsX4_isChanging := goodIn_r _ [11, 12, 13, 14, 15, 16, 17, 18, 19, 20, 21, 22, 23] (by decide +kernel) (by decide +kernel)
set_option maxRecDepth 20000 in
theorem gX4_countTick_X4_isChanging : GoodIn wsX4_countTick (wsV RX4 86 RX4 yX4_isChanging wsX4_isChanging) := goodIn_app (goodIn_of _ (by decide +kernel)) ggX4_countTick_X4_isChanging
theorem dX4_countTick_0 : decode cX4_countTick 0 = .ok (.aload_n 0, 1) := by decide +kernel
theorem dX4_countTick_1 : decode cX4_countTick 1 = .ok (.iconst 0, 1) := by decide +kernel
theorem dX4_countTick_2 : decode cX4_countTick 2 = .ok (.invokevirtual 131, 3) := by decide +kernel
theorem dX4_countTick_5 : decode cX4_countTick 5 = .ok (.aload_n 0, 1) := by decide +kernel
theorem dX4_countTick_6 : decode cX4_countTick 6 = .ok (.bipush 7, 2) := by decide +kernel
theorem dX4_countTick_8 : decode cX4_countTick 8 = .ok (.aload_n 0, 1) := by decide +kernel
theorem dX4_countTick_9 : decode cX4_countTick 9 = .ok (.getfield 35, 3) := by decide +kernel
theorem dX4_countTick_12 : decode cX4_countTick 12 = .ok (.iadd, 1) := by decide +kernel
theorem dX4_countTick_13 : decode cX4_countTick 13 = .ok (.iconst 1, 1) := by decide +kernel
theorem dX4_countTick_14 : decode cX4_countTick 14 = .ok (.isub, 1) := by decide +kernel
theorem dX4_countTick_15 : decode cX4_countTick 15 = .ok (.invokevirtual 131, 3) := by decide +kernel
theorem dX4_countTick_18 : decode cX4_countTick 18 = .ok (.aload_n 0, 1) := by decide +kernel
theorem dX4_countTick_19 : decode cX4_countTick 19 = .ok (.invokevirtual 86, 3) := by decide +kernel
theorem dX4_countTick_22 : decode cX4_countTick 22 = .ok (.ifCond .eq 9, 3) := by decide +kernel
theorem dX4_countTick_25 : decode cX4_countTick 25 = .ok (.aload_n 0, 1) := by decide +kernel
end
section
theorem dX4_countTick_26 : decode cX4_countTick 26 = .ok (.bipush 12, 2) := by decide +kernel
theorem dX4_countTick_28 : decode cX4_countTick 28 = .ok (.invokevirtual 131, 3) := by decide +kernel
theorem dX4_countTick_31 : decode cX4_countTick 31 = .ok (.return_, 1) := by decide +kernel
set_option maxRecDepth 20000 in
theorem ggX4_mayShiftTo_X4_isChanging : GoodIn wsX4_mayShiftTo wsX4_isChanging := goodIn_r _ [8, 9, 20, 21, 22, 23, 24, 25, 26, 27, 28, 29, 30] (by decide +kernel) (by decide +kernel)
set_option maxRecDepth 20000 in
theorem gX4_mayShiftTo_X4_isChanging : GoodIn wsX4_mayShiftTo (wsV RX4 86 RX4 yX4_isChanging wsX4_isChanging) := goodIn_app (goodIn_of _ (by decide +kernel)) ggX4_mayShiftTo_X4_isChanging
set_option maxRecDepth 20000 in
theorem ggX4_mayShiftTo_X3_exceeds : GoodIn wsX4_mayShiftTo wsX3_exceeds := goodIn_r _ [14, 15, 16, 17, 13, 18, 19, 31] (by decide +kernel) (by decide +kernel)
set_option maxRecDepth 20000 in
theorem gX4_mayShiftTo_X3_exceeds : GoodIn wsX4_mayShiftTo (wsV RX4 105 RX3 yX3_exceeds wsX3_exceeds) := goodIn_app (goodIn_of _ (by decide +kernel)) ggX4_mayShiftTo_X3_exceeds
theorem dX4_mayShiftTo_0 : decode cX4_mayShiftTo 0 = .ok (.aload_n 0, 1) := by decide +kernel
theorem dX4_mayShiftTo_1 : decode cX4_mayShiftTo 1 = .ok (.getfield 48, 3) := by decide +kernel
theorem dX4_mayShiftTo_4 : decode cX4_mayShiftTo 4 = .ok (.ifCond .eq 39, 3) := by decide +kernel
theorem dX4_mayShiftTo_7 : decode cX4_mayShiftTo 7 = .ok (.aload_n 0, 1) := by decide +kernel
theorem dX4_mayShiftTo_8 : decode cX4_mayShiftTo 8 = .ok (.invokevirtual 86, 3) := by decide +kernel
theorem dX4_mayShiftTo_11 : decode cX4_mayShiftTo 11 = .ok (.ifCond .ne 32, 3) := by decide +kernel
theorem dX4_mayShiftTo_14 : decode cX4_mayShiftTo 14 = .ok (.iload_n 1, 1) := by decide +kernel
theorem dX4_mayShiftTo_15 : decode cX4_mayShiftTo 15 = .ok (.iconst 1, 1) := by decide +kernel
theorem dX4_mayShiftTo_16 : decode cX4_mayShiftTo 16 = .ok (.if_icmp .lt 27, 3) := by decide +kernel
theorem dX4_mayShiftTo_19 : decode cX4_mayShiftTo 19 = .ok (.iload_n 1, 1) := by decide +kernel
theorem dX4_mayShiftTo_20 : decode cX4_mayShiftTo 20 = .ok (.iconst 5, 1) := by decide +kernel
theorem dX4_mayShiftTo_21 : decode cX4_mayShiftTo 21 = .ok (.if_icmp .gt 22, 3) := by decide +kernel
theorem dX4_mayShiftTo_24 : decode cX4_mayShiftTo 24 = .ok (.aload_n 0, 1) := by decide +kernel
theorem dX4_mayShiftTo_25 : decode cX4_mayShiftTo 25 = .ok (.getfield 12, 3) := by decide +kernel
theorem dX4_mayShiftTo_28 : decode cX4_mayShiftTo 28 = .ok (.aload_n 0, 1) := by decide +kernel
theorem dX4_mayShiftTo_29 : decode cX4_mayShiftTo 29 = .ok (.getfield 52, 3) := by decide +kernel
theorem dX4_mayShiftTo_32 : decode cX4_mayShiftTo 32 = .ok (.iload_n 1, 1) := by decide +kernel
theorem dX4_mayShiftTo_33 : decode cX4_mayShiftTo 33 = .ok (.invokevirtual 105, 3) := by decide +kernel
theorem dX4_mayShiftTo_36 : decode cX4_mayShiftTo 36 = .ok (.ifCond .ne 7, 3) := by decide +kernel
theorem dX4_mayShiftTo_39 : decode cX4_mayShiftTo 39 = .ok (.iconst 1, 1) := by decide +kernel
theorem dX4_mayShiftTo_40 : decode cX4_mayShiftTo 40 = .ok (.goto 4, 3) := by decide +kernel
theorem dX4_mayShiftTo_43 : decode cX4_mayShiftTo 43 = .ok (.iconst 0, 1) := by decide +kernel
theorem dX4_mayShiftTo_44 : decode cX4_mayShiftTo 44 = .ok (.ireturn, 1) := by decide +kernel
set_option maxRecDepth 20000 in
theorem ggX4_begin_X4_swings : GoodIn wsX4_begin wsX4_swings := goodIn_r _ [10, 1, 11, 12, 13, 14, 15, 16, 17, 18, 19, 20, 21, 9, 22, 23, 24, 25, 26, 27, 28, 29, 30, 31, 32, 45, 46, 47, 48, 49, 50, 51, 52, 53, 54, 55, 56, 57, 58] (by decide +kernel) (by decide +kernel)
set_option maxRecDepth 20000 in
theorem gX4_begin_X4_swings : GoodIn wsX4_begin (wsV RX4 135 RX4 yX4_swings wsX4_swings) := goodIn_app (goodIn_of _ (by decide +kernel)) ggX4_begin_X4_swings
set_option maxRecDepth 20000 in
theorem ggX4_begin_X4_tick : GoodIn wsX4_begin wsX4_tick := goodIn_r _ [22, 23, 24, 25, 9, 26, 27, 45, 46, 47, 48, 49, 50, 51, 52, 53, 54, 55] (by decide +kernel) (by decide +kernel)
set_option maxRecDepth 20000 in
theorem gX4_begin_X4_tick : GoodIn wsX4_begin (wsV RX4 139 RX4 yX4_tick wsX4_tick) := goodIn_app (goodIn_of _ (by decide +kernel)) ggX4_begin_X4_tick
set_option maxRecDepth 20000 in
theorem ggX4_begin_X2_add : GoodIn wsX4_begin wsX2_add := goodIn_r _ [36, 17, 18, 16, 37, 38, 39, 40, 56, 57, 58] (by decide +kernel) (by decide +kernel)
set_option maxRecDepth 20000 in
theorem gX4_begin_X2_add : GoodIn wsX4_begin (wsV RX4 143 RX2 yX2_add wsX2_add) := goodIn_app (goodIn_of _ (by decide +kernel)) ggX4_begin_X2_add
set_option maxRecDepth 20000 in
theorem ggX4_begin_X4_countOneMore : GoodIn wsX4_begin wsX4_countOneMore := goodIn_r _ [44, 27, 45, 46, 47, 48, 49, 50, 51, 52, 53, 54, 55] (by decide +kernel) (by decide +kernel)
set_option maxRecDepth 20000 in
theorem gX4_begin_X4_countOneMore : GoodIn wsX4_begin (wsV RX4 131 RX4 yX4_countOneMore wsX4_countOneMore) := goodIn_app (goodIn_of _ (by decide +kernel)) ggX4_begin_X4_countOneMore
set_option maxRecDepth 20000 in
theorem ggX4_begin_X4_setting : GoodIn wsX4_begin wsX4_setting := goodIn_r _ [31, 32, 45, 46, 47, 48, 49, 50, 51, 52, 53, 54, 55] (by decide +kernel) (by decide +kernel)
set_option maxRecDepth 20000 in
theorem gX4_begin_X4_setting : GoodIn wsX4_begin (wsV RX4 72 RX4 yX4_setting wsX4_setting) := goodIn_app (goodIn_of _ (by decide +kernel)) ggX4_begin_X4_setting
theorem dX4_begin_0 : decode cX4_begin 0 = .ok (.aload_n 0, 1) := by decide +kernel
theorem dX4_begin_1 : decode cX4_begin 1 = .ok (.iload_n 1, 1) := by decide +kernel
theorem dX4_begin_2 : decode cX4_begin 2 = .ok (.invokevirtual 135, 3) := by decide +kernel
theorem dX4_begin_5 : decode cX4_begin 5 = .ok (.istore_n 3, 1) := by decide +kernel
theorem dX4_begin_6 : decode cX4_begin 6 = .ok (.aload_n 0, 1) := by decide +kernel
theorem dX4_begin_7 : decode cX4_begin 7 = .ok (.getfield 21, 3) := by decide +kernel
theorem dX4_begin_10 : decode cX4_begin 10 = .ok (.aload_n 0, 1) := by decide +kernel
theorem dX4_begin_11 : decode cX4_begin 11 = .ok (.invokevirtual 139, 3) := by decide +kernel
theorem dX4_begin_14 : decode cX4_begin 14 = .ok (.aload_n 0, 1) := by decide +kernel
theorem dX4_begin_15 : decode cX4_begin 15 = .ok (.getfield 35, 3) := by decide +kernel
theorem dX4_begin_18 : decode cX4_begin 18 = .ok (.iload_n 2, 1) := by decide +kernel
theorem dX4_begin_19 : decode cX4_begin 19 = .ok (.iload_n 1, 1) := by decide +kernel
theorem dX4_begin_20 : decode cX4_begin 20 = .ok (.iload_n 3, 1) := by decide +kernel
theorem dX4_begin_21 : decode cX4_begin 21 = .ok (.invokevirtual 143, 3) := by decide +kernel
theorem dX4_begin_24 : decode cX4_begin 24 = .ok (.aload_n 0, 1) := by decide +kernel
theorem dX4_begin_25 : decode cX4_begin 25 = .ok (.iload_n 2, 1) := by decide +kernel
theorem dX4_begin_26 : decode cX4_begin 26 = .ok (.putfield 39, 3) := by decide +kernel
theorem dX4_begin_29 : decode cX4_begin 29 = .ok (.aload_n 0, 1) := by decide +kernel
theorem dX4_begin_30 : decode cX4_begin 30 = .ok (.iconst 0, 1) := by decide +kernel
theorem dX4_begin_31 : decode cX4_begin 31 = .ok (.putfield 42, 3) := by decide +kernel
theorem dX4_begin_34 : decode cX4_begin 34 = .ok (.aload_n 0, 1) := by decide +kernel
theorem dX4_begin_35 : decode cX4_begin 35 = .ok (.iconst 1, 1) := by decide +kernel
theorem dX4_begin_36 : decode cX4_begin 36 = .ok (.iload_n 1, 1) := by decide +kernel
theorem dX4_begin_37 : decode cX4_begin 37 = .ok (.iadd, 1) := by decide +kernel
theorem dX4_begin_38 : decode cX4_begin 38 = .ok (.invokevirtual 131, 3) := by decide +kernel
theorem dX4_begin_41 : decode cX4_begin 41 = .ok (.iload_n 3, 1) := by decide +kernel
theorem dX4_begin_42 : decode cX4_begin 42 = .ok (.ifCond .eq 18, 3) := by decide +kernel
theorem dX4_begin_45 : decode cX4_begin 45 = .ok (.aload_n 0, 1) := by decide +kernel
theorem dX4_begin_46 : decode cX4_begin 46 = .ok (.aload_n 0, 1) := by decide +kernel
theorem dX4_begin_47 : decode cX4_begin 47 = .ok (.iconst 3, 1) := by decide +kernel
theorem dX4_begin_48 : decode cX4_begin 48 = .ok (.invokevirtual 72, 3) := by decide +kernel
theorem dX4_begin_51 : decode cX4_begin 51 = .ok (.putfield 45, 3) := by decide +kernel
theorem dX4_begin_54 : decode cX4_begin 54 = .ok (.aload_n 0, 1) := by decide +kernel
theorem dX4_begin_55 : decode cX4_begin 55 = .ok (.bipush 6, 2) := by decide +kernel
theorem dX4_begin_57 : decode cX4_begin 57 = .ok (.invokevirtual 131, 3) := by decide +kernel
theorem dX4_begin_60 : decode cX4_begin 60 = .ok (.return_, 1) := by decide +kernel
set_option maxRecDepth 20000 in
theorem ggX4_swings_X2_told : GoodIn wsX4_swings wsX2_told := goodIn_r _ [6, 7, 8, 9, 36, 37, 38] (by decide +kernel) (by decide +kernel)
set_option maxRecDepth 20000 in
theorem gX4_swings_X2_told : GoodIn wsX4_swings (wsV RX4 147 RX2 yX2_told wsX2_told) := goodIn_app (goodIn_of _ (by decide +kernel)) ggX4_swings_X2_told
set_option maxRecDepth 20000 in
theorem ggX4_swings_X4_tick : GoodIn wsX4_swings wsX4_tick := goodIn_r _ [14, 15, 16, 17, 13, 18, 19, 25, 26, 27, 28, 29, 30, 31, 32, 33, 34, 35] (by decide +kernel) (by decide +kernel)
set_option maxRecDepth 20000 in
theorem gX4_swings_X4_tick : GoodIn wsX4_swings (wsV RX4 139 RX4 yX4_tick wsX4_tick) := goodIn_app (goodIn_of _ (by decide +kernel)) ggX4_swings_X4_tick
set_option maxRecDepth 20000 in
theorem ggX4_swings_X4_setting : GoodIn wsX4_swings wsX4_setting := goodIn_r _ [23, 24, 25, 26, 27, 28, 29, 30, 31, 32, 33, 34, 35] (by decide +kernel) (by decide +kernel)
set_option maxRecDepth 20000 in
theorem gX4_swings_X4_setting : GoodIn wsX4_swings (wsV RX4 72 RX4 yX4_setting wsX4_setting) := goodIn_app (goodIn_of _ (by decide +kernel)) ggX4_swings_X4_setting
theorem dX4_swings_0 : decode cX4_swings 0 = .ok (.iload_n 1, 1) := by decide +kernel
theorem dX4_swings_1 : decode cX4_swings 1 = .ok (.ifCond .eq 10, 3) := by decide +kernel
theorem dX4_swings_4 : decode cX4_swings 4 = .ok (.iload_n 1, 1) := by decide +kernel
theorem dX4_swings_5 : decode cX4_swings 5 = .ok (.iconst 1, 1) := by decide +kernel
theorem dX4_swings_6 : decode cX4_swings 6 = .ok (.if_icmp .eq 5, 3) := by decide +kernel
theorem dX4_swings_9 : decode cX4_swings 9 = .ok (.iconst 0, 1) := by decide +kernel
theorem dX4_swings_10 : decode cX4_swings 10 = .ok (.ireturn, 1) := by decide +kernel
theorem dX4_swings_11 : decode cX4_swings 11 = .ok (.iload_n 1, 1) := by decide +kernel
theorem dX4_swings_12 : decode cX4_swings 12 = .ok (.ifCond .ne 7, 3) := by decide +kernel
theorem dX4_swings_15 : decode cX4_swings 15 = .ok (.iconst 1, 1) := by decide +kernel
theorem dX4_swings_16 : decode cX4_swings 16 = .ok (.goto 4, 3) := by decide +kernel
theorem dX4_swings_19 : decode cX4_swings 19 = .ok (.iconst 0, 1) := by decide +kernel
theorem dX4_swings_20 : decode cX4_swings 20 = .ok (.istore_n 2, 1) := by decide +kernel
theorem dX4_swings_21 : decode cX4_swings 21 = .ok (.aload_n 0, 1) := by decide +kernel
theorem dX4_swings_22 : decode cX4_swings 22 = .ok (.getfield 21, 3) := by decide +kernel
theorem dX4_swings_25 : decode cX4_swings 25 = .ok (.iconst 0, 1) := by decide +kernel
theorem dX4_swings_26 : decode cX4_swings 26 = .ok (.iconst 3, 1) := by decide +kernel
theorem dX4_swings_27 : decode cX4_swings 27 = .ok (.invokevirtual 147, 3) := by decide +kernel
theorem dX4_swings_30 : decode cX4_swings 30 = .ok (.iload_n 2, 1) := by decide +kernel
theorem dX4_swings_31 : decode cX4_swings 31 = .ok (.if_icmp .ne 42, 3) := by decide +kernel
theorem dX4_swings_34 : decode cX4_swings 34 = .ok (.aload_n 0, 1) := by decide +kernel
theorem dX4_swings_35 : decode cX4_swings 35 = .ok (.getfield 21, 3) := by decide +kernel
theorem dX4_swings_38 : decode cX4_swings 38 = .ok (.iconst 1, 1) := by decide +kernel
theorem dX4_swings_39 : decode cX4_swings 39 = .ok (.iconst 3, 1) := by decide +kernel
theorem dX4_swings_40 : decode cX4_swings 40 = .ok (.invokevirtual 147, 3) := by decide +kernel
theorem dX4_swings_43 : decode cX4_swings 43 = .ok (.iload_n 1, 1) := by decide +kernel
theorem dX4_swings_44 : decode cX4_swings 44 = .ok (.if_icmp .ne 29, 3) := by decide +kernel
theorem dX4_swings_47 : decode cX4_swings 47 = .ok (.aload_n 0, 1) := by decide +kernel
theorem dX4_swings_48 : decode cX4_swings 48 = .ok (.invokevirtual 139, 3) := by decide +kernel
theorem dX4_swings_51 : decode cX4_swings 51 = .ok (.aload_n 0, 1) := by decide +kernel
theorem dX4_swings_52 : decode cX4_swings 52 = .ok (.getfield 21, 3) := by decide +kernel
theorem dX4_swings_55 : decode cX4_swings 55 = .ok (.iconst 1, 1) := by decide +kernel
theorem dX4_swings_56 : decode cX4_swings 56 = .ok (.iconst 0, 1) := by decide +kernel
theorem dX4_swings_57 : decode cX4_swings 57 = .ok (.invokevirtual 147, 3) := by decide +kernel
theorem dX4_swings_60 : decode cX4_swings 60 = .ok (.isub, 1) := by decide +kernel
theorem dX4_swings_61 : decode cX4_swings 61 = .ok (.aload_n 0, 1) := by decide +kernel
theorem dX4_swings_62 : decode cX4_swings 62 = .ok (.iconst 2, 1) := by decide +kernel
theorem dX4_swings_63 : decode cX4_swings 63 = .ok (.invokevirtual 72, 3) := by decide +kernel
theorem dX4_swings_66 : decode cX4_swings 66 = .ok (.if_icmp .gt 7, 3) := by decide +kernel
theorem dX4_swings_69 : decode cX4_swings 69 = .ok (.iconst 1, 1) := by decide +kernel
theorem dX4_swings_70 : decode cX4_swings 70 = .ok (.goto 4, 3) := by decide +kernel
theorem dX4_swings_73 : decode cX4_swings 73 = .ok (.iconst 0, 1) := by decide +kernel
theorem dX4_swings_74 : decode cX4_swings 74 = .ok (.ireturn, 1) := by decide +kernel
theorem dX4_isClosed_0 : decode cX4_isClosed 0 = .ok (.iload_n 1, 1) := by decide +kernel
theorem dX4_isClosed_1 : decode cX4_isClosed 1 = .ok (.iconst 1, 1) := by decide +kernel
theorem dX4_isClosed_2 : decode cX4_isClosed 2 = .ok (.isub, 1) := by decide +kernel
theorem dX4_isClosed_3 : decode cX4_isClosed 3 = .ok (.istore_n 2, 1) := by decide +kernel
theorem dX4_isClosed_4 : decode cX4_isClosed 4 = .ok (.iload_n 2, 1) := by decide +kernel
theorem dX4_isClosed_5 : decode cX4_isClosed 5 = .ok (.ifCond .lt 19, 3) := by decide +kernel
theorem dX4_isClosed_8 : decode cX4_isClosed 8 = .ok (.iload_n 2, 1) := by decide +kernel
theorem dX4_isClosed_9 : decode cX4_isClosed 9 = .ok (.getstatic 150, 3) := by decide +kernel
theorem dX4_isClosed_12 : decode cX4_isClosed 12 = .ok (.arraylength, 1) := by decide +kernel
theorem dX4_isClosed_13 : decode cX4_isClosed 13 = .ok (.if_icmp .ge 11, 3) := by decide +kernel
theorem dX4_isClosed_16 : decode cX4_isClosed 16 = .ok (.iload_n 2, 1) := by decide +kernel
theorem dX4_isClosed_17 : decode cX4_isClosed 17 = .ok (.getstatic 153, 3) := by decide +kernel
theorem dX4_isClosed_20 : decode cX4_isClosed 20 = .ok (.arraylength, 1) := by decide +kernel
theorem dX4_isClosed_21 : decode cX4_isClosed 21 = .ok (.if_icmp .lt 5, 3) := by decide +kernel
theorem dX4_isClosed_24 : decode cX4_isClosed 24 = .ok (.iconst 0, 1) := by decide +kernel
theorem dX4_isClosed_25 : decode cX4_isClosed 25 = .ok (.ireturn, 1) := by decide +kernel
theorem dX4_isClosed_26 : decode cX4_isClosed 26 = .ok (.iload_n 0, 1) := by decide +kernel
theorem dX4_isClosed_27 : decode cX4_isClosed 27 = .ok (.getstatic 150, 3) := by decide +kernel
theorem dX4_isClosed_30 : decode cX4_isClosed 30 = .ok (.iload_n 2, 1) := by decide +kernel
theorem dX4_isClosed_31 : decode cX4_isClosed 31 = .ok (.iaload, 1) := by decide +kernel
theorem dX4_isClosed_32 : decode cX4_isClosed 32 = .ok (.if_icmp .eq 12, 3) := by decide +kernel
theorem dX4_isClosed_35 : decode cX4_isClosed 35 = .ok (.iload_n 0, 1) := by decide +kernel
theorem dX4_isClosed_36 : decode cX4_isClosed 36 = .ok (.getstatic 153, 3) := by decide +kernel
theorem dX4_isClosed_39 : decode cX4_isClosed 39 = .ok (.iload_n 2, 1) := by decide +kernel
theorem dX4_isClosed_40 : decode cX4_isClosed 40 = .ok (.iaload, 1) := by decide +kernel
theorem dX4_isClosed_41 : decode cX4_isClosed 41 = .ok (.if_icmp .ne 7, 3) := by decide +kernel
theorem dX4_isClosed_44 : decode cX4_isClosed 44 = .ok (.iconst 1, 1) := by decide +kernel
theorem dX4_isClosed_45 : decode cX4_isClosed 45 = .ok (.goto 4, 3) := by decide +kernel
theorem dX4_isClosed_48 : decode cX4_isClosed 48 = .ok (.iconst 0, 1) := by decide +kernel
theorem dX4_isClosed_49 : decode cX4_isClosed 49 = .ok (.ireturn, 1) := by decide +kernel
set_option maxRecDepth 20000 in
theorem ggX4_closedOnlyIn_X4_isClosed : GoodIn wsX4_closedOnlyIn wsX4_isClosed := goodIn_r _ [4, 5, 6] (by decide +kernel) (by decide +kernel)
set_option maxRecDepth 20000 in
theorem gX4_closedOnlyIn_X4_isClosed : GoodIn wsX4_closedOnlyIn (va_wsS RX4 156 yX4_isClosed wsX4_isClosed) := goodIn_app (goodIn_of _ (by decide +kernel)) ggX4_closedOnlyIn_X4_isClosed
theorem dX4_closedOnlyIn_0 : decode cX4_closedOnlyIn 0 = .ok (.iconst 0, 1) := by decide +kernel
theorem dX4_closedOnlyIn_1 : decode cX4_closedOnlyIn 1 = .ok (.istore_n 2, 1) := by decide +kernel
theorem dX4_closedOnlyIn_2 : decode cX4_closedOnlyIn 2 = .ok (.iload_n 2, 1) := by decide +kernel
theorem dX4_closedOnlyIn_3 : decode cX4_closedOnlyIn 3 = .ok (.iconst 5, 1) := by decide +kernel
theorem dX4_closedOnlyIn_4 : decode cX4_closedOnlyIn 4 = .ok (.if_icmp .ge 27, 3) := by decide +kernel
theorem dX4_closedOnlyIn_7 : decode cX4_closedOnlyIn 7 = .ok (.iload_n 2, 1) := by decide +kernel
theorem dX4_closedOnlyIn_8 : decode cX4_closedOnlyIn 8 = .ok (.iload_n 0, 1) := by decide +kernel
theorem dX4_closedOnlyIn_9 : decode cX4_closedOnlyIn 9 = .ok (.invokestatic 156, 3) := by decide +kernel
theorem dX4_closedOnlyIn_12 : decode cX4_closedOnlyIn 12 = .ok (.ifCond .eq 13, 3) := by decide +kernel
theorem dX4_closedOnlyIn_15 : decode cX4_closedOnlyIn 15 = .ok (.iload_n 2, 1) := by decide +kernel
theorem dX4_closedOnlyIn_16 : decode cX4_closedOnlyIn 16 = .ok (.iload_n 1, 1) := by decide +kernel
theorem dX4_closedOnlyIn_17 : decode cX4_closedOnlyIn 17 = .ok (.invokestatic 156, 3) := by decide +kernel
theorem dX4_closedOnlyIn_20 : decode cX4_closedOnlyIn 20 = .ok (.ifCond .ne 5, 3) := by decide +kernel
theorem dX4_closedOnlyIn_23 : decode cX4_closedOnlyIn 23 = .ok (.iload_n 2, 1) := by decide +kernel
theorem dX4_closedOnlyIn_24 : decode cX4_closedOnlyIn 24 = .ok (.ireturn, 1) := by decide +kernel
theorem dX4_closedOnlyIn_25 : decode cX4_closedOnlyIn 25 = .ok (.iinc 2 1, 3) := by decide +kernel
theorem dX4_closedOnlyIn_28 : decode cX4_closedOnlyIn 28 = .ok (.goto (-26), 3) := by decide +kernel
theorem dX4_closedOnlyIn_31 : decode cX4_closedOnlyIn 31 = .ok (.bipush (-5), 2) := by decide +kernel
theorem dX4_closedOnlyIn_33 : decode cX4_closedOnlyIn 33 = .ok (.ireturn, 1) := by decide +kernel
set_option maxRecDepth 20000 in
theorem ggX4_opening_X4_isChanging : GoodIn wsX4_opening wsX4_isChanging := goodIn_r _ [7, 2, 16, 17, 18, 19, 20, 21, 22, 23, 24, 25, 26] (by decide +kernel) (by decide +kernel)
set_option maxRecDepth 20000 in
theorem gX4_opening_X4_isChanging : GoodIn wsX4_opening (wsV RX4 86 RX4 yX4_isChanging wsX4_isChanging) := goodIn_app (goodIn_of _ (by decide +kernel)) ggX4_opening_X4_isChanging
set_option maxRecDepth 20000 in
theorem ggX4_opening_X4_closedOnlyIn : GoodIn wsX4_opening wsX4_closedOnlyIn := goodIn_r _ [10, 11, 12, 6, 13, 14, 15] (by decide +kernel) (by decide +kernel)
set_option maxRecDepth 20000 in
theorem gX4_opening_X4_closedOnlyIn : GoodIn wsX4_opening (va_wsS RX4 160 yX4_closedOnlyIn wsX4_closedOnlyIn) := goodIn_app (goodIn_of _ (by decide +kernel)) ggX4_opening_X4_closedOnlyIn
theorem dX4_opening_0 : decode cX4_opening 0 = .ok (.aload_n 0, 1) := by decide +kernel
theorem dX4_opening_1 : decode cX4_opening 1 = .ok (.invokevirtual 86, 3) := by decide +kernel
theorem dX4_opening_4 : decode cX4_opening 4 = .ok (.ifCond .eq 17, 3) := by decide +kernel
theorem dX4_opening_7 : decode cX4_opening 7 = .ok (.aload_n 0, 1) := by decide +kernel
theorem dX4_opening_8 : decode cX4_opening 8 = .ok (.getfield 35, 3) := by decide +kernel
theorem dX4_opening_11 : decode cX4_opening 11 = .ok (.aload_n 0, 1) := by decide +kernel
theorem dX4_opening_12 : decode cX4_opening 12 = .ok (.getfield 39, 3) := by decide +kernel
theorem dX4_opening_15 : decode cX4_opening 15 = .ok (.invokestatic 160, 3) := by decide +kernel
theorem dX4_opening_18 : decode cX4_opening 18 = .ok (.goto 5, 3) := by decide +kernel
theorem dX4_opening_21 : decode cX4_opening 21 = .ok (.bipush (-5), 2) := by decide +kernel
theorem dX4_opening_23 : decode cX4_opening 23 = .ok (.ireturn, 1) := by decide +kernel
set_option maxRecDepth 20000 in
theorem ggX4_closing_X4_isChanging : GoodIn wsX4_closing wsX4_isChanging := goodIn_r _ [7, 1, 16, 17, 18, 19, 20, 21, 22, 23, 24, 25, 26] (by decide +kernel) (by decide +kernel)
set_option maxRecDepth 20000 in
theorem gX4_closing_X4_isChanging : GoodIn wsX4_closing (wsV RX4 86 RX4 yX4_isChanging wsX4_isChanging) := goodIn_app (goodIn_of _ (by decide +kernel)) ggX4_closing_X4_isChanging
set_option maxRecDepth 20000 in
theorem ggX4_closing_X4_closedOnlyIn : GoodIn wsX4_closing wsX4_closedOnlyIn := goodIn_r _ [10, 11, 12, 6, 13, 14, 15] (by decide +kernel) (by decide +kernel)
set_option maxRecDepth 20000 in
theorem gX4_closing_X4_closedOnlyIn : GoodIn wsX4_closing (va_wsS RX4 160 yX4_closedOnlyIn wsX4_closedOnlyIn) := goodIn_app (goodIn_of _ (by decide +kernel)) ggX4_closing_X4_closedOnlyIn
theorem dX4_closing_0 : decode cX4_closing 0 = .ok (.aload_n 0, 1) := by decide +kernel
theorem dX4_closing_1 : decode cX4_closing 1 = .ok (.invokevirtual 86, 3) := by decide +kernel
theorem dX4_closing_4 : decode cX4_closing 4 = .ok (.ifCond .eq 17, 3) := by decide +kernel
theorem dX4_closing_7 : decode cX4_closing 7 = .ok (.aload_n 0, 1) := by decide +kernel
theorem dX4_closing_8 : decode cX4_closing 8 = .ok (.getfield 39, 3) := by decide +kernel
theorem dX4_closing_11 : decode cX4_closing 11 = .ok (.aload_n 0, 1) := by decide +kernel
theorem dX4_closing_12 : decode cX4_closing 12 = .ok (.getfield 35, 3) := by decide +kernel
theorem dX4_closing_15 : decode cX4_closing 15 = .ok (.invokestatic 160, 3) := by decide +kernel
theorem dX4_closing_18 : decode cX4_closing 18 = .ok (.goto 5, 3) := by decide +kernel
theorem dX4_closing_21 : decode cX4_closing 21 = .ok (.bipush (-5), 2) := by decide +kernel
theorem dX4_closing_23 : decode cX4_closing 23 = .ok (.ireturn, 1) := by decide +kernel
set_option maxRecDepth 20000 in
theorem ggX4_pressureOf_X4_isChanging : GoodIn wsX4_pressureOf wsX4_isChanging := goodIn_r _ [6, 7, 38, 39, 40, 41, 42, 43, 44, 45, 46, 47, 48] (by decide +kernel) (by decide +kernel)
set_option maxRecDepth 20000 in
theorem gX4_pressureOf_X4_isChanging : GoodIn wsX4_pressureOf (wsV RX4 86 RX4 yX4_isChanging wsX4_isChanging) := goodIn_app (goodIn_of _ (by decide +kernel)) ggX4_pressureOf_X4_isChanging
set_option maxRecDepth 20000 in
theorem ggX4_pressureOf_X4_opening : GoodIn wsX4_pressureOf wsX4_opening := goodIn_r _ [11, 1, 7, 2, 3, 4, 5, 6, 12, 13, 14, 15, 16, 17, 18, 19, 38, 39, 40, 41, 42, 43, 44, 45, 46, 47, 48] (by decide +kernel) (by decide +kernel)
set_option maxRecDepth 20000 in
theorem gX4_pressureOf_X4_opening : GoodIn wsX4_pressureOf (wsV RX4 163 RX4 yX4_opening wsX4_opening) := goodIn_app (goodIn_of _ (by decide +kernel)) ggX4_pressureOf_X4_opening
set_option maxRecDepth 20000 in
theorem ggX4_pressureOf_X4_openingPressure : GoodIn wsX4_pressureOf wsX4_openingPressure := goodIn_r _ [23, 24, 25, 26, 27, 5, 28, 29, 38, 39, 40, 41, 42, 43, 44, 45, 46, 47, 48] (by decide +kernel) (by decide +kernel)
set_option maxRecDepth 20000 in
theorem gX4_pressureOf_X4_openingPressure : GoodIn wsX4_pressureOf (wsV RX4 166 RX4 yX4_openingPressure wsX4_openingPressure) := goodIn_app (goodIn_of _ (by decide +kernel)) ggX4_pressureOf_X4_openingPressure
set_option maxRecDepth 20000 in
theorem ggX4_pressureOf_X4_closing : GoodIn wsX4_pressureOf wsX4_closing := goodIn_r _ [33, 7, 1, 2, 3, 4, 5, 6, 12, 13, 14, 15, 16, 17, 18, 19, 38, 39, 40, 41, 42, 43, 44, 45, 46, 47, 48] (by decide +kernel) (by decide +kernel)
set_option maxRecDepth 20000 in
theorem gX4_pressureOf_X4_closing : GoodIn wsX4_pressureOf (wsV RX4 170 RX4 yX4_closing wsX4_closing) := goodIn_app (goodIn_of _ (by decide +kernel)) ggX4_pressureOf_X4_closing
set_option maxRecDepth 20000 in
theorem ggX4_pressureOf_X4_closingPressure : GoodIn wsX4_pressureOf wsX4_closingPressure := goodIn_r _ [37, 24, 25, 26, 27, 5, 28, 29, 38, 39, 40, 41, 42, 43, 44, 45, 46, 47, 48] (by decide +kernel) (by decide +kernel)
set_option maxRecDepth 20000 in
theorem gX4_pressureOf_X4_closingPressure : GoodIn wsX4_pressureOf (wsV RX4 173 RX4 yX4_closingPressure wsX4_closingPressure) := goodIn_app (goodIn_of _ (by decide +kernel)) ggX4_pressureOf_X4_closingPressure
set_option maxRecDepth 20000 in
theorem ggX4_pressureOf_X4_isClosed : GoodIn wsX4_pressureOf wsX4_isClosed := goodIn_r _ [17, 18, 19] (by decide +kernel) (by decide +kernel)
set_option maxRecDepth 20000 in
theorem gX4_pressureOf_X4_isClosed : GoodIn wsX4_pressureOf (va_wsS RX4 156 yX4_isClosed wsX4_isClosed) := goodIn_app (goodIn_of _ (by decide +kernel)) ggX4_pressureOf_X4_isClosed
theorem dX4_pressureOf_0 : decode cX4_pressureOf 0 = .ok (.aload_n 0, 1) := by decide +kernel
theorem dX4_pressureOf_1 : decode cX4_pressureOf 1 = .ok (.invokevirtual 86, 3) := by decide +kernel
theorem dX4_pressureOf_4 : decode cX4_pressureOf 4 = .ok (.ifCond .eq 16, 3) := by decide +kernel
theorem dX4_pressureOf_7 : decode cX4_pressureOf 7 = .ok (.iload_n 1, 1) := by decide +kernel
theorem dX4_pressureOf_8 : decode cX4_pressureOf 8 = .ok (.aload_n 0, 1) := by decide +kernel
theorem dX4_pressureOf_9 : decode cX4_pressureOf 9 = .ok (.invokevirtual 163, 3) := by decide +kernel
theorem dX4_pressureOf_12 : decode cX4_pressureOf 12 = .ok (.if_icmp .ne 8, 3) := by decide +kernel
theorem dX4_pressureOf_15 : decode cX4_pressureOf 15 = .ok (.aload_n 0, 1) := by decide +kernel
theorem dX4_pressureOf_16 : decode cX4_pressureOf 16 = .ok (.invokevirtual 166, 3) := by decide +kernel
theorem dX4_pressureOf_19 : decode cX4_pressureOf 19 = .ok (.freturn, 1) := by decide +kernel
theorem dX4_pressureOf_20 : decode cX4_pressureOf 20 = .ok (.aload_n 0, 1) := by decide +kernel
theorem dX4_pressureOf_21 : decode cX4_pressureOf 21 = .ok (.invokevirtual 86, 3) := by decide +kernel
theorem dX4_pressureOf_24 : decode cX4_pressureOf 24 = .ok (.ifCond .eq 16, 3) := by decide +kernel
theorem dX4_pressureOf_27 : decode cX4_pressureOf 27 = .ok (.iload_n 1, 1) := by decide +kernel
theorem dX4_pressureOf_28 : decode cX4_pressureOf 28 = .ok (.aload_n 0, 1) := by decide +kernel
theorem dX4_pressureOf_29 : decode cX4_pressureOf 29 = .ok (.invokevirtual 170, 3) := by decide +kernel
theorem dX4_pressureOf_32 : decode cX4_pressureOf 32 = .ok (.if_icmp .ne 8, 3) := by decide +kernel
theorem dX4_pressureOf_35 : decode cX4_pressureOf 35 = .ok (.aload_n 0, 1) := by decide +kernel
theorem dX4_pressureOf_36 : decode cX4_pressureOf 36 = .ok (.invokevirtual 173, 3) := by decide +kernel
theorem dX4_pressureOf_39 : decode cX4_pressureOf 39 = .ok (.freturn, 1) := by decide +kernel
theorem dX4_pressureOf_40 : decode cX4_pressureOf 40 = .ok (.iload_n 1, 1) := by decide +kernel
theorem dX4_pressureOf_41 : decode cX4_pressureOf 41 = .ok (.aload_n 0, 1) := by decide +kernel
theorem dX4_pressureOf_42 : decode cX4_pressureOf 42 = .ok (.getfield 35, 3) := by decide +kernel
theorem dX4_pressureOf_45 : decode cX4_pressureOf 45 = .ok (.invokestatic 156, 3) := by decide +kernel
theorem dX4_pressureOf_48 : decode cX4_pressureOf 48 = .ok (.ifCond .eq 7, 3) := by decide +kernel
theorem dX4_pressureOf_51 : decode cX4_pressureOf 51 = .ok (.fconst 1, 1) := by decide +kernel
theorem dX4_pressureOf_52 : decode cX4_pressureOf 52 = .ok (.goto 4, 3) := by decide +kernel
theorem dX4_pressureOf_55 : decode cX4_pressureOf 55 = .ok (.fconst 0, 1) := by decide +kernel
theorem dX4_pressureOf_56 : decode cX4_pressureOf 56 = .ok (.freturn, 1) := by decide +kernel
set_option maxRecDepth 20000 in
theorem ggX4_openingPressure_X4_setting : GoodIn wsX4_openingPressure wsX4_setting := goodIn_r _ [6, 7, 8, 9, 10, 11, 12, 13, 14, 15, 16, 17, 18] (by decide +kernel) (by decide +kernel)
set_option maxRecDepth 20000 in
theorem gX4_openingPressure_X4_setting : GoodIn wsX4_openingPressure (wsV RX4 72 RX4 yX4_setting wsX4_setting) := goodIn_app (goodIn_of _ (by decide +kernel)) ggX4_openingPressure_X4_setting
theorem dX4_openingPressure_0 : decode cX4_openingPressure 0 = .ok (.aload_n 0, 1) := by decide +kernel
theorem dX4_openingPressure_1 : decode cX4_openingPressure 1 = .ok (.iconst 0, 1) := by decide +kernel
theorem dX4_openingPressure_2 : decode cX4_openingPressure 2 = .ok (.invokevirtual 72, 3) := by decide +kernel
theorem dX4_openingPressure_5 : decode cX4_openingPressure 5 = .ok (.istore_n 1, 1) := by decide +kernel
theorem dX4_openingPressure_6 : decode cX4_openingPressure 6 = .ok (.iload_n 1, 1) := by decide +kernel
theorem dX4_openingPressure_7 : decode cX4_openingPressure 7 = .ok (.ifCond .le 16, 3) := by decide +kernel
theorem dX4_openingPressure_10 : decode cX4_openingPressure 10 = .ok (.fconst 1, 1) := by decide +kernel
theorem dX4_openingPressure_11 : decode cX4_openingPressure 11 = .ok (.aload_n 0, 1) := by decide +kernel
theorem dX4_openingPressure_12 : decode cX4_openingPressure 12 = .ok (.getfield 42, 3) := by decide +kernel
theorem dX4_openingPressure_15 : decode cX4_openingPressure 15 = .ok (.i2f, 1) := by decide +kernel
theorem dX4_openingPressure_16 : decode cX4_openingPressure 16 = .ok (.iload_n 1, 1) := by decide +kernel
theorem dX4_openingPressure_17 : decode cX4_openingPressure 17 = .ok (.i2f, 1) := by decide +kernel
theorem dX4_openingPressure_18 : decode cX4_openingPressure 18 = .ok (.fdiv, 1) := by decide +kernel
theorem dX4_openingPressure_19 : decode cX4_openingPressure 19 = .ok (.fsub, 1) := by decide +kernel
theorem dX4_openingPressure_20 : decode cX4_openingPressure 20 = .ok (.goto 4, 3) := by decide +kernel
theorem dX4_openingPressure_23 : decode cX4_openingPressure 23 = .ok (.fconst 0, 1) := by decide +kernel
theorem dX4_openingPressure_24 : decode cX4_openingPressure 24 = .ok (.freturn, 1) := by decide +kernel
set_option maxRecDepth 20000 in
theorem ggX4_closingPressure_X4_setting : GoodIn wsX4_closingPressure wsX4_setting := goodIn_r _ [6, 7, 8, 9, 10, 11, 12, 13, 14, 15, 16, 17, 18] (by decide +kernel) (by decide +kernel)
set_option maxRecDepth 20000 in
theorem gX4_closingPressure_X4_setting : GoodIn wsX4_closingPressure (wsV RX4 72 RX4 yX4_setting wsX4_setting) := goodIn_app (goodIn_of _ (by decide +kernel)) ggX4_closingPressure_X4_setting
theorem dX4_closingPressure_0 : decode cX4_closingPressure 0 = .ok (.aload_n 0, 1) := by decide +kernel
theorem dX4_closingPressure_1 : decode cX4_closingPressure 1 = .ok (.iconst 1, 1) := by decide +kernel
theorem dX4_closingPressure_2 : decode cX4_closingPressure 2 = .ok (.invokevirtual 72, 3) := by decide +kernel
theorem dX4_closingPressure_5 : decode cX4_closingPressure 5 = .ok (.istore_n 1, 1) := by decide +kernel
theorem dX4_closingPressure_6 : decode cX4_closingPressure 6 = .ok (.aload_n 0, 1) := by decide +kernel
theorem dX4_closingPressure_7 : decode cX4_closingPressure 7 = .ok (.iconst 0, 1) := by decide +kernel
theorem dX4_closingPressure_8 : decode cX4_closingPressure 8 = .ok (.invokevirtual 72, 3) := by decide +kernel
theorem dX4_closingPressure_11 : decode cX4_closingPressure 11 = .ok (.istore_n 2, 1) := by decide +kernel
theorem dX4_closingPressure_12 : decode cX4_closingPressure 12 = .ok (.aload_n 0, 1) := by decide +kernel
theorem dX4_closingPressure_13 : decode cX4_closingPressure 13 = .ok (.getfield 42, 3) := by decide +kernel
theorem dX4_closingPressure_16 : decode cX4_closingPressure 16 = .ok (.iload_n 1, 1) := by decide +kernel
theorem dX4_closingPressure_17 : decode cX4_closingPressure 17 = .ok (.if_icmp .le 8, 3) := by decide +kernel
theorem dX4_closingPressure_20 : decode cX4_closingPressure 20 = .ok (.iload_n 2, 1) := by decide +kernel
theorem dX4_closingPressure_21 : decode cX4_closingPressure 21 = .ok (.iload_n 1, 1) := by decide +kernel
theorem dX4_closingPressure_22 : decode cX4_closingPressure 22 = .ok (.if_icmp .gt 5, 3) := by decide +kernel
theorem dX4_closingPressure_25 : decode cX4_closingPressure 25 = .ok (.fconst 0, 1) := by decide +kernel
theorem dX4_closingPressure_26 : decode cX4_closingPressure 26 = .ok (.freturn, 1) := by decide +kernel
theorem dX4_closingPressure_27 : decode cX4_closingPressure 27 = .ok (.aload_n 0, 1) := by decide +kernel
theorem dX4_closingPressure_28 : decode cX4_closingPressure 28 = .ok (.getfield 42, 3) := by decide +kernel
theorem dX4_closingPressure_31 : decode cX4_closingPressure 31 = .ok (.iload_n 1, 1) := by decide +kernel
theorem dX4_closingPressure_32 : decode cX4_closingPressure 32 = .ok (.isub, 1) := by decide +kernel
theorem dX4_closingPressure_33 : decode cX4_closingPressure 33 = .ok (.i2f, 1) := by decide +kernel
theorem dX4_closingPressure_34 : decode cX4_closingPressure 34 = .ok (.iload_n 2, 1) := by decide +kernel
theorem dX4_closingPressure_35 : decode cX4_closingPressure 35 = .ok (.iload_n 1, 1) := by decide +kernel
theorem dX4_closingPressure_36 : decode cX4_closingPressure 36 = .ok (.isub, 1) := by decide +kernel
theorem dX4_closingPressure_37 : decode cX4_closingPressure 37 = .ok (.i2f, 1) := by decide +kernel
theorem dX4_closingPressure_38 : decode cX4_closingPressure 38 = .ok (.fdiv, 1) := by decide +kernel
theorem dX4_closingPressure_39 : decode cX4_closingPressure 39 = .ok (.freturn, 1) := by decide +kernel
set_option maxRecDepth 20000 in
theorem ggX4_greaterPressure_X4_isChanging : GoodIn wsX4_greaterPressure wsX4_isChanging := goodIn_r _ [5, 6, 21, 22, 23, 24, 25, 26, 27, 28, 29, 30, 31] (by decide +kernel) (by decide +kernel)
set_option maxRecDepth 20000 in
theorem gX4_greaterPressure_X4_isChanging : GoodIn wsX4_greaterPressure (wsV RX4 86 RX4 yX4_isChanging wsX4_isChanging) := goodIn_app (goodIn_of _ (by decide +kernel)) ggX4_greaterPressure_X4_isChanging
set_option maxRecDepth 20000 in
theorem ggX4_greaterPressure_X4_openingPressure : GoodIn wsX4_greaterPressure wsX4_openingPressure := goodIn_r _ [10, 11, 12, 13, 14, 4, 15, 16, 21, 22, 23, 24, 25, 26, 27, 28, 29, 30, 31] (by decide +kernel) (by decide +kernel)
set_option maxRecDepth 20000 in
theorem gX4_greaterPressure_X4_openingPressure : GoodIn wsX4_greaterPressure (wsV RX4 166 RX4 yX4_openingPressure wsX4_openingPressure) := goodIn_app (goodIn_of _ (by decide +kernel)) ggX4_greaterPressure_X4_openingPressure
set_option maxRecDepth 20000 in
theorem ggX4_greaterPressure_X4_closingPressure : GoodIn wsX4_greaterPressure wsX4_closingPressure := goodIn_r _ [20, 11, 12, 13, 14, 4, 15, 16, 21, 22, 23, 24, 25, 26, 27, 28, 29, 30, 31] (by decide +kernel) (by decide +kernel)
set_option maxRecDepth 20000 in
theorem gX4_greaterPressure_X4_closingPressure : GoodIn wsX4_greaterPressure (wsV RX4 173 RX4 yX4_closingPressure wsX4_closingPressure) := goodIn_app (goodIn_of _ (by decide +kernel)) ggX4_greaterPressure_X4_closingPressure
theorem dX4_greaterPressure_0 : decode cX4_greaterPressure 0 = .ok (.aload_n 0, 1) := by decide +kernel
theorem dX4_greaterPressure_1 : decode cX4_greaterPressure 1 = .ok (.invokevirtual 86, 3) := by decide +kernel
theorem dX4_greaterPressure_4 : decode cX4_greaterPressure 4 = .ok (.ifCond .ne 5, 3) := by decide +kernel
theorem dX4_greaterPressure_7 : decode cX4_greaterPressure 7 = .ok (.fconst 1, 1) := by decide +kernel
theorem dX4_greaterPressure_8 : decode cX4_greaterPressure 8 = .ok (.freturn, 1) := by decide +kernel
theorem dX4_greaterPressure_9 : decode cX4_greaterPressure 9 = .ok (.aload_n 0, 1) := by decide +kernel
theorem dX4_greaterPressure_10 : decode cX4_greaterPressure 10 = .ok (.invokevirtual 166, 3) := by decide +kernel
theorem dX4_greaterPressure_13 : decode cX4_greaterPressure 13 = .ok (.fstore_n 1, 1) := by decide +kernel
theorem dX4_greaterPressure_14 : decode cX4_greaterPressure 14 = .ok (.aload_n 0, 1) := by decide +kernel
theorem dX4_greaterPressure_15 : decode cX4_greaterPressure 15 = .ok (.invokevirtual 173, 3) := by decide +kernel
theorem dX4_greaterPressure_18 : decode cX4_greaterPressure 18 = .ok (.fstore_n 2, 1) := by decide +kernel
theorem dX4_greaterPressure_19 : decode cX4_greaterPressure 19 = .ok (.fload_n 1, 1) := by decide +kernel
theorem dX4_greaterPressure_20 : decode cX4_greaterPressure 20 = .ok (.fload_n 2, 1) := by decide +kernel
theorem dX4_greaterPressure_21 : decode cX4_greaterPressure 21 = .ok (.fcmp .l, 1) := by decide +kernel
theorem dX4_greaterPressure_22 : decode cX4_greaterPressure 22 = .ok (.ifCond .lt 7, 3) := by decide +kernel
theorem dX4_greaterPressure_25 : decode cX4_greaterPressure 25 = .ok (.fload_n 1, 1) := by decide +kernel
theorem dX4_greaterPressure_26 : decode cX4_greaterPressure 26 = .ok (.goto 4, 3) := by decide +kernel
theorem dX4_greaterPressure_29 : decode cX4_greaterPressure 29 = .ok (.fload_n 2, 1) := by decide +kernel
theorem dX4_greaterPressure_30 : decode cX4_greaterPressure 30 = .ok (.freturn, 1) := by decide +kernel
set_option maxRecDepth 20000 in
theorem ggX5_init_X4_init : GoodIn wsX5_init wsX4_init := goodIn_r _ [21, 22, 2, 3, 23, 24, 25, 26, 27, 28, 29, 30, 31, 32, 33, 34, 35, 36, 37, 38, 39, 40, 41, 42, 43, 44, 45, 46, 47, 48, 49, 50, 51, 52, 53, 54, 55, 56, 57, 58, 106, 79, 80, 81, 82, 83, 84, 85, 86, 87, 88, 89, 107, 108, 109] (by decide +kernel) (by decide +kernel)
set_option maxRecDepth 20000 in
theorem gX5_init_X4_init : GoodIn wsX5_init (wsX4_init) := ggX5_init_X4_init
set_option maxRecDepth 20000 in
theorem ggX5_init_X1_init : GoodIn wsX5_init wsX1_init := goodIn_r _ [61, 62, 2, 3, 63, 64, 65, 66, 5, 6, 67, 20, 21, 22, 23, 24, 25, 26, 27, 28, 29, 30, 31, 32, 33, 34, 35, 36, 37, 38, 39, 40, 41, 42, 43, 44, 45, 46, 47, 48, 49, 50, 51, 52, 53, 54, 55, 56, 57, 58, 96, 97, 98, 79, 80, 81, 82, 83, 84, 85, 86, 87, 88, 89, 106, 107, 108, 109] (by decide +kernel) (by decide +kernel)
set_option maxRecDepth 20000 in
theorem gX5_init_X1_init : GoodIn wsX5_init (wsX1_init) := ggX5_init_X1_init
set_option maxRecDepth 20000 in
theorem ggX5_init_X0_init : GoodIn wsX5_init wsX0_init := goodIn_r _ [69, 70, 2, 3, 71, 72, 73, 31, 74, 75, 76, 77, 78, 99, 100, 101, 102, 103, 104, 105] (by decide +kernel) (by decide +kernel)
set_option maxRecDepth 20000 in
theorem gX5_init_X0_init_n31 : GoodIn wsX5_init (wsX0_init) := ggX5_init_X0_init
theorem dX5_init_0 : decode cX5_init 0 = .ok (.aload_n 0, 1) := by decide +kernel
theorem dX5_init_1 : decode cX5_init 1 = .ok (.invokespecial 1, 3) := by decide +kernel
theorem dX5_init_4 : decode cX5_init 4 = .ok (.aload_n 0, 1) := by decide +kernel
theorem dX5_init_5 : decode cX5_init 5 = .ok (.new 7, 3) := by decide +kernel
theorem dX5_init_8 : decode cX5_init 8 = .ok (.dup, 1) := by decide +kernel
theorem dX5_init_9 : decode cX5_init 9 = .ok (.invokespecial 9, 3) := by decide +kernel
theorem dX5_init_12 : decode cX5_init 12 = .ok (.putfield 10, 3) := by decide +kernel
theorem dX5_init_15 : decode cX5_init 15 = .ok (.aload_n 0, 1) := by decide +kernel
theorem dX5_init_16 : decode cX5_init 16 = .ok (.new 7, 3) := by decide +kernel
theorem dX5_init_19 : decode cX5_init 19 = .ok (.dup, 1) := by decide +kernel
theorem dX5_init_20 : decode cX5_init 20 = .ok (.invokespecial 9, 3) := by decide +kernel
theorem dX5_init_23 : decode cX5_init 23 = .ok (.putfield 16, 3) := by decide +kernel
theorem dX5_init_26 : decode cX5_init 26 = .ok (.aload_n 0, 1) := by decide +kernel
theorem dX5_init_27 : decode cX5_init 27 = .ok (.new 7, 3) := by decide +kernel
theorem dX5_init_30 : decode cX5_init 30 = .ok (.dup, 1) := by decide +kernel
theorem dX5_init_31 : decode cX5_init 31 = .ok (.invokespecial 9, 3) := by decide +kernel
theorem dX5_init_34 : decode cX5_init 34 = .ok (.putfield 19, 3) := by decide +kernel
theorem dX5_init_37 : decode cX5_init 37 = .ok (.aload_n 0, 1) := by decide +kernel
theorem dX5_init_38 : decode cX5_init 38 = .ok (.new 22, 3) := by decide +kernel
theorem dX5_init_41 : decode cX5_init 41 = .ok (.dup, 1) := by decide +kernel
theorem dX5_init_42 : decode cX5_init 42 = .ok (.invokespecial 24, 3) := by decide +kernel
theorem dX5_init_45 : decode cX5_init 45 = .ok (.putfield 25, 3) := by decide +kernel
theorem dX5_init_48 : decode cX5_init 48 = .ok (.aload_n 0, 1) := by decide +kernel
theorem dX5_init_49 : decode cX5_init 49 = .ok (.new 29, 3) := by decide +kernel
theorem dX5_init_52 : decode cX5_init 52 = .ok (.dup, 1) := by decide +kernel
theorem dX5_init_53 : decode cX5_init 53 = .ok (.invokespecial 31, 3) := by decide +kernel
theorem dX5_init_56 : decode cX5_init 56 = .ok (.putfield 32, 3) := by decide +kernel
theorem dX5_init_59 : decode cX5_init 59 = .ok (.aload_n 0, 1) := by decide +kernel
theorem dX5_init_60 : decode cX5_init 60 = .ok (.iconst 0, 1) := by decide +kernel
theorem dX5_init_61 : decode cX5_init 61 = .ok (.putfield 36, 3) := by decide +kernel
theorem dX5_init_64 : decode cX5_init 64 = .ok (.return_, 1) := by decide +kernel
set_option maxRecDepth 20000 in
theorem ggX5_setMap_X3_has : GoodIn wsX5_setMap wsX3_has := goodIn_r _ [6] (by decide +kernel) (by decide +kernel)
set_option maxRecDepth 20000 in
theorem gX5_setMap_X3_has : GoodIn wsX5_setMap (va_wsS RX5 40 yX3_has wsX3_has) := goodIn_app (goodIn_of _ (by decide +kernel)) ggX5_setMap_X3_has
set_option maxRecDepth 20000 in
theorem ggX5_setMap_X5_isSpeed : GoodIn wsX5_setMap wsX5_isSpeed := goodIn_r _ [10, 11] (by decide +kernel) (by decide +kernel)
set_option maxRecDepth 20000 in
theorem gX5_setMap_X5_isSpeed : GoodIn wsX5_setMap (va_wsS RX5 46 yX5_isSpeed wsX5_isSpeed) := goodIn_app (goodIn_of _ (by decide +kernel)) ggX5_setMap_X5_isSpeed
set_option maxRecDepth 20000 in
theorem ggX5_setMap_X5_floatOf : GoodIn wsX5_setMap wsX5_floatOf := goodIn_r _ [14, 15, 16, 17] (by decide +kernel) (by decide +kernel)
set_option maxRecDepth 20000 in
theorem gX5_setMap_X5_floatOf : GoodIn wsX5_setMap (va_wsS RX5 50 yX5_floatOf wsX5_floatOf) := goodIn_app (goodIn_of _ (by decide +kernel)) ggX5_setMap_X5_floatOf
set_option maxRecDepth 20000 in
theorem ggX5_setMap_X3_speed : GoodIn wsX5_setMap wsX3_speed := goodIn_r _ [21, 22, 95] (by decide +kernel) (by decide +kernel)
set_option maxRecDepth 20000 in
theorem gX5_setMap_X3_speed : GoodIn wsX5_setMap (wsV RX5 58 RX3 yX3_speed wsX3_speed) := goodIn_app (goodIn_of _ (by decide +kernel)) ggX5_setMap_X3_speed
set_option maxRecDepth 20000 in
theorem ggX5_setMap_X1_record : GoodIn wsX5_setMap wsX1_record := goodIn_r _ [27, 28, 29, 30, 31, 32, 33, 34, 35, 36, 26, 37, 38, 39, 40, 41, 42, 43, 44, 45, 46, 47, 48, 49, 50, 51, 52, 53, 54, 55, 56, 57, 58, 59, 60, 61, 5, 62, 22, 63, 64, 65, 66, 67, 68, 69, 70, 71, 72, 96, 97, 98, 84, 85, 86, 87, 88, 89, 90, 91, 92, 93, 94, 95, 99, 100, 101] (by decide +kernel) (by decide +kernel)
set_option maxRecDepth 20000 in
theorem gX5_setMap_X1_record : GoodIn wsX5_setMap (wsV RX5 62 RX1 yX1_record wsX1_record) := goodIn_app (goodIn_of _ (by decide +kernel)) ggX5_setMap_X1_record
set_option maxRecDepth 20000 in
theorem ggX5_setMap_X3_put : GoodIn wsX5_setMap wsX3_put := goodIn_r _ [76, 22, 77, 4, 5, 6, 95] (by decide +kernel) (by decide +kernel)
set_option maxRecDepth 20000 in
theorem gX5_setMap_X3_put : GoodIn wsX5_setMap (wsV RX5 66 RX3 yX3_put wsX3_put) := goodIn_app (goodIn_of _ (by decide +kernel)) ggX5_setMap_X3_put
theorem dX5_setMap_0 : decode cX5_setMap 0 = .ok (.iload_n 2, 1) := by decide +kernel
theorem dX5_setMap_1 : decode cX5_setMap 1 = .ok (.ifCond .lt 8, 3) := by decide +kernel
theorem dX5_setMap_4 : decode cX5_setMap 4 = .ok (.iload_n 2, 1) := by decide +kernel
theorem dX5_setMap_5 : decode cX5_setMap 5 = .ok (.iconst 3, 1) := by decide +kernel
theorem dX5_setMap_6 : decode cX5_setMap 6 = .ok (.if_icmp .le 6, 3) := by decide +kernel
theorem dX5_setMap_9 : decode cX5_setMap 9 = .ok (.bipush (-2), 2) := by decide +kernel
theorem dX5_setMap_11 : decode cX5_setMap 11 = .ok (.ireturn, 1) := by decide +kernel
theorem dX5_setMap_12 : decode cX5_setMap 12 = .ok (.iload_n 1, 1) := by decide +kernel
theorem dX5_setMap_13 : decode cX5_setMap 13 = .ok (.iload_n 2, 1) := by decide +kernel
theorem dX5_setMap_14 : decode cX5_setMap 14 = .ok (.invokestatic 40, 3) := by decide +kernel
theorem dX5_setMap_17 : decode cX5_setMap 17 = .ok (.ifCond .ne 5, 3) := by decide +kernel
theorem dX5_setMap_20 : decode cX5_setMap 20 = .ok (.iconst (-1), 1) := by decide +kernel
theorem dX5_setMap_21 : decode cX5_setMap 21 = .ok (.ireturn, 1) := by decide +kernel
theorem dX5_setMap_22 : decode cX5_setMap 22 = .ok (.iload_n 3, 1) := by decide +kernel
theorem dX5_setMap_23 : decode cX5_setMap 23 = .ok (.invokestatic 46, 3) := by decide +kernel
theorem dX5_setMap_26 : decode cX5_setMap 26 = .ok (.ifCond .ne 6, 3) := by decide +kernel
theorem dX5_setMap_29 : decode cX5_setMap 29 = .ok (.bipush (-2), 2) := by decide +kernel
theorem dX5_setMap_31 : decode cX5_setMap 31 = .ok (.ireturn, 1) := by decide +kernel
theorem dX5_setMap_32 : decode cX5_setMap 32 = .ok (.iload_n 3, 1) := by decide +kernel
theorem dX5_setMap_33 : decode cX5_setMap 33 = .ok (.invokestatic 50, 3) := by decide +kernel
theorem dX5_setMap_36 : decode cX5_setMap 36 = .ok (.fstore 4, 2) := by decide +kernel
theorem dX5_setMap_38 : decode cX5_setMap 38 = .ok (.aload_n 0, 1) := by decide +kernel
theorem dX5_setMap_39 : decode cX5_setMap 39 = .ok (.getfield 10, 3) := by decide +kernel
theorem dX5_setMap_42 : decode cX5_setMap 42 = .ok (.getfield 54, 3) := by decide +kernel
theorem dX5_setMap_45 : decode cX5_setMap 45 = .ok (.iload_n 1, 1) := by decide +kernel
theorem dX5_setMap_46 : decode cX5_setMap 46 = .ok (.iload_n 2, 1) := by decide +kernel
theorem dX5_setMap_47 : decode cX5_setMap 47 = .ok (.invokevirtual 58, 3) := by decide +kernel
theorem dX5_setMap_50 : decode cX5_setMap 50 = .ok (.fload 4, 2) := by decide +kernel
theorem dX5_setMap_52 : decode cX5_setMap 52 = .ok (.fcmp .l, 1) := by decide +kernel
theorem dX5_setMap_53 : decode cX5_setMap 53 = .ok (.ifCond .ne 6, 3) := by decide +kernel
theorem dX5_setMap_56 : decode cX5_setMap 56 = .ok (.bipush (-5), 2) := by decide +kernel
theorem dX5_setMap_58 : decode cX5_setMap 58 = .ok (.ireturn, 1) := by decide +kernel
theorem dX5_setMap_59 : decode cX5_setMap 59 = .ok (.aload_n 0, 1) := by decide +kernel
theorem dX5_setMap_60 : decode cX5_setMap 60 = .ok (.getfield 25, 3) := by decide +kernel
theorem dX5_setMap_63 : decode cX5_setMap 63 = .ok (.aload_n 0, 1) := by decide +kernel
theorem dX5_setMap_64 : decode cX5_setMap 64 = .ok (.getfield 10, 3) := by decide +kernel
theorem dX5_setMap_67 : decode cX5_setMap 67 = .ok (.invokevirtual 62, 3) := by decide +kernel
theorem dX5_setMap_70 : decode cX5_setMap 70 = .ok (.aload_n 0, 1) := by decide +kernel
theorem dX5_setMap_71 : decode cX5_setMap 71 = .ok (.getfield 10, 3) := by decide +kernel
theorem dX5_setMap_74 : decode cX5_setMap 74 = .ok (.getfield 54, 3) := by decide +kernel
theorem dX5_setMap_77 : decode cX5_setMap 77 = .ok (.iload_n 1, 1) := by decide +kernel
theorem dX5_setMap_78 : decode cX5_setMap 78 = .ok (.iload_n 2, 1) := by decide +kernel
theorem dX5_setMap_79 : decode cX5_setMap 79 = .ok (.fload 4, 2) := by decide +kernel
theorem dX5_setMap_81 : decode cX5_setMap 81 = .ok (.invokevirtual 66, 3) := by decide +kernel
theorem dX5_setMap_84 : decode cX5_setMap 84 = .ok (.iconst 1, 1) := by decide +kernel
theorem dX5_setMap_85 : decode cX5_setMap 85 = .ok (.ireturn, 1) := by decide +kernel
set_option maxRecDepth 20000 in
theorem ggX5_setNumber_X4_allows : GoodIn wsX5_setNumber wsX4_allows := goodIn_r _ [7, 8, 9, 10, 6, 11, 12, 78, 79, 80, 81, 82, 83, 84, 85, 86, 87, 88] (by decide +kernel) (by decide +kernel)
set_option maxRecDepth 20000 in
theorem gX5_setNumber_X4_allows : GoodIn wsX5_setNumber (wsV RX5 70 RX4 yX4_allows wsX4_allows) := goodIn_app (goodIn_of _ (by decide +kernel)) ggX5_setNumber_X4_allows
set_option maxRecDepth 20000 in
theorem ggX5_setNumber_X4_isChanging : GoodIn wsX5_setNumber wsX4_isChanging := goodIn_r _ [16, 17, 78, 79, 80, 81, 82, 83, 84, 85, 86, 87, 88] (by decide +kernel) (by decide +kernel)
set_option maxRecDepth 20000 in
theorem gX5_setNumber_X4_isChanging : GoodIn wsX5_setNumber (wsV RX5 73 RX4 yX4_isChanging wsX4_isChanging) := goodIn_app (goodIn_of _ (by decide +kernel)) ggX5_setNumber_X4_isChanging
end
section
set_option maxRecDepth 20000 in
theorem ggX5_setNumber_X4_setting : GoodIn wsX5_setNumber wsX4_setting := goodIn_r _ [11, 12, 78, 79, 80, 81, 82, 83, 84, 85, 86, 87, 88] (by decide +kernel) (by decide +kernel)
set_option maxRecDepth 20000 in
theorem gX5_setNumber_X4_setting : GoodIn wsX5_setNumber (wsV RX5 77 RX4 yX4_setting wsX4_setting) := goodIn_app (goodIn_of _ (by decide +kernel)) ggX5_setNumber_X4_setting
set_option maxRecDepth 20000 in
theorem ggX5_setNumber_X1_record : GoodIn wsX5_setNumber wsX1_record := goodIn_r _ [23, 24, 25, 26, 27, 28, 29, 30, 31, 32, 22, 33, 34, 35, 36, 37, 6, 38, 39, 40, 41, 42, 43, 44, 45, 12, 46, 17, 47, 48, 49, 50, 51, 52, 53, 54, 55, 56, 57, 58, 59, 60, 61, 62, 63, 64, 65, 66, 67, 89, 90, 91, 78, 79, 80, 81, 82, 83, 84, 85, 86, 87, 88, 92, 93, 94, 95] (by decide +kernel) (by decide +kernel)
set_option maxRecDepth 20000 in
theorem gX5_setNumber_X1_record : GoodIn wsX5_setNumber (wsV RX5 62 RX1 yX1_record wsX1_record) := goodIn_app (goodIn_of _ (by decide +kernel)) ggX5_setNumber_X1_record
set_option maxRecDepth 20000 in
theorem ggX5_setNumber_X4_putSetting : GoodIn wsX5_setNumber wsX4_putSetting := goodIn_r _ [71, 12, 78, 79, 80, 81, 82, 83, 84, 85, 86, 87, 88] (by decide +kernel) (by decide +kernel)
set_option maxRecDepth 20000 in
theorem gX5_setNumber_X4_putSetting : GoodIn wsX5_setNumber (wsV RX5 81 RX4 yX4_putSetting wsX4_putSetting) := goodIn_app (goodIn_of _ (by decide +kernel)) ggX5_setNumber_X4_putSetting
theorem dX5_setNumber_0 : decode cX5_setNumber 0 = .ok (.iload_n 1, 1) := by decide +kernel
theorem dX5_setNumber_1 : decode cX5_setNumber 1 = .ok (.ifCond .lt 8, 3) := by decide +kernel
theorem dX5_setNumber_4 : decode cX5_setNumber 4 = .ok (.iload_n 1, 1) := by decide +kernel
theorem dX5_setNumber_5 : decode cX5_setNumber 5 = .ok (.iconst 3, 1) := by decide +kernel
theorem dX5_setNumber_6 : decode cX5_setNumber 6 = .ok (.if_icmp .le 5, 3) := by decide +kernel
theorem dX5_setNumber_9 : decode cX5_setNumber 9 = .ok (.iconst (-1), 1) := by decide +kernel
theorem dX5_setNumber_10 : decode cX5_setNumber 10 = .ok (.ireturn, 1) := by decide +kernel
theorem dX5_setNumber_11 : decode cX5_setNumber 11 = .ok (.aload_n 0, 1) := by decide +kernel
theorem dX5_setNumber_12 : decode cX5_setNumber 12 = .ok (.getfield 10, 3) := by decide +kernel
theorem dX5_setNumber_15 : decode cX5_setNumber 15 = .ok (.iload_n 1, 1) := by decide +kernel
theorem dX5_setNumber_16 : decode cX5_setNumber 16 = .ok (.iload_n 2, 1) := by decide +kernel
theorem dX5_setNumber_17 : decode cX5_setNumber 17 = .ok (.invokevirtual 70, 3) := by decide +kernel
theorem dX5_setNumber_20 : decode cX5_setNumber 20 = .ok (.ifCond .ne 6, 3) := by decide +kernel
theorem dX5_setNumber_23 : decode cX5_setNumber 23 = .ok (.bipush (-2), 2) := by decide +kernel
theorem dX5_setNumber_25 : decode cX5_setNumber 25 = .ok (.ireturn, 1) := by decide +kernel
theorem dX5_setNumber_26 : decode cX5_setNumber 26 = .ok (.iload_n 1, 1) := by decide +kernel
theorem dX5_setNumber_27 : decode cX5_setNumber 27 = .ok (.iconst 1, 1) := by decide +kernel
theorem dX5_setNumber_28 : decode cX5_setNumber 28 = .ok (.if_icmp .gt 16, 3) := by decide +kernel
theorem dX5_setNumber_31 : decode cX5_setNumber 31 = .ok (.aload_n 0, 1) := by decide +kernel
theorem dX5_setNumber_32 : decode cX5_setNumber 32 = .ok (.getfield 10, 3) := by decide +kernel
theorem dX5_setNumber_35 : decode cX5_setNumber 35 = .ok (.invokevirtual 73, 3) := by decide +kernel
theorem dX5_setNumber_38 : decode cX5_setNumber 38 = .ok (.ifCond .eq 6, 3) := by decide +kernel
theorem dX5_setNumber_41 : decode cX5_setNumber 41 = .ok (.bipush (-4), 2) := by decide +kernel
theorem dX5_setNumber_43 : decode cX5_setNumber 43 = .ok (.ireturn, 1) := by decide +kernel
theorem dX5_setNumber_44 : decode cX5_setNumber 44 = .ok (.aload_n 0, 1) := by decide +kernel
theorem dX5_setNumber_45 : decode cX5_setNumber 45 = .ok (.getfield 10, 3) := by decide +kernel
theorem dX5_setNumber_48 : decode cX5_setNumber 48 = .ok (.iload_n 1, 1) := by decide +kernel
theorem dX5_setNumber_49 : decode cX5_setNumber 49 = .ok (.invokevirtual 77, 3) := by decide +kernel
theorem dX5_setNumber_52 : decode cX5_setNumber 52 = .ok (.istore_n 3, 1) := by decide +kernel
theorem dX5_setNumber_53 : decode cX5_setNumber 53 = .ok (.iload_n 3, 1) := by decide +kernel
theorem dX5_setNumber_54 : decode cX5_setNumber 54 = .ok (.iload_n 2, 1) := by decide +kernel
theorem dX5_setNumber_55 : decode cX5_setNumber 55 = .ok (.if_icmp .ne 6, 3) := by decide +kernel
theorem dX5_setNumber_58 : decode cX5_setNumber 58 = .ok (.bipush (-5), 2) := by decide +kernel
theorem dX5_setNumber_60 : decode cX5_setNumber 60 = .ok (.ireturn, 1) := by decide +kernel
theorem dX5_setNumber_61 : decode cX5_setNumber 61 = .ok (.aload_n 0, 1) := by decide +kernel
theorem dX5_setNumber_62 : decode cX5_setNumber 62 = .ok (.getfield 25, 3) := by decide +kernel
theorem dX5_setNumber_65 : decode cX5_setNumber 65 = .ok (.aload_n 0, 1) := by decide +kernel
theorem dX5_setNumber_66 : decode cX5_setNumber 66 = .ok (.getfield 10, 3) := by decide +kernel
theorem dX5_setNumber_69 : decode cX5_setNumber 69 = .ok (.invokevirtual 62, 3) := by decide +kernel
theorem dX5_setNumber_72 : decode cX5_setNumber 72 = .ok (.aload_n 0, 1) := by decide +kernel
theorem dX5_setNumber_73 : decode cX5_setNumber 73 = .ok (.getfield 10, 3) := by decide +kernel
theorem dX5_setNumber_76 : decode cX5_setNumber 76 = .ok (.iload_n 1, 1) := by decide +kernel
theorem dX5_setNumber_77 : decode cX5_setNumber 77 = .ok (.iload_n 2, 1) := by decide +kernel
theorem dX5_setNumber_78 : decode cX5_setNumber 78 = .ok (.invokevirtual 81, 3) := by decide +kernel
theorem dX5_setNumber_81 : decode cX5_setNumber 81 = .ok (.iload_n 3, 1) := by decide +kernel
theorem dX5_setNumber_82 : decode cX5_setNumber 82 = .ok (.ireturn, 1) := by decide +kernel
set_option maxRecDepth 20000 in
theorem ggX5_byHand_X1_record : GoodIn wsX5_byHand wsX1_record := goodIn_r _ [7, 8, 9, 10, 11, 12, 13, 14, 15, 16, 6, 17, 18, 19, 20, 21, 22, 23, 24, 25, 26, 27, 28, 29, 30, 31, 32, 33, 34, 35, 36, 37, 38, 39, 40, 41, 42, 43, 44, 45, 46, 47, 48, 49, 50, 51, 52, 53, 54, 72, 73, 74, 61, 62, 63, 64, 65, 66, 67, 68, 69, 70, 71, 75, 76, 77, 78] (by decide +kernel) (by decide +kernel)
set_option maxRecDepth 20000 in
theorem gX5_byHand_X1_record : GoodIn wsX5_byHand (wsV RX5 62 RX1 yX1_record wsX1_record) := goodIn_app (goodIn_of _ (by decide +kernel)) ggX5_byHand_X1_record
theorem dX5_byHand_0 : decode cX5_byHand 0 = .ok (.aload_n 0, 1) := by decide +kernel
theorem dX5_byHand_1 : decode cX5_byHand 1 = .ok (.getfield 10, 3) := by decide +kernel
theorem dX5_byHand_4 : decode cX5_byHand 4 = .ok (.getfield 85, 3) := by decide +kernel
theorem dX5_byHand_7 : decode cX5_byHand 7 = .ok (.iload_n 1, 1) := by decide +kernel
theorem dX5_byHand_8 : decode cX5_byHand 8 = .ok (.if_icmp .ne 6, 3) := by decide +kernel
theorem dX5_byHand_11 : decode cX5_byHand 11 = .ok (.bipush (-5), 2) := by decide +kernel
theorem dX5_byHand_13 : decode cX5_byHand 13 = .ok (.ireturn, 1) := by decide +kernel
theorem dX5_byHand_14 : decode cX5_byHand 14 = .ok (.aload_n 0, 1) := by decide +kernel
theorem dX5_byHand_15 : decode cX5_byHand 15 = .ok (.getfield 25, 3) := by decide +kernel
theorem dX5_byHand_18 : decode cX5_byHand 18 = .ok (.aload_n 0, 1) := by decide +kernel
theorem dX5_byHand_19 : decode cX5_byHand 19 = .ok (.getfield 10, 3) := by decide +kernel
theorem dX5_byHand_22 : decode cX5_byHand 22 = .ok (.invokevirtual 62, 3) := by decide +kernel
theorem dX5_byHand_25 : decode cX5_byHand 25 = .ok (.aload_n 0, 1) := by decide +kernel
theorem dX5_byHand_26 : decode cX5_byHand 26 = .ok (.getfield 10, 3) := by decide +kernel
theorem dX5_byHand_29 : decode cX5_byHand 29 = .ok (.iload_n 1, 1) := by decide +kernel
theorem dX5_byHand_30 : decode cX5_byHand 30 = .ok (.putfield 85, 3) := by decide +kernel
theorem dX5_byHand_33 : decode cX5_byHand 33 = .ok (.aload_n 0, 1) := by decide +kernel
theorem dX5_byHand_34 : decode cX5_byHand 34 = .ok (.getfield 10, 3) := by decide +kernel
theorem dX5_byHand_37 : decode cX5_byHand 37 = .ok (.getfield 88, 3) := by decide +kernel
theorem dX5_byHand_40 : decode cX5_byHand 40 = .ok (.ireturn, 1) := by decide +kernel
set_option maxRecDepth 20000 in
theorem ggX5_drive_X5_isSpeed : GoodIn wsX5_drive wsX5_isSpeed := goodIn_r _ [7, 8] (by decide +kernel) (by decide +kernel)
set_option maxRecDepth 20000 in
theorem gX5_drive_X5_isSpeed : GoodIn wsX5_drive (va_wsS RX5 46 yX5_isSpeed wsX5_isSpeed) := goodIn_app (goodIn_of _ (by decide +kernel)) ggX5_drive_X5_isSpeed
set_option maxRecDepth 20000 in
theorem ggX5_drive_X5_isPedal : GoodIn wsX5_drive wsX5_isPedal := goodIn_r _ [11, 12] (by decide +kernel) (by decide +kernel)
set_option maxRecDepth 20000 in
theorem gX5_drive_X5_isPedal : GoodIn wsX5_drive (va_wsS RX5 92 yX5_isPedal wsX5_isPedal) := goodIn_app (goodIn_of _ (by decide +kernel)) ggX5_drive_X5_isPedal
set_option maxRecDepth 20000 in
theorem ggX5_drive_X4_tick : GoodIn wsX5_drive wsX4_tick := goodIn_r _ [17, 18, 19, 20, 16, 21, 22, 167, 168, 169, 170, 171, 172, 173, 174, 175, 176, 177] (by decide +kernel) (by decide +kernel)
set_option maxRecDepth 20000 in
theorem gX5_drive_X4_tick : GoodIn wsX5_drive (wsV RX5 95 RX4 yX4_tick wsX4_tick) := goodIn_app (goodIn_of _ (by decide +kernel)) ggX5_drive_X4_tick
set_option maxRecDepth 20000 in
theorem ggX5_drive_X1_record : GoodIn wsX5_drive wsX1_record := goodIn_r _ [27, 28, 29, 30, 31, 32, 33, 34, 35, 36, 26, 37, 38, 39, 40, 41, 16, 42, 43, 44, 22, 45, 46, 47, 48, 49, 50, 51, 52, 53, 54, 55, 56, 57, 58, 59, 60, 61, 62, 63, 64, 65, 66, 67, 68, 69, 70, 71, 72, 178, 179, 180, 167, 168, 169, 170, 171, 172, 173, 174, 175, 176, 177, 181, 182, 183, 184] (by decide +kernel) (by decide +kernel)
set_option maxRecDepth 20000 in
theorem gX5_drive_X1_record : GoodIn wsX5_drive (wsV RX5 62 RX1 yX1_record wsX1_record) := goodIn_app (goodIn_of _ (by decide +kernel)) ggX5_drive_X1_record
set_option maxRecDepth 20000 in
theorem ggX5_drive_X5_floatOf : GoodIn wsX5_drive wsX5_floatOf := goodIn_r _ [75, 76, 77, 78] (by decide +kernel) (by decide +kernel)
set_option maxRecDepth 20000 in
theorem gX5_drive_X5_floatOf : GoodIn wsX5_drive (va_wsS RX5 50 yX5_floatOf wsX5_floatOf) := goodIn_app (goodIn_of _ (by decide +kernel)) ggX5_drive_X5_floatOf
set_option maxRecDepth 20000 in
theorem ggX5_drive_X4_passTicks : GoodIn wsX5_drive wsX4_passTicks := goodIn_r _ [82, 83, 84, 85, 16, 86, 53, 55, 56, 87, 88, 89, 90, 52, 51, 50, 91, 92, 93, 94, 95, 96, 97, 98, 49, 99, 100, 101, 102, 43, 54, 103, 104, 105, 60, 106, 107, 108, 109, 110, 62, 111, 112, 113, 114, 115, 116, 117, 118, 119, 120, 32, 121, 122, 123, 124, 125, 126, 127, 128, 129, 130, 131, 132, 133, 134, 135, 136, 137, 138, 44, 139, 140, 141, 142, 143, 144, 145, 67, 146, 72, 71, 69, 147, 14, 15, 17, 18, 19, 20, 21, 22, 148, 149, 150, 151, 152, 31, 33, 153, 154, 155, 156, 157, 158, 159, 160, 167, 168, 169, 170, 171, 172, 173, 174, 175, 176, 177, 181, 182, 183, 184] (by decide +kernel) (by decide +kernel)
set_option maxRecDepth 20000 in
theorem gX5_drive_X4_passTicks : GoodIn wsX5_drive (wsV RX5 100 RX4 yX4_passTicks wsX4_passTicks) := goodIn_app (goodIn_of _ (by decide +kernel)) ggX5_drive_X4_passTicks
theorem dX5_drive_0 : decode cX5_drive 0 = .ok (.iload_n 1, 1) := by decide +kernel
theorem dX5_drive_1 : decode cX5_drive 1 = .ok (.invokestatic 46, 3) := by decide +kernel
theorem dX5_drive_4 : decode cX5_drive 4 = .ok (.ifCond .eq 21, 3) := by decide +kernel
theorem dX5_drive_7 : decode cX5_drive 7 = .ok (.iload_n 2, 1) := by decide +kernel
theorem dX5_drive_8 : decode cX5_drive 8 = .ok (.invokestatic 92, 3) := by decide +kernel
theorem dX5_drive_11 : decode cX5_drive 11 = .ok (.ifCond .eq 14, 3) := by decide +kernel
theorem dX5_drive_14 : decode cX5_drive 14 = .ok (.iload_n 3, 1) := by decide +kernel
theorem dX5_drive_15 : decode cX5_drive 15 = .ok (.iconst 1, 1) := by decide +kernel
theorem dX5_drive_16 : decode cX5_drive 16 = .ok (.if_icmp .lt 9, 3) := by decide +kernel
theorem dX5_drive_19 : decode cX5_drive 19 = .ok (.iload_n 3, 1) := by decide +kernel
theorem dX5_drive_20 : decode cX5_drive 20 = .ok (.bipush 99, 2) := by decide +kernel
theorem dX5_drive_22 : decode cX5_drive 22 = .ok (.if_icmp .le 6, 3) := by decide +kernel
theorem dX5_drive_25 : decode cX5_drive 25 = .ok (.bipush (-2), 2) := by decide +kernel
theorem dX5_drive_27 : decode cX5_drive 27 = .ok (.ireturn, 1) := by decide +kernel
theorem dX5_drive_28 : decode cX5_drive 28 = .ok (.aload_n 0, 1) := by decide +kernel
theorem dX5_drive_29 : decode cX5_drive 29 = .ok (.getfield 10, 3) := by decide +kernel
theorem dX5_drive_32 : decode cX5_drive 32 = .ok (.invokevirtual 95, 3) := by decide +kernel
theorem dX5_drive_35 : decode cX5_drive 35 = .ok (.iload_n 3, 1) := by decide +kernel
theorem dX5_drive_36 : decode cX5_drive 36 = .ok (.iadd, 1) := by decide +kernel
theorem dX5_drive_37 : decode cX5_drive 37 = .ok (.ldc 99, 2) := by decide +kernel
theorem dX5_drive_39 : decode cX5_drive 39 = .ok (.if_icmp .le 6, 3) := by decide +kernel
theorem dX5_drive_42 : decode cX5_drive 42 = .ok (.bipush (-3), 2) := by decide +kernel
theorem dX5_drive_44 : decode cX5_drive 44 = .ok (.ireturn, 1) := by decide +kernel
theorem dX5_drive_45 : decode cX5_drive 45 = .ok (.aload_n 0, 1) := by decide +kernel
theorem dX5_drive_46 : decode cX5_drive 46 = .ok (.getfield 25, 3) := by decide +kernel
theorem dX5_drive_49 : decode cX5_drive 49 = .ok (.aload_n 0, 1) := by decide +kernel
theorem dX5_drive_50 : decode cX5_drive 50 = .ok (.getfield 10, 3) := by decide +kernel
theorem dX5_drive_53 : decode cX5_drive 53 = .ok (.invokevirtual 62, 3) := by decide +kernel
theorem dX5_drive_56 : decode cX5_drive 56 = .ok (.aload_n 0, 1) := by decide +kernel
theorem dX5_drive_57 : decode cX5_drive 57 = .ok (.getfield 10, 3) := by decide +kernel
theorem dX5_drive_60 : decode cX5_drive 60 = .ok (.iload_n 1, 1) := by decide +kernel
theorem dX5_drive_61 : decode cX5_drive 61 = .ok (.invokestatic 50, 3) := by decide +kernel
theorem dX5_drive_64 : decode cX5_drive 64 = .ok (.iload_n 2, 1) := by decide +kernel
theorem dX5_drive_65 : decode cX5_drive 65 = .ok (.invokestatic 50, 3) := by decide +kernel
theorem dX5_drive_68 : decode cX5_drive 68 = .ok (.iload_n 3, 1) := by decide +kernel
theorem dX5_drive_69 : decode cX5_drive 69 = .ok (.invokevirtual 100, 3) := by decide +kernel
theorem dX5_drive_72 : decode cX5_drive 72 = .ok (.ireturn, 1) := by decide +kernel
set_option maxRecDepth 20000 in
theorem ggX5_readDrive_X0_read : GoodIn wsX5_readDrive wsX0_read := goodIn_r _ [10, 11, 12, 13, 14, 15, 16, 9, 17, 18, 19, 20, 21, 22, 23, 24, 25, 26, 27, 28, 29, 30, 31, 32, 33, 34, 35, 36, 37, 38, 39, 40, 41, 42, 216, 217, 218, 219, 220, 221, 222] (by decide +kernel) (by decide +kernel)
set_option maxRecDepth 20000 in
theorem gX5_readDrive_X0_read : GoodIn wsX5_readDrive (wsV RX5 104 RX0 yX0_read wsX0_read) := goodIn_app (goodIn_of _ (by decide +kernel)) ggX5_readDrive_X0_read
set_option maxRecDepth 20000 in
theorem ggX5_readDrive_X4_tick : GoodIn wsX5_readDrive wsX4_tick := goodIn_r _ [47, 48, 49, 50, 46, 51, 52, 223, 224, 225, 226, 227, 228, 229, 230, 231, 232, 233] (by decide +kernel) (by decide +kernel)
set_option maxRecDepth 20000 in
theorem gX5_readDrive_X4_tick : GoodIn wsX5_readDrive (wsV RX5 95 RX4 yX4_tick wsX4_tick) := goodIn_app (goodIn_of _ (by decide +kernel)) ggX5_readDrive_X4_tick
set_option maxRecDepth 20000 in
theorem ggX5_readDrive_X0_ticksOfAllParts : GoodIn wsX5_readDrive wsX0_ticksOfAllParts := goodIn_r _ [56, 11, 57, 58, 59, 9, 60, 61, 62, 63, 64, 33, 216, 217, 218, 219, 220, 221, 222] (by decide +kernel) (by decide +kernel)
set_option maxRecDepth 20000 in
theorem gX5_readDrive_X0_ticksOfAllParts : GoodIn wsX5_readDrive (wsV RX5 107 RX0 yX0_ticksOfAllParts wsX0_ticksOfAllParts) := goodIn_app (goodIn_of _ (by decide +kernel)) ggX5_readDrive_X0_ticksOfAllParts
set_option maxRecDepth 20000 in
theorem ggX5_readDrive_X1_record : GoodIn wsX5_readDrive wsX1_record := goodIn_r _ [69, 70, 71, 72, 73, 74, 75, 76, 77, 78, 68, 79, 80, 81, 82, 83, 46, 84, 85, 86, 52, 87, 88, 89, 90, 91, 92, 93, 94, 95, 96, 97, 98, 99, 100, 101, 102, 103, 104, 105, 106, 107, 108, 109, 110, 111, 112, 113, 114, 234, 235, 236, 223, 224, 225, 226, 227, 228, 229, 230, 231, 232, 233, 237, 238, 239, 240] (by decide +kernel) (by decide +kernel)
set_option maxRecDepth 20000 in
theorem gX5_readDrive_X1_record : GoodIn wsX5_readDrive (wsV RX5 62 RX1 yX1_record wsX1_record) := goodIn_app (goodIn_of _ (by decide +kernel)) ggX5_readDrive_X1_record
set_option maxRecDepth 20000 in
theorem ggX5_readDrive_X0_partCount : GoodIn wsX5_readDrive wsX0_partCount := goodIn_r _ [118, 11, 216, 217, 218, 219, 220, 221, 222] (by decide +kernel) (by decide +kernel)
set_option maxRecDepth 20000 in
theorem gX5_readDrive_X0_partCount : GoodIn wsX5_readDrive (wsV RX5 110 RX0 yX0_partCount wsX0_partCount) := goodIn_app (goodIn_of _ (by decide +kernel)) ggX5_readDrive_X0_partCount
set_option maxRecDepth 20000 in
theorem ggX5_readDrive_X0_speedOf : GoodIn wsX5_readDrive wsX0_speedOf := goodIn_r _ [122, 61, 62, 63, 9, 64, 33, 216, 217, 218, 219, 220, 221, 222] (by decide +kernel) (by decide +kernel)
set_option maxRecDepth 20000 in
theorem gX5_readDrive_X0_speedOf : GoodIn wsX5_readDrive (wsV RX5 113 RX0 yX0_speedOf wsX0_speedOf) := goodIn_app (goodIn_of _ (by decide +kernel)) ggX5_readDrive_X0_speedOf
set_option maxRecDepth 20000 in
theorem ggX5_readDrive_X0_hundredthsOf : GoodIn wsX5_readDrive wsX0_hundredthsOf := goodIn_r _ [126, 61, 62, 63, 9, 64, 33, 216, 217, 218, 219, 220, 221, 222] (by decide +kernel) (by decide +kernel)
set_option maxRecDepth 20000 in
theorem gX5_readDrive_X0_hundredthsOf : GoodIn wsX5_readDrive (wsV RX5 116 RX0 yX0_hundredthsOf wsX0_hundredthsOf) := goodIn_app (goodIn_of _ (by decide +kernel)) ggX5_readDrive_X0_hundredthsOf
set_option maxRecDepth 20000 in
theorem ggX5_readDrive_X0_ticksOf : GoodIn wsX5_readDrive wsX0_ticksOf := goodIn_r _ [60, 61, 62, 63, 9, 64, 33, 216, 217, 218, 219, 220, 221, 222] (by decide +kernel) (by decide +kernel)
set_option maxRecDepth 20000 in
theorem gX5_readDrive_X0_ticksOf : GoodIn wsX5_readDrive (wsV RX5 120 RX0 yX0_ticksOf wsX0_ticksOf) := goodIn_app (goodIn_of _ (by decide +kernel)) ggX5_readDrive_X0_ticksOf
set_option maxRecDepth 20000 in
theorem ggX5_readDrive_X4_passTicks : GoodIn wsX5_readDrive wsX4_passTicks := goodIn_r _ [131, 132, 133, 134, 46, 135, 95, 97, 98, 136, 137, 138, 139, 94, 93, 92, 140, 141, 142, 143, 144, 145, 146, 147, 91, 148, 149, 150, 151, 85, 96, 152, 153, 154, 102, 155, 156, 157, 158, 159, 104, 160, 161, 162, 163, 164, 165, 166, 167, 168, 169, 74, 170, 171, 172, 173, 174, 175, 176, 177, 178, 179, 180, 181, 182, 183, 184, 185, 186, 187, 86, 188, 189, 190, 191, 192, 193, 194, 109, 195, 114, 113, 111, 196, 44, 45, 47, 48, 49, 50, 51, 52, 197, 198, 199, 200, 201, 73, 75, 202, 203, 204, 205, 206, 207, 208, 209, 223, 224, 225, 226, 227, 228, 229, 230, 231, 232, 233, 237, 238, 239, 240] (by decide +kernel) (by decide +kernel)
set_option maxRecDepth 20000 in
theorem gX5_readDrive_X4_passTicks : GoodIn wsX5_readDrive (wsV RX5 100 RX4 yX4_passTicks wsX4_passTicks) := goodIn_app (goodIn_of _ (by decide +kernel)) ggX5_readDrive_X4_passTicks
theorem dX5_readDrive_0 : decode cX5_readDrive 0 = .ok (.aload_n 0, 1) := by decide +kernel
theorem dX5_readDrive_1 : decode cX5_readDrive 1 = .ok (.getfield 32, 3) := by decide +kernel
theorem dX5_readDrive_4 : decode cX5_readDrive 4 = .ok (.invokevirtual 104, 3) := by decide +kernel
theorem dX5_readDrive_7 : decode cX5_readDrive 7 = .ok (.istore_n 1, 1) := by decide +kernel
theorem dX5_readDrive_8 : decode cX5_readDrive 8 = .ok (.iload_n 1, 1) := by decide +kernel
theorem dX5_readDrive_9 : decode cX5_readDrive 9 = .ok (.iconst (-1), 1) := by decide +kernel
theorem dX5_readDrive_10 : decode cX5_readDrive 10 = .ok (.if_icmp .eq 8, 3) := by decide +kernel
theorem dX5_readDrive_13 : decode cX5_readDrive 13 = .ok (.bipush (-100), 2) := by decide +kernel
theorem dX5_readDrive_15 : decode cX5_readDrive 15 = .ok (.iload_n 1, 1) := by decide +kernel
theorem dX5_readDrive_16 : decode cX5_readDrive 16 = .ok (.isub, 1) := by decide +kernel
theorem dX5_readDrive_17 : decode cX5_readDrive 17 = .ok (.ireturn, 1) := by decide +kernel
theorem dX5_readDrive_18 : decode cX5_readDrive 18 = .ok (.aload_n 0, 1) := by decide +kernel
theorem dX5_readDrive_19 : decode cX5_readDrive 19 = .ok (.getfield 10, 3) := by decide +kernel
theorem dX5_readDrive_22 : decode cX5_readDrive 22 = .ok (.invokevirtual 95, 3) := by decide +kernel
theorem dX5_readDrive_25 : decode cX5_readDrive 25 = .ok (.aload_n 0, 1) := by decide +kernel
theorem dX5_readDrive_26 : decode cX5_readDrive 26 = .ok (.getfield 32, 3) := by decide +kernel
theorem dX5_readDrive_29 : decode cX5_readDrive 29 = .ok (.invokevirtual 107, 3) := by decide +kernel
theorem dX5_readDrive_32 : decode cX5_readDrive 32 = .ok (.iadd, 1) := by decide +kernel
theorem dX5_readDrive_33 : decode cX5_readDrive 33 = .ok (.ldc 99, 2) := by decide +kernel
theorem dX5_readDrive_35 : decode cX5_readDrive 35 = .ok (.if_icmp .le 6, 3) := by decide +kernel
theorem dX5_readDrive_38 : decode cX5_readDrive 38 = .ok (.bipush (-3), 2) := by decide +kernel
theorem dX5_readDrive_40 : decode cX5_readDrive 40 = .ok (.ireturn, 1) := by decide +kernel
theorem dX5_readDrive_41 : decode cX5_readDrive 41 = .ok (.aload_n 0, 1) := by decide +kernel
theorem dX5_readDrive_42 : decode cX5_readDrive 42 = .ok (.getfield 25, 3) := by decide +kernel
theorem dX5_readDrive_45 : decode cX5_readDrive 45 = .ok (.aload_n 0, 1) := by decide +kernel
theorem dX5_readDrive_46 : decode cX5_readDrive 46 = .ok (.getfield 10, 3) := by decide +kernel
theorem dX5_readDrive_49 : decode cX5_readDrive 49 = .ok (.invokevirtual 62, 3) := by decide +kernel
theorem dX5_readDrive_52 : decode cX5_readDrive 52 = .ok (.iconst 0, 1) := by decide +kernel
theorem dX5_readDrive_53 : decode cX5_readDrive 53 = .ok (.istore_n 2, 1) := by decide +kernel
theorem dX5_readDrive_54 : decode cX5_readDrive 54 = .ok (.iconst 0, 1) := by decide +kernel
theorem dX5_readDrive_55 : decode cX5_readDrive 55 = .ok (.istore_n 3, 1) := by decide +kernel
theorem dX5_readDrive_56 : decode cX5_readDrive 56 = .ok (.iload_n 3, 1) := by decide +kernel
theorem dX5_readDrive_57 : decode cX5_readDrive 57 = .ok (.aload_n 0, 1) := by decide +kernel
theorem dX5_readDrive_58 : decode cX5_readDrive 58 = .ok (.getfield 32, 3) := by decide +kernel
theorem dX5_readDrive_61 : decode cX5_readDrive 61 = .ok (.invokevirtual 110, 3) := by decide +kernel
theorem dX5_readDrive_64 : decode cX5_readDrive 64 = .ok (.if_icmp .ge 56, 3) := by decide +kernel
theorem dX5_readDrive_67 : decode cX5_readDrive 67 = .ok (.aload_n 0, 1) := by decide +kernel
theorem dX5_readDrive_68 : decode cX5_readDrive 68 = .ok (.getfield 32, 3) := by decide +kernel
theorem dX5_readDrive_71 : decode cX5_readDrive 71 = .ok (.iload_n 3, 1) := by decide +kernel
theorem dX5_readDrive_72 : decode cX5_readDrive 72 = .ok (.invokevirtual 113, 3) := by decide +kernel
theorem dX5_readDrive_75 : decode cX5_readDrive 75 = .ok (.i2f, 1) := by decide +kernel
theorem dX5_readDrive_76 : decode cX5_readDrive 76 = .ok (.fstore 4, 2) := by decide +kernel
theorem dX5_readDrive_78 : decode cX5_readDrive 78 = .ok (.aload_n 0, 1) := by decide +kernel
theorem dX5_readDrive_79 : decode cX5_readDrive 79 = .ok (.getfield 32, 3) := by decide +kernel
theorem dX5_readDrive_82 : decode cX5_readDrive 82 = .ok (.iload_n 3, 1) := by decide +kernel
theorem dX5_readDrive_83 : decode cX5_readDrive 83 = .ok (.invokevirtual 116, 3) := by decide +kernel
theorem dX5_readDrive_86 : decode cX5_readDrive 86 = .ok (.i2f, 1) := by decide +kernel
theorem dX5_readDrive_87 : decode cX5_readDrive 87 = .ok (.ldc 119, 2) := by decide +kernel
theorem dX5_readDrive_89 : decode cX5_readDrive 89 = .ok (.fdiv, 1) := by decide +kernel
theorem dX5_readDrive_90 : decode cX5_readDrive 90 = .ok (.fstore 5, 2) := by decide +kernel
theorem dX5_readDrive_92 : decode cX5_readDrive 92 = .ok (.iload_n 2, 1) := by decide +kernel
theorem dX5_readDrive_93 : decode cX5_readDrive 93 = .ok (.aload_n 0, 1) := by decide +kernel
theorem dX5_readDrive_94 : decode cX5_readDrive 94 = .ok (.getfield 10, 3) := by decide +kernel
theorem dX5_readDrive_97 : decode cX5_readDrive 97 = .ok (.fload 4, 2) := by decide +kernel
theorem dX5_readDrive_99 : decode cX5_readDrive 99 = .ok (.fload 5, 2) := by decide +kernel
theorem dX5_readDrive_101 : decode cX5_readDrive 101 = .ok (.aload_n 0, 1) := by decide +kernel
theorem dX5_readDrive_102 : decode cX5_readDrive 102 = .ok (.getfield 32, 3) := by decide +kernel
theorem dX5_readDrive_105 : decode cX5_readDrive 105 = .ok (.iload_n 3, 1) := by decide +kernel
theorem dX5_readDrive_106 : decode cX5_readDrive 106 = .ok (.invokevirtual 120, 3) := by decide +kernel
theorem dX5_readDrive_109 : decode cX5_readDrive 109 = .ok (.invokevirtual 100, 3) := by decide +kernel
theorem dX5_readDrive_112 : decode cX5_readDrive 112 = .ok (.iadd, 1) := by decide +kernel
theorem dX5_readDrive_113 : decode cX5_readDrive 113 = .ok (.istore_n 2, 1) := by decide +kernel
theorem dX5_readDrive_114 : decode cX5_readDrive 114 = .ok (.iinc 3 1, 3) := by decide +kernel
theorem dX5_readDrive_117 : decode cX5_readDrive 117 = .ok (.goto (-61), 3) := by decide +kernel
theorem dX5_readDrive_120 : decode cX5_readDrive 120 = .ok (.iload_n 2, 1) := by decide +kernel
theorem dX5_readDrive_121 : decode cX5_readDrive 121 = .ok (.ireturn, 1) := by decide +kernel
set_option maxRecDepth 20000 in
theorem ggX5_shift_X4_mayShiftTo : GoodIn wsX5_shift wsX4_mayShiftTo := goodIn_r _ [7, 8, 9, 10, 11, 12, 13, 6, 14, 15, 16, 17, 18, 19, 20, 21, 22, 23, 24, 25, 110, 111, 112, 113, 114, 115, 116, 117, 118, 119, 120, 121] (by decide +kernel) (by decide +kernel)
set_option maxRecDepth 20000 in
theorem gX5_shift_X4_mayShiftTo : GoodIn wsX5_shift (wsV RX5 123 RX4 yX4_mayShiftTo wsX4_mayShiftTo) := goodIn_app (goodIn_of _ (by decide +kernel)) ggX5_shift_X4_mayShiftTo
set_option maxRecDepth 20000 in
theorem ggX5_shift_X1_record : GoodIn wsX5_shift wsX1_record := goodIn_r _ [30, 31, 32, 33, 34, 35, 36, 37, 38, 39, 29, 40, 41, 42, 43, 44, 6, 45, 9, 46, 47, 48, 49, 50, 51, 52, 53, 15, 54, 55, 8, 10, 56, 57, 58, 59, 19, 60, 25, 61, 62, 63, 64, 65, 66, 67, 68, 69, 70, 122, 123, 124, 110, 111, 112, 113, 114, 115, 116, 117, 118, 119, 120, 121, 125, 126, 127] (by decide +kernel) (by decide +kernel)
set_option maxRecDepth 20000 in
theorem gX5_shift_X1_record : GoodIn wsX5_shift (wsV RX5 62 RX1 yX1_record wsX1_record) := goodIn_app (goodIn_of _ (by decide +kernel)) ggX5_shift_X1_record
set_option maxRecDepth 20000 in
theorem ggX5_shift_X4_begin : GoodIn wsX5_shift wsX4_begin := goodIn_r _ [74, 46, 53, 15, 54, 55, 75, 76, 77, 6, 78, 79, 80, 81, 65, 82, 70, 69, 67, 83, 84, 85, 86, 87, 88, 89, 90, 47, 91, 92, 93, 94, 52, 95, 96, 97, 98, 99, 34, 35, 36, 100, 101, 102, 103, 110, 111, 112, 113, 114, 115, 116, 117, 118, 119, 120, 125, 126, 127] (by decide +kernel) (by decide +kernel)
set_option maxRecDepth 20000 in
theorem gX5_shift_X4_begin : GoodIn wsX5_shift (wsV RX5 126 RX4 yX4_begin wsX4_begin) := goodIn_app (goodIn_of _ (by decide +kernel)) ggX5_shift_X4_begin
theorem dX5_shift_0 : decode cX5_shift 0 = .ok (.iload_n 1, 1) := by decide +kernel
theorem dX5_shift_1 : decode cX5_shift 1 = .ok (.ifCond .eq 15, 3) := by decide +kernel
theorem dX5_shift_4 : decode cX5_shift 4 = .ok (.aload_n 0, 1) := by decide +kernel
theorem dX5_shift_5 : decode cX5_shift 5 = .ok (.getfield 10, 3) := by decide +kernel
theorem dX5_shift_8 : decode cX5_shift 8 = .ok (.getfield 88, 3) := by decide +kernel
theorem dX5_shift_11 : decode cX5_shift 11 = .ok (.iconst 1, 1) := by decide +kernel
theorem dX5_shift_12 : decode cX5_shift 12 = .ok (.iadd, 1) := by decide +kernel
theorem dX5_shift_13 : decode cX5_shift 13 = .ok (.goto 12, 3) := by decide +kernel
theorem dX5_shift_16 : decode cX5_shift 16 = .ok (.aload_n 0, 1) := by decide +kernel
theorem dX5_shift_17 : decode cX5_shift 17 = .ok (.getfield 10, 3) := by decide +kernel
theorem dX5_shift_20 : decode cX5_shift 20 = .ok (.getfield 88, 3) := by decide +kernel
theorem dX5_shift_23 : decode cX5_shift 23 = .ok (.iconst 1, 1) := by decide +kernel
theorem dX5_shift_24 : decode cX5_shift 24 = .ok (.isub, 1) := by decide +kernel
theorem dX5_shift_25 : decode cX5_shift 25 = .ok (.istore_n 2, 1) := by decide +kernel
theorem dX5_shift_26 : decode cX5_shift 26 = .ok (.aload_n 0, 1) := by decide +kernel
theorem dX5_shift_27 : decode cX5_shift 27 = .ok (.getfield 10, 3) := by decide +kernel
theorem dX5_shift_30 : decode cX5_shift 30 = .ok (.iload_n 2, 1) := by decide +kernel
theorem dX5_shift_31 : decode cX5_shift 31 = .ok (.invokevirtual 123, 3) := by decide +kernel
theorem dX5_shift_34 : decode cX5_shift 34 = .ok (.ifCond .ne 6, 3) := by decide +kernel
theorem dX5_shift_37 : decode cX5_shift 37 = .ok (.bipush (-4), 2) := by decide +kernel
theorem dX5_shift_39 : decode cX5_shift 39 = .ok (.ireturn, 1) := by decide +kernel
theorem dX5_shift_40 : decode cX5_shift 40 = .ok (.aload_n 0, 1) := by decide +kernel
theorem dX5_shift_41 : decode cX5_shift 41 = .ok (.getfield 25, 3) := by decide +kernel
theorem dX5_shift_44 : decode cX5_shift 44 = .ok (.aload_n 0, 1) := by decide +kernel
theorem dX5_shift_45 : decode cX5_shift 45 = .ok (.getfield 10, 3) := by decide +kernel
theorem dX5_shift_48 : decode cX5_shift 48 = .ok (.invokevirtual 62, 3) := by decide +kernel
theorem dX5_shift_51 : decode cX5_shift 51 = .ok (.aload_n 0, 1) := by decide +kernel
theorem dX5_shift_52 : decode cX5_shift 52 = .ok (.getfield 10, 3) := by decide +kernel
theorem dX5_shift_55 : decode cX5_shift 55 = .ok (.iconst 3, 1) := by decide +kernel
theorem dX5_shift_56 : decode cX5_shift 56 = .ok (.iload_n 2, 1) := by decide +kernel
theorem dX5_shift_57 : decode cX5_shift 57 = .ok (.invokevirtual 126, 3) := by decide +kernel
theorem dX5_shift_60 : decode cX5_shift 60 = .ok (.iload_n 2, 1) := by decide +kernel
theorem dX5_shift_61 : decode cX5_shift 61 = .ok (.ireturn, 1) := by decide +kernel
set_option maxRecDepth 20000 in
theorem ggX5_type_X0_append : GoodIn wsX5_type wsX0_append := goodIn_r _ [6, 7, 8, 19, 20, 21, 22, 23, 24, 25] (by decide +kernel) (by decide +kernel)
set_option maxRecDepth 20000 in
theorem gX5_type_X0_append : GoodIn wsX5_type (wsV RX5 129 RX0 yX0_append wsX0_append) := goodIn_app (goodIn_of _ (by decide +kernel)) ggX5_type_X0_append
set_option maxRecDepth 20000 in
theorem ggX5_type_X0_length : GoodIn wsX5_type wsX0_length := goodIn_r _ [12, 7, 19, 20, 21, 22, 23, 24, 25] (by decide +kernel) (by decide +kernel)
set_option maxRecDepth 20000 in
theorem gX5_type_X0_length : GoodIn wsX5_type (wsV RX5 133 RX0 yX0_length wsX0_length) := goodIn_app (goodIn_of _ (by decide +kernel)) ggX5_type_X0_length
theorem dX5_type_0 : decode cX5_type 0 = .ok (.aload_n 0, 1) := by decide +kernel
theorem dX5_type_1 : decode cX5_type 1 = .ok (.getfield 32, 3) := by decide +kernel
theorem dX5_type_4 : decode cX5_type 4 = .ok (.iload_n 1, 1) := by decide +kernel
theorem dX5_type_5 : decode cX5_type 5 = .ok (.invokevirtual 129, 3) := by decide +kernel
theorem dX5_type_8 : decode cX5_type 8 = .ok (.ifCond .eq 13, 3) := by decide +kernel
theorem dX5_type_11 : decode cX5_type 11 = .ok (.aload_n 0, 1) := by decide +kernel
theorem dX5_type_12 : decode cX5_type 12 = .ok (.getfield 32, 3) := by decide +kernel
theorem dX5_type_15 : decode cX5_type 15 = .ok (.invokevirtual 133, 3) := by decide +kernel
theorem dX5_type_18 : decode cX5_type 18 = .ok (.goto 5, 3) := by decide +kernel
theorem dX5_type_21 : decode cX5_type 21 = .ok (.bipush (-3), 2) := by decide +kernel
theorem dX5_type_23 : decode cX5_type 23 = .ok (.ireturn, 1) := by decide +kernel
set_option maxRecDepth 20000 in
theorem ggX5_clearText_X0_length : GoodIn wsX5_clearText wsX0_length := goodIn_r _ [6, 7, 18, 19, 20, 21, 22, 23, 24] (by decide +kernel) (by decide +kernel)
set_option maxRecDepth 20000 in
theorem gX5_clearText_X0_length : GoodIn wsX5_clearText (wsV RX5 133 RX0 yX0_length wsX0_length) := goodIn_app (goodIn_of _ (by decide +kernel)) ggX5_clearText_X0_length
set_option maxRecDepth 20000 in
theorem ggX5_clearText_X0_clear : GoodIn wsX5_clearText wsX0_clear := goodIn_r _ [11, 7, 18, 19, 20, 21, 22, 23, 24] (by decide +kernel) (by decide +kernel)
set_option maxRecDepth 20000 in
theorem gX5_clearText_X0_clear : GoodIn wsX5_clearText (wsV RX5 136 RX0 yX0_clear wsX0_clear) := goodIn_app (goodIn_of _ (by decide +kernel)) ggX5_clearText_X0_clear
theorem dX5_clearText_0 : decode cX5_clearText 0 = .ok (.aload_n 0, 1) := by decide +kernel
theorem dX5_clearText_1 : decode cX5_clearText 1 = .ok (.getfield 32, 3) := by decide +kernel
theorem dX5_clearText_4 : decode cX5_clearText 4 = .ok (.invokevirtual 133, 3) := by decide +kernel
theorem dX5_clearText_7 : decode cX5_clearText 7 = .ok (.istore_n 1, 1) := by decide +kernel
theorem dX5_clearText_8 : decode cX5_clearText 8 = .ok (.aload_n 0, 1) := by decide +kernel
theorem dX5_clearText_9 : decode cX5_clearText 9 = .ok (.getfield 32, 3) := by decide +kernel
theorem dX5_clearText_12 : decode cX5_clearText 12 = .ok (.invokevirtual 136, 3) := by decide +kernel
theorem dX5_clearText_15 : decode cX5_clearText 15 = .ok (.iload_n 1, 1) := by decide +kernel
theorem dX5_clearText_16 : decode cX5_clearText 16 = .ok (.ireturn, 1) := by decide +kernel
set_option maxRecDepth 20000 in
theorem ggX5_undo_X1_takeLatestInto : GoodIn wsX5_undo wsX1_takeLatestInto := goodIn_r _ [7, 8, 9, 10, 11, 12, 6, 13, 14, 15, 16, 17, 18, 19, 20, 21, 22, 23, 24, 25, 26, 27, 28, 29, 30, 31, 32, 33, 34, 35, 36, 37, 38, 39, 40, 41, 42, 43, 44, 45, 46, 47, 48, 49, 50, 61, 62, 63, 64, 65, 66, 67, 68, 69, 70, 71, 72, 73, 74, 75, 76, 77, 78] (by decide +kernel) (by decide +kernel)
set_option maxRecDepth 20000 in
theorem gX5_undo_X1_takeLatestInto : GoodIn wsX5_undo (wsV RX5 139 RX1 yX1_takeLatestInto wsX1_takeLatestInto) := goodIn_app (goodIn_of _ (by decide +kernel)) ggX5_undo_X1_takeLatestInto
set_option maxRecDepth 20000 in
theorem ggX5_undo_X1_size : GoodIn wsX5_undo wsX1_size := goodIn_r _ [54, 9, 61, 62, 63] (by decide +kernel) (by decide +kernel)
set_option maxRecDepth 20000 in
theorem gX5_undo_X1_size : GoodIn wsX5_undo (wsV RX5 143 RX1 yX1_size wsX1_size) := goodIn_app (goodIn_of _ (by decide +kernel)) ggX5_undo_X1_size
theorem dX5_undo_0 : decode cX5_undo 0 = .ok (.aload_n 0, 1) := by decide +kernel
theorem dX5_undo_1 : decode cX5_undo 1 = .ok (.getfield 25, 3) := by decide +kernel
theorem dX5_undo_4 : decode cX5_undo 4 = .ok (.aload_n 0, 1) := by decide +kernel
theorem dX5_undo_5 : decode cX5_undo 5 = .ok (.getfield 10, 3) := by decide +kernel
theorem dX5_undo_8 : decode cX5_undo 8 = .ok (.invokevirtual 139, 3) := by decide +kernel
theorem dX5_undo_11 : decode cX5_undo 11 = .ok (.ifCond .eq 13, 3) := by decide +kernel
theorem dX5_undo_14 : decode cX5_undo 14 = .ok (.aload_n 0, 1) := by decide +kernel
theorem dX5_undo_15 : decode cX5_undo 15 = .ok (.getfield 25, 3) := by decide +kernel
theorem dX5_undo_18 : decode cX5_undo 18 = .ok (.invokevirtual 143, 3) := by decide +kernel
theorem dX5_undo_21 : decode cX5_undo 21 = .ok (.goto 5, 3) := by decide +kernel
theorem dX5_undo_24 : decode cX5_undo 24 = .ok (.bipush (-5), 2) := by decide +kernel
theorem dX5_undo_26 : decode cX5_undo 26 = .ok (.ireturn, 1) := by decide +kernel
set_option maxRecDepth 20000 in
theorem ggX5_car_X4_isChanging : GoodIn wsX5_car wsX4_isChanging := goodIn_r _ [6, 7, 32, 33, 34, 35, 36, 37, 38, 39, 40, 41, 42] (by decide +kernel) (by decide +kernel)
set_option maxRecDepth 20000 in
theorem gX5_car_X4_isChanging : GoodIn wsX5_car (wsV RX5 73 RX4 yX4_isChanging wsX4_isChanging) := goodIn_app (goodIn_of _ (by decide +kernel)) ggX5_car_X4_isChanging
set_option maxRecDepth 20000 in
theorem ggX5_car_X4_opening : GoodIn wsX5_car wsX4_opening := goodIn_r _ [11, 12, 7, 13, 3, 4, 5, 6, 14, 15, 16, 17, 18, 19, 20, 21, 32, 33, 34, 35, 36, 37, 38, 39, 40, 41, 42] (by decide +kernel) (by decide +kernel)
set_option maxRecDepth 20000 in
theorem gX5_car_X4_opening : GoodIn wsX5_car (wsV RX5 158 RX4 yX4_opening wsX4_opening) := goodIn_app (goodIn_of _ (by decide +kernel)) ggX5_car_X4_opening
set_option maxRecDepth 20000 in
theorem ggX5_car_X4_closing : GoodIn wsX5_car wsX4_closing := goodIn_r _ [25, 7, 12, 13, 3, 4, 5, 6, 14, 15, 16, 17, 18, 19, 20, 21, 32, 33, 34, 35, 36, 37, 38, 39, 40, 41, 42] (by decide +kernel) (by decide +kernel)
set_option maxRecDepth 20000 in
theorem gX5_car_X4_closing : GoodIn wsX5_car (wsV RX5 161 RX4 yX4_closing wsX4_closing) := goodIn_app (goodIn_of _ (by decide +kernel)) ggX5_car_X4_closing
theorem dX5_car_0 : decode cX5_car 0 = .ok (.iload_n 1, 1) := by decide +kernel
theorem dX5_car_1 : decode cX5_car 1 = .ok (.tableswitch 137 0 6 #[43, 51, 74, 97, 105, 121, 129], 43) := by decide +kernel
theorem dX5_car_44 : decode cX5_car 44 = .ok (.aload_n 0, 1) := by decide +kernel
theorem dX5_car_45 : decode cX5_car 45 = .ok (.getfield 10, 3) := by decide +kernel
theorem dX5_car_48 : decode cX5_car 48 = .ok (.getfield 88, 3) := by decide +kernel
theorem dX5_car_51 : decode cX5_car 51 = .ok (.ireturn, 1) := by decide +kernel
theorem dX5_car_52 : decode cX5_car 52 = .ok (.aload_n 0, 1) := by decide +kernel
theorem dX5_car_53 : decode cX5_car 53 = .ok (.getfield 10, 3) := by decide +kernel
theorem dX5_car_56 : decode cX5_car 56 = .ok (.invokevirtual 73, 3) := by decide +kernel
theorem dX5_car_59 : decode cX5_car 59 = .ok (.ifCond .eq 13, 3) := by decide +kernel
theorem dX5_car_62 : decode cX5_car 62 = .ok (.aload_n 0, 1) := by decide +kernel
theorem dX5_car_63 : decode cX5_car 63 = .ok (.getfield 10, 3) := by decide +kernel
theorem dX5_car_66 : decode cX5_car 66 = .ok (.getfield 149, 3) := by decide +kernel
theorem dX5_car_69 : decode cX5_car 69 = .ok (.goto 5, 3) := by decide +kernel
theorem dX5_car_72 : decode cX5_car 72 = .ok (.bipush (-5), 2) := by decide +kernel
theorem dX5_car_74 : decode cX5_car 74 = .ok (.ireturn, 1) := by decide +kernel
theorem dX5_car_75 : decode cX5_car 75 = .ok (.aload_n 0, 1) := by decide +kernel
theorem dX5_car_76 : decode cX5_car 76 = .ok (.getfield 10, 3) := by decide +kernel
theorem dX5_car_79 : decode cX5_car 79 = .ok (.invokevirtual 73, 3) := by decide +kernel
theorem dX5_car_82 : decode cX5_car 82 = .ok (.ifCond .eq 13, 3) := by decide +kernel
theorem dX5_car_85 : decode cX5_car 85 = .ok (.aload_n 0, 1) := by decide +kernel
theorem dX5_car_86 : decode cX5_car 86 = .ok (.getfield 10, 3) := by decide +kernel
theorem dX5_car_89 : decode cX5_car 89 = .ok (.getfield 152, 3) := by decide +kernel
theorem dX5_car_92 : decode cX5_car 92 = .ok (.goto 5, 3) := by decide +kernel
theorem dX5_car_95 : decode cX5_car 95 = .ok (.bipush (-5), 2) := by decide +kernel
theorem dX5_car_97 : decode cX5_car 97 = .ok (.ireturn, 1) := by decide +kernel
theorem dX5_car_98 : decode cX5_car 98 = .ok (.aload_n 0, 1) := by decide +kernel
theorem dX5_car_99 : decode cX5_car 99 = .ok (.getfield 10, 3) := by decide +kernel
theorem dX5_car_102 : decode cX5_car 102 = .ok (.getfield 155, 3) := by decide +kernel
theorem dX5_car_105 : decode cX5_car 105 = .ok (.ireturn, 1) := by decide +kernel
theorem dX5_car_106 : decode cX5_car 106 = .ok (.aload_n 0, 1) := by decide +kernel
theorem dX5_car_107 : decode cX5_car 107 = .ok (.getfield 10, 3) := by decide +kernel
theorem dX5_car_110 : decode cX5_car 110 = .ok (.getfield 85, 3) := by decide +kernel
theorem dX5_car_113 : decode cX5_car 113 = .ok (.ifCond .eq 7, 3) := by decide +kernel
theorem dX5_car_116 : decode cX5_car 116 = .ok (.iconst 1, 1) := by decide +kernel
theorem dX5_car_117 : decode cX5_car 117 = .ok (.goto 4, 3) := by decide +kernel
theorem dX5_car_120 : decode cX5_car 120 = .ok (.iconst 0, 1) := by decide +kernel
theorem dX5_car_121 : decode cX5_car 121 = .ok (.ireturn, 1) := by decide +kernel
theorem dX5_car_122 : decode cX5_car 122 = .ok (.aload_n 0, 1) := by decide +kernel
theorem dX5_car_123 : decode cX5_car 123 = .ok (.getfield 10, 3) := by decide +kernel
theorem dX5_car_126 : decode cX5_car 126 = .ok (.invokevirtual 158, 3) := by decide +kernel
theorem dX5_car_129 : decode cX5_car 129 = .ok (.ireturn, 1) := by decide +kernel
theorem dX5_car_130 : decode cX5_car 130 = .ok (.aload_n 0, 1) := by decide +kernel
theorem dX5_car_131 : decode cX5_car 131 = .ok (.getfield 10, 3) := by decide +kernel
theorem dX5_car_134 : decode cX5_car 134 = .ok (.invokevirtual 161, 3) := by decide +kernel
theorem dX5_car_137 : decode cX5_car 137 = .ok (.ireturn, 1) := by decide +kernel
theorem dX5_car_138 : decode cX5_car 138 = .ok (.bipush (-2), 2) := by decide +kernel
theorem dX5_car_140 : decode cX5_car 140 = .ok (.ireturn, 1) := by decide +kernel
set_option maxRecDepth 20000 in
theorem ggX5_pressed_X4_pressureOf : GoodIn wsX5_pressed wsX4_pressureOf := goodIn_r _ [6, 7, 8, 9, 10, 5, 11, 12, 13, 14, 15, 16, 17, 18, 19, 20, 21, 22, 23, 24, 25, 26, 27, 28, 29, 30, 31, 32, 33, 34, 35, 36, 37, 38, 39, 40, 41, 42, 54, 55, 56, 57, 58, 59, 60, 61, 62, 63, 64] (by decide +kernel) (by decide +kernel)
set_option maxRecDepth 20000 in
theorem gX5_pressed_X4_pressureOf : GoodIn wsX5_pressed (wsV RX5 164 RX4 yX4_pressureOf wsX4_pressureOf) := goodIn_app (goodIn_of _ (by decide +kernel)) ggX5_pressed_X4_pressureOf
set_option maxRecDepth 20000 in
theorem ggX5_pressed_X5_notANumber : GoodIn wsX5_pressed wsX5_notANumber := goodIn_r _ [46, 47] (by decide +kernel) (by decide +kernel)
set_option maxRecDepth 20000 in
theorem gX5_pressed_X5_notANumber : GoodIn wsX5_pressed (va_wsS RX5 167 yX5_notANumber wsX5_notANumber) := goodIn_app (goodIn_of _ (by decide +kernel)) ggX5_pressed_X5_notANumber
theorem dX5_pressed_0 : decode cX5_pressed 0 = .ok (.iload_n 1, 1) := by decide +kernel
theorem dX5_pressed_1 : decode cX5_pressed 1 = .ok (.ifCond .lt 19, 3) := by decide +kernel
theorem dX5_pressed_4 : decode cX5_pressed 4 = .ok (.iload_n 1, 1) := by decide +kernel
theorem dX5_pressed_5 : decode cX5_pressed 5 = .ok (.iconst 5, 1) := by decide +kernel
theorem dX5_pressed_6 : decode cX5_pressed 6 = .ok (.if_icmp .ge 14, 3) := by decide +kernel
theorem dX5_pressed_9 : decode cX5_pressed 9 = .ok (.aload_n 0, 1) := by decide +kernel
theorem dX5_pressed_10 : decode cX5_pressed 10 = .ok (.getfield 10, 3) := by decide +kernel
theorem dX5_pressed_13 : decode cX5_pressed 13 = .ok (.iload_n 1, 1) := by decide +kernel
theorem dX5_pressed_14 : decode cX5_pressed 14 = .ok (.invokevirtual 164, 3) := by decide +kernel
theorem dX5_pressed_17 : decode cX5_pressed 17 = .ok (.goto 6, 3) := by decide +kernel
theorem dX5_pressed_20 : decode cX5_pressed 20 = .ok (.invokestatic 167, 3) := by decide +kernel
theorem dX5_pressed_23 : decode cX5_pressed 23 = .ok (.freturn, 1) := by decide +kernel
set_option maxRecDepth 20000 in
theorem ggX5_force_X4_greaterPressure : GoodIn wsX5_force wsX4_greaterPressure := goodIn_r _ [6, 7, 8, 9, 5, 10, 11, 12, 13, 14, 15, 16, 17, 18, 19, 20, 21, 22, 23, 24, 25, 32, 33, 34, 35, 36, 37, 38, 39, 40, 41, 42] (by decide +kernel) (by decide +kernel)
set_option maxRecDepth 20000 in
theorem gX5_force_X4_greaterPressure : GoodIn wsX5_force (wsV RX5 171 RX4 yX4_greaterPressure wsX4_greaterPressure) := goodIn_app (goodIn_of _ (by decide +kernel)) ggX5_force_X4_greaterPressure
theorem dX5_force_0 : decode cX5_force 0 = .ok (.aload_n 0, 1) := by decide +kernel
theorem dX5_force_1 : decode cX5_force 1 = .ok (.getfield 10, 3) := by decide +kernel
theorem dX5_force_4 : decode cX5_force 4 = .ok (.invokevirtual 171, 3) := by decide +kernel
theorem dX5_force_7 : decode cX5_force 7 = .ok (.freturn, 1) := by decide +kernel
set_option maxRecDepth 20000 in
theorem ggX5_map_X3_has : GoodIn wsX5_map wsX3_has := goodIn_r _ [5] (by decide +kernel) (by decide +kernel)
set_option maxRecDepth 20000 in
theorem gX5_map_X3_has : GoodIn wsX5_map (va_wsS RX5 40 yX3_has wsX3_has) := goodIn_app (goodIn_of _ (by decide +kernel)) ggX5_map_X3_has
set_option maxRecDepth 20000 in
theorem ggX5_map_X3_speed : GoodIn wsX5_map wsX3_speed := goodIn_r _ [9, 10, 33] (by decide +kernel) (by decide +kernel)
set_option maxRecDepth 20000 in
theorem gX5_map_X3_speed : GoodIn wsX5_map (wsV RX5 58 RX3 yX3_speed wsX3_speed) := goodIn_app (goodIn_of _ (by decide +kernel)) ggX5_map_X3_speed
set_option maxRecDepth 20000 in
theorem ggX5_map_X5_notANumber : GoodIn wsX5_map wsX5_notANumber := goodIn_r _ [14, 15] (by decide +kernel) (by decide +kernel)
set_option maxRecDepth 20000 in
theorem gX5_map_X5_notANumber : GoodIn wsX5_map (va_wsS RX5 167 yX5_notANumber wsX5_notANumber) := goodIn_app (goodIn_of _ (by decide +kernel)) ggX5_map_X5_notANumber
theorem dX5_map_0 : decode cX5_map 0 = .ok (.iload_n 1, 1) := by decide +kernel
theorem dX5_map_1 : decode cX5_map 1 = .ok (.iload_n 2, 1) := by decide +kernel
theorem dX5_map_2 : decode cX5_map 2 = .ok (.invokestatic 40, 3) := by decide +kernel
theorem dX5_map_5 : decode cX5_map 5 = .ok (.ifCond .eq 18, 3) := by decide +kernel
theorem dX5_map_8 : decode cX5_map 8 = .ok (.aload_n 0, 1) := by decide +kernel
theorem dX5_map_9 : decode cX5_map 9 = .ok (.getfield 10, 3) := by decide +kernel
theorem dX5_map_12 : decode cX5_map 12 = .ok (.getfield 54, 3) := by decide +kernel
theorem dX5_map_15 : decode cX5_map 15 = .ok (.iload_n 1, 1) := by decide +kernel
theorem dX5_map_16 : decode cX5_map 16 = .ok (.iload_n 2, 1) := by decide +kernel
theorem dX5_map_17 : decode cX5_map 17 = .ok (.invokevirtual 58, 3) := by decide +kernel
theorem dX5_map_20 : decode cX5_map 20 = .ok (.goto 6, 3) := by decide +kernel
theorem dX5_map_23 : decode cX5_map 23 = .ok (.invokestatic 167, 3) := by decide +kernel
theorem dX5_map_26 : decode cX5_map 26 = .ok (.freturn, 1) := by decide +kernel
set_option maxRecDepth 20000 in
theorem ggX5_border_X3_has : GoodIn wsX5_border wsX3_has := goodIn_r _ [5] (by decide +kernel) (by decide +kernel)
set_option maxRecDepth 20000 in
theorem gX5_border_X3_has : GoodIn wsX5_border (va_wsS RX5 40 yX3_has wsX3_has) := goodIn_app (goodIn_of _ (by decide +kernel)) ggX5_border_X3_has
set_option maxRecDepth 20000 in
theorem ggX5_border_X5_isPedal : GoodIn wsX5_border wsX5_isPedal := goodIn_r _ [9, 10] (by decide +kernel) (by decide +kernel)
set_option maxRecDepth 20000 in
theorem gX5_border_X5_isPedal : GoodIn wsX5_border (va_wsS RX5 92 yX5_isPedal wsX5_isPedal) := goodIn_app (goodIn_of _ (by decide +kernel)) ggX5_border_X5_isPedal
set_option maxRecDepth 20000 in
theorem ggX5_border_X5_notANumber : GoodIn wsX5_border wsX5_notANumber := goodIn_r _ [13, 14] (by decide +kernel) (by decide +kernel)
set_option maxRecDepth 20000 in
theorem gX5_border_X5_notANumber : GoodIn wsX5_border (va_wsS RX5 167 yX5_notANumber wsX5_notANumber) := goodIn_app (goodIn_of _ (by decide +kernel)) ggX5_border_X5_notANumber
set_option maxRecDepth 20000 in
theorem ggX5_border_X5_floatOf : GoodIn wsX5_border wsX5_floatOf := goodIn_r _ [17, 18, 19, 20] (by decide +kernel) (by decide +kernel)
set_option maxRecDepth 20000 in
theorem gX5_border_X5_floatOf : GoodIn wsX5_border (va_wsS RX5 50 yX5_floatOf wsX5_floatOf) := goodIn_app (goodIn_of _ (by decide +kernel)) ggX5_border_X5_floatOf
set_option maxRecDepth 20000 in
theorem ggX5_border_X3_upFrom : GoodIn wsX5_border wsX3_upFrom := goodIn_r _ [24, 25, 26, 27, 4, 28, 29, 52] (by decide +kernel) (by decide +kernel)
set_option maxRecDepth 20000 in
theorem gX5_border_X3_upFrom : GoodIn wsX5_border (wsV RX5 174 RX3 yX3_upFrom wsX3_upFrom) := goodIn_app (goodIn_of _ (by decide +kernel)) ggX5_border_X3_upFrom
set_option maxRecDepth 20000 in
theorem ggX5_border_X3_downTo : GoodIn wsX5_border wsX3_downTo := goodIn_r _ [33, 34, 22, 23, 4, 24, 25, 26, 27, 28, 29, 52] (by decide +kernel) (by decide +kernel)
set_option maxRecDepth 20000 in
theorem gX5_border_X3_downTo : GoodIn wsX5_border (wsV RX5 178 RX3 yX3_downTo wsX3_downTo) := goodIn_app (goodIn_of _ (by decide +kernel)) ggX5_border_X3_downTo
theorem dX5_border_0 : decode cX5_border 0 = .ok (.iload_n 1, 1) := by decide +kernel
theorem dX5_border_1 : decode cX5_border 1 = .ok (.iconst 0, 1) := by decide +kernel
theorem dX5_border_2 : decode cX5_border 2 = .ok (.invokestatic 40, 3) := by decide +kernel
theorem dX5_border_5 : decode cX5_border 5 = .ok (.ifCond .eq 10, 3) := by decide +kernel
theorem dX5_border_8 : decode cX5_border 8 = .ok (.iload_n 2, 1) := by decide +kernel
theorem dX5_border_9 : decode cX5_border 9 = .ok (.invokestatic 92, 3) := by decide +kernel
theorem dX5_border_12 : decode cX5_border 12 = .ok (.ifCond .ne 7, 3) := by decide +kernel
theorem dX5_border_15 : decode cX5_border 15 = .ok (.invokestatic 167, 3) := by decide +kernel
theorem dX5_border_18 : decode cX5_border 18 = .ok (.freturn, 1) := by decide +kernel
theorem dX5_border_19 : decode cX5_border 19 = .ok (.iload_n 2, 1) := by decide +kernel
theorem dX5_border_20 : decode cX5_border 20 = .ok (.invokestatic 50, 3) := by decide +kernel
theorem dX5_border_23 : decode cX5_border 23 = .ok (.fstore 4, 2) := by decide +kernel
theorem dX5_border_25 : decode cX5_border 25 = .ok (.iload_n 3, 1) := by decide +kernel
theorem dX5_border_26 : decode cX5_border 26 = .ok (.ifCond .eq 19, 3) := by decide +kernel
theorem dX5_border_29 : decode cX5_border 29 = .ok (.aload_n 0, 1) := by decide +kernel
theorem dX5_border_30 : decode cX5_border 30 = .ok (.getfield 10, 3) := by decide +kernel
theorem dX5_border_33 : decode cX5_border 33 = .ok (.getfield 54, 3) := by decide +kernel
theorem dX5_border_36 : decode cX5_border 36 = .ok (.iload_n 1, 1) := by decide +kernel
theorem dX5_border_37 : decode cX5_border 37 = .ok (.fload 4, 2) := by decide +kernel
theorem dX5_border_39 : decode cX5_border 39 = .ok (.invokevirtual 174, 3) := by decide +kernel
theorem dX5_border_42 : decode cX5_border 42 = .ok (.goto 16, 3) := by decide +kernel
theorem dX5_border_45 : decode cX5_border 45 = .ok (.aload_n 0, 1) := by decide +kernel
theorem dX5_border_46 : decode cX5_border 46 = .ok (.getfield 10, 3) := by decide +kernel
end
section
theorem dX5_border_49 : decode cX5_border 49 = .ok (.getfield 54, 3) := by decide +kernel
theorem dX5_border_52 : decode cX5_border 52 = .ok (.iload_n 1, 1) := by decide +kernel
theorem dX5_border_53 : decode cX5_border 53 = .ok (.fload 4, 2) := by decide +kernel
theorem dX5_border_55 : decode cX5_border 55 = .ok (.invokevirtual 178, 3) := by decide +kernel
theorem dX5_border_58 : decode cX5_border 58 = .ok (.freturn, 1) := by decide +kernel
set_option maxRecDepth 20000 in
theorem ggX5_number_X4_setting : GoodIn wsX5_number wsX4_setting := goodIn_r _ [6, 7, 14, 15, 16, 17, 18, 19, 20, 21, 22, 23, 24] (by decide +kernel) (by decide +kernel)
set_option maxRecDepth 20000 in
theorem gX5_number_X4_setting : GoodIn wsX5_number (wsV RX5 77 RX4 yX4_setting wsX4_setting) := goodIn_app (goodIn_of _ (by decide +kernel)) ggX5_number_X4_setting
theorem dX5_number_0 : decode cX5_number 0 = .ok (.aload_n 0, 1) := by decide +kernel
theorem dX5_number_1 : decode cX5_number 1 = .ok (.getfield 10, 3) := by decide +kernel
theorem dX5_number_4 : decode cX5_number 4 = .ok (.iload_n 1, 1) := by decide +kernel
theorem dX5_number_5 : decode cX5_number 5 = .ok (.invokevirtual 77, 3) := by decide +kernel
theorem dX5_number_8 : decode cX5_number 8 = .ok (.ireturn, 1) := by decide +kernel
set_option maxRecDepth 20000 in
theorem ggX5_wouldChoose_X5_isSpeed : GoodIn wsX5_wouldChoose wsX5_isSpeed := goodIn_r _ [6, 7] (by decide +kernel) (by decide +kernel)
set_option maxRecDepth 20000 in
theorem gX5_wouldChoose_X5_isSpeed : GoodIn wsX5_wouldChoose (va_wsS RX5 46 yX5_isSpeed wsX5_isSpeed) := goodIn_app (goodIn_of _ (by decide +kernel)) ggX5_wouldChoose_X5_isSpeed
set_option maxRecDepth 20000 in
theorem ggX5_wouldChoose_X5_isPedal : GoodIn wsX5_wouldChoose wsX5_isPedal := goodIn_r _ [10, 11] (by decide +kernel) (by decide +kernel)
set_option maxRecDepth 20000 in
theorem gX5_wouldChoose_X5_isPedal : GoodIn wsX5_wouldChoose (va_wsS RX5 92 yX5_isPedal wsX5_isPedal) := goodIn_app (goodIn_of _ (by decide +kernel)) ggX5_wouldChoose_X5_isPedal
set_option maxRecDepth 20000 in
theorem ggX5_wouldChoose_X4_copyFrom : GoodIn wsX5_wouldChoose wsX4_copyFrom := goodIn_r _ [16, 17, 18, 19, 20, 21, 22, 23, 24, 25, 26, 27, 28, 29, 30, 31, 32, 33, 34, 35, 36, 37, 38, 39, 40, 41, 42, 43, 44, 45, 46, 47, 148, 149, 150, 151, 152, 153, 154, 155, 156, 157, 158, 159, 160, 161, 162] (by decide +kernel) (by decide +kernel)
set_option maxRecDepth 20000 in
theorem gX5_wouldChoose_X4_copyFrom : GoodIn wsX5_wouldChoose (wsV RX5 146 RX4 yX4_copyFrom wsX4_copyFrom) := goodIn_app (goodIn_of _ (by decide +kernel)) ggX5_wouldChoose_X4_copyFrom
set_option maxRecDepth 20000 in
theorem ggX5_wouldChoose_X5_floatOf : GoodIn wsX5_wouldChoose wsX5_floatOf := goodIn_r _ [50, 51, 52, 53] (by decide +kernel) (by decide +kernel)
set_option maxRecDepth 20000 in
theorem gX5_wouldChoose_X5_floatOf : GoodIn wsX5_wouldChoose (va_wsS RX5 50 yX5_floatOf wsX5_floatOf) := goodIn_app (goodIn_of _ (by decide +kernel)) ggX5_wouldChoose_X5_floatOf
set_option maxRecDepth 20000 in
theorem ggX5_wouldChoose_X4_passTick : GoodIn wsX5_wouldChoose wsX4_passTick := goodIn_r _ [57, 28, 30, 31, 58, 59, 60, 15, 61, 27, 26, 25, 62, 63, 64, 65, 66, 67, 68, 69, 24, 70, 71, 72, 73, 17, 29, 74, 75, 76, 35, 77, 78, 79, 80, 81, 37, 82, 83, 84, 85, 86, 87, 88, 89, 90, 91, 92, 93, 94, 95, 96, 97, 98, 99, 100, 101, 102, 103, 104, 105, 106, 107, 108, 109, 110, 18, 111, 112, 113, 114, 115, 116, 117, 42, 118, 47, 46, 44, 119, 120, 121, 122, 123, 124, 125, 126, 19, 127, 128, 129, 130, 131, 132, 133, 134, 135, 136, 137, 138, 139, 140, 141, 148, 149, 150, 151, 152, 153, 154, 155, 156, 157, 158, 159, 160, 161, 162] (by decide +kernel) (by decide +kernel)
set_option maxRecDepth 20000 in
theorem gX5_wouldChoose_X4_passTick : GoodIn wsX5_wouldChoose (wsV RX5 181 RX4 yX4_passTick wsX4_passTick) := goodIn_app (goodIn_of _ (by decide +kernel)) ggX5_wouldChoose_X4_passTick
theorem dX5_wouldChoose_0 : decode cX5_wouldChoose 0 = .ok (.iload_n 1, 1) := by decide +kernel
theorem dX5_wouldChoose_1 : decode cX5_wouldChoose 1 = .ok (.invokestatic 46, 3) := by decide +kernel
theorem dX5_wouldChoose_4 : decode cX5_wouldChoose 4 = .ok (.ifCond .eq 10, 3) := by decide +kernel
theorem dX5_wouldChoose_7 : decode cX5_wouldChoose 7 = .ok (.iload_n 2, 1) := by decide +kernel
theorem dX5_wouldChoose_8 : decode cX5_wouldChoose 8 = .ok (.invokestatic 92, 3) := by decide +kernel
theorem dX5_wouldChoose_11 : decode cX5_wouldChoose 11 = .ok (.ifCond .ne 6, 3) := by decide +kernel
theorem dX5_wouldChoose_14 : decode cX5_wouldChoose 14 = .ok (.bipush (-2), 2) := by decide +kernel
theorem dX5_wouldChoose_16 : decode cX5_wouldChoose 16 = .ok (.ireturn, 1) := by decide +kernel
theorem dX5_wouldChoose_17 : decode cX5_wouldChoose 17 = .ok (.aload_n 0, 1) := by decide +kernel
theorem dX5_wouldChoose_18 : decode cX5_wouldChoose 18 = .ok (.getfield 19, 3) := by decide +kernel
theorem dX5_wouldChoose_21 : decode cX5_wouldChoose 21 = .ok (.aload_n 0, 1) := by decide +kernel
theorem dX5_wouldChoose_22 : decode cX5_wouldChoose 22 = .ok (.getfield 10, 3) := by decide +kernel
theorem dX5_wouldChoose_25 : decode cX5_wouldChoose 25 = .ok (.invokevirtual 146, 3) := by decide +kernel
theorem dX5_wouldChoose_28 : decode cX5_wouldChoose 28 = .ok (.aload_n 0, 1) := by decide +kernel
theorem dX5_wouldChoose_29 : decode cX5_wouldChoose 29 = .ok (.getfield 19, 3) := by decide +kernel
theorem dX5_wouldChoose_32 : decode cX5_wouldChoose 32 = .ok (.iload_n 1, 1) := by decide +kernel
theorem dX5_wouldChoose_33 : decode cX5_wouldChoose 33 = .ok (.invokestatic 50, 3) := by decide +kernel
theorem dX5_wouldChoose_36 : decode cX5_wouldChoose 36 = .ok (.iload_n 2, 1) := by decide +kernel
theorem dX5_wouldChoose_37 : decode cX5_wouldChoose 37 = .ok (.invokestatic 50, 3) := by decide +kernel
theorem dX5_wouldChoose_40 : decode cX5_wouldChoose 40 = .ok (.invokevirtual 181, 3) := by decide +kernel
theorem dX5_wouldChoose_43 : decode cX5_wouldChoose 43 = .ok (.ifCond .eq 13, 3) := by decide +kernel
theorem dX5_wouldChoose_46 : decode cX5_wouldChoose 46 = .ok (.aload_n 0, 1) := by decide +kernel
theorem dX5_wouldChoose_47 : decode cX5_wouldChoose 47 = .ok (.getfield 19, 3) := by decide +kernel
theorem dX5_wouldChoose_50 : decode cX5_wouldChoose 50 = .ok (.getfield 149, 3) := by decide +kernel
theorem dX5_wouldChoose_53 : decode cX5_wouldChoose 53 = .ok (.goto 5, 3) := by decide +kernel
theorem dX5_wouldChoose_56 : decode cX5_wouldChoose 56 = .ok (.bipush (-5), 2) := by decide +kernel
theorem dX5_wouldChoose_58 : decode cX5_wouldChoose 58 = .ok (.ireturn, 1) := by decide +kernel
set_option maxRecDepth 20000 in
theorem ggX5_settles_X5_isSpeed : GoodIn wsX5_settles wsX5_isSpeed := goodIn_r _ [6, 7] (by decide +kernel) (by decide +kernel)
set_option maxRecDepth 20000 in
theorem gX5_settles_X5_isSpeed : GoodIn wsX5_settles (va_wsS RX5 46 yX5_isSpeed wsX5_isSpeed) := goodIn_app (goodIn_of _ (by decide +kernel)) ggX5_settles_X5_isSpeed
set_option maxRecDepth 20000 in
theorem ggX5_settles_X5_isPedal : GoodIn wsX5_settles wsX5_isPedal := goodIn_r _ [10, 11] (by decide +kernel) (by decide +kernel)
set_option maxRecDepth 20000 in
theorem gX5_settles_X5_isPedal : GoodIn wsX5_settles (va_wsS RX5 92 yX5_isPedal wsX5_isPedal) := goodIn_app (goodIn_of _ (by decide +kernel)) ggX5_settles_X5_isPedal
set_option maxRecDepth 20000 in
theorem ggX5_settles_X4_copyFrom : GoodIn wsX5_settles wsX4_copyFrom := goodIn_r _ [16, 17, 18, 19, 20, 21, 22, 23, 24, 25, 26, 27, 28, 29, 30, 31, 32, 33, 34, 35, 36, 37, 38, 39, 40, 41, 42, 43, 44, 45, 46, 47, 148, 149, 150, 151, 152, 153, 154, 155, 156, 157, 158, 159, 160, 161, 162] (by decide +kernel) (by decide +kernel)
set_option maxRecDepth 20000 in
theorem gX5_settles_X4_copyFrom : GoodIn wsX5_settles (wsV RX5 146 RX4 yX4_copyFrom wsX4_copyFrom) := goodIn_app (goodIn_of _ (by decide +kernel)) ggX5_settles_X4_copyFrom
set_option maxRecDepth 20000 in
theorem ggX5_settles_X5_floatOf : GoodIn wsX5_settles wsX5_floatOf := goodIn_r _ [50, 51, 52, 53] (by decide +kernel) (by decide +kernel)
set_option maxRecDepth 20000 in
theorem gX5_settles_X5_floatOf : GoodIn wsX5_settles (va_wsS RX5 50 yX5_floatOf wsX5_floatOf) := goodIn_app (goodIn_of _ (by decide +kernel)) ggX5_settles_X5_floatOf
set_option maxRecDepth 20000 in
theorem ggX5_settles_X4_passTick : GoodIn wsX5_settles wsX4_passTick := goodIn_r _ [57, 28, 30, 31, 58, 59, 60, 15, 61, 27, 26, 25, 62, 63, 64, 65, 66, 67, 68, 69, 24, 70, 71, 72, 73, 17, 29, 74, 75, 76, 35, 77, 78, 79, 80, 81, 37, 82, 83, 84, 85, 86, 87, 88, 89, 90, 91, 92, 93, 94, 95, 96, 97, 98, 99, 100, 101, 102, 103, 104, 105, 106, 107, 108, 109, 110, 18, 111, 112, 113, 114, 115, 116, 117, 42, 118, 47, 46, 44, 119, 120, 121, 122, 123, 124, 125, 126, 19, 127, 128, 129, 130, 131, 132, 133, 134, 135, 136, 137, 138, 139, 140, 141, 148, 149, 150, 151, 152, 153, 154, 155, 156, 157, 158, 159, 160, 161, 162] (by decide +kernel) (by decide +kernel)
set_option maxRecDepth 20000 in
theorem gX5_settles_X4_passTick : GoodIn wsX5_settles (wsV RX5 181 RX4 yX4_passTick wsX4_passTick) := goodIn_app (goodIn_of _ (by decide +kernel)) ggX5_settles_X4_passTick
theorem dX5_settles_0 : decode cX5_settles 0 = .ok (.iload_n 1, 1) := by decide +kernel
theorem dX5_settles_1 : decode cX5_settles 1 = .ok (.invokestatic 46, 3) := by decide +kernel
theorem dX5_settles_4 : decode cX5_settles 4 = .ok (.ifCond .eq 10, 3) := by decide +kernel
theorem dX5_settles_7 : decode cX5_settles 7 = .ok (.iload_n 2, 1) := by decide +kernel
theorem dX5_settles_8 : decode cX5_settles 8 = .ok (.invokestatic 92, 3) := by decide +kernel
theorem dX5_settles_11 : decode cX5_settles 11 = .ok (.ifCond .ne 6, 3) := by decide +kernel
theorem dX5_settles_14 : decode cX5_settles 14 = .ok (.bipush (-2), 2) := by decide +kernel
theorem dX5_settles_16 : decode cX5_settles 16 = .ok (.ireturn, 1) := by decide +kernel
theorem dX5_settles_17 : decode cX5_settles 17 = .ok (.aload_n 0, 1) := by decide +kernel
theorem dX5_settles_18 : decode cX5_settles 18 = .ok (.getfield 19, 3) := by decide +kernel
theorem dX5_settles_21 : decode cX5_settles 21 = .ok (.aload_n 0, 1) := by decide +kernel
theorem dX5_settles_22 : decode cX5_settles 22 = .ok (.getfield 10, 3) := by decide +kernel
theorem dX5_settles_25 : decode cX5_settles 25 = .ok (.invokevirtual 146, 3) := by decide +kernel
theorem dX5_settles_28 : decode cX5_settles 28 = .ok (.iload_n 1, 1) := by decide +kernel
theorem dX5_settles_29 : decode cX5_settles 29 = .ok (.invokestatic 50, 3) := by decide +kernel
theorem dX5_settles_32 : decode cX5_settles 32 = .ok (.fstore_n 3, 1) := by decide +kernel
theorem dX5_settles_33 : decode cX5_settles 33 = .ok (.iload_n 2, 1) := by decide +kernel
theorem dX5_settles_34 : decode cX5_settles 34 = .ok (.invokestatic 50, 3) := by decide +kernel
theorem dX5_settles_37 : decode cX5_settles 37 = .ok (.fstore 4, 2) := by decide +kernel
theorem dX5_settles_39 : decode cX5_settles 39 = .ok (.iconst 0, 1) := by decide +kernel
theorem dX5_settles_40 : decode cX5_settles 40 = .ok (.istore 5, 2) := by decide +kernel
theorem dX5_settles_42 : decode cX5_settles 42 = .ok (.iconst 1, 1) := by decide +kernel
theorem dX5_settles_43 : decode cX5_settles 43 = .ok (.istore 6, 2) := by decide +kernel
theorem dX5_settles_45 : decode cX5_settles 45 = .ok (.iload 6, 2) := by decide +kernel
theorem dX5_settles_47 : decode cX5_settles 47 = .ok (.sipush 300, 3) := by decide +kernel
theorem dX5_settles_50 : decode cX5_settles 50 = .ok (.if_icmp .gt 47, 3) := by decide +kernel
theorem dX5_settles_53 : decode cX5_settles 53 = .ok (.iload 6, 2) := by decide +kernel
theorem dX5_settles_55 : decode cX5_settles 55 = .ok (.iload 5, 2) := by decide +kernel
theorem dX5_settles_57 : decode cX5_settles 57 = .ok (.bipush 100, 2) := by decide +kernel
theorem dX5_settles_59 : decode cX5_settles 59 = .ok (.iadd, 1) := by decide +kernel
theorem dX5_settles_60 : decode cX5_settles 60 = .ok (.if_icmp .gt 37, 3) := by decide +kernel
theorem dX5_settles_63 : decode cX5_settles 63 = .ok (.iload 5, 2) := by decide +kernel
theorem dX5_settles_65 : decode cX5_settles 65 = .ok (.sipush 200, 3) := by decide +kernel
theorem dX5_settles_68 : decode cX5_settles 68 = .ok (.if_icmp .le 6, 3) := by decide +kernel
theorem dX5_settles_71 : decode cX5_settles 71 = .ok (.goto 26, 3) := by decide +kernel
theorem dX5_settles_74 : decode cX5_settles 74 = .ok (.aload_n 0, 1) := by decide +kernel
theorem dX5_settles_75 : decode cX5_settles 75 = .ok (.getfield 19, 3) := by decide +kernel
theorem dX5_settles_78 : decode cX5_settles 78 = .ok (.fload_n 3, 1) := by decide +kernel
theorem dX5_settles_79 : decode cX5_settles 79 = .ok (.fload 4, 2) := by decide +kernel
theorem dX5_settles_81 : decode cX5_settles 81 = .ok (.invokevirtual 181, 3) := by decide +kernel
theorem dX5_settles_84 : decode cX5_settles 84 = .ok (.ifCond .eq 7, 3) := by decide +kernel
theorem dX5_settles_87 : decode cX5_settles 87 = .ok (.iload 6, 2) := by decide +kernel
theorem dX5_settles_89 : decode cX5_settles 89 = .ok (.istore 5, 2) := by decide +kernel
theorem dX5_settles_91 : decode cX5_settles 91 = .ok (.iinc 6 1, 3) := by decide +kernel
theorem dX5_settles_94 : decode cX5_settles 94 = .ok (.goto (-49), 3) := by decide +kernel
theorem dX5_settles_97 : decode cX5_settles 97 = .ok (.iload 5, 2) := by decide +kernel
theorem dX5_settles_99 : decode cX5_settles 99 = .ok (.sipush 200, 3) := by decide +kernel
theorem dX5_settles_102 : decode cX5_settles 102 = .ok (.if_icmp .le 8, 3) := by decide +kernel
theorem dX5_settles_105 : decode cX5_settles 105 = .ok (.bipush (-5), 2) := by decide +kernel
theorem dX5_settles_107 : decode cX5_settles 107 = .ok (.goto 5, 3) := by decide +kernel
theorem dX5_settles_110 : decode cX5_settles 110 = .ok (.iload 5, 2) := by decide +kernel
theorem dX5_settles_112 : decode cX5_settles 112 = .ok (.ireturn, 1) := by decide +kernel
set_option maxRecDepth 20000 in
theorem ggX5_change_X2_told : GoodIn wsX5_change wsX2_told := goodIn_r _ [6, 7, 8, 9, 27, 28, 29] (by decide +kernel) (by decide +kernel)
set_option maxRecDepth 20000 in
theorem gX5_change_X2_told : GoodIn wsX5_change (wsV RX5 191 RX2 yX2_told wsX2_told) := goodIn_app (goodIn_of _ (by decide +kernel)) ggX5_change_X2_told
theorem dX5_change_0 : decode cX5_change 0 = .ok (.iload_n 1, 1) := by decide +kernel
theorem dX5_change_1 : decode cX5_change 1 = .ok (.ifCond .lt 12, 3) := by decide +kernel
theorem dX5_change_4 : decode cX5_change 4 = .ok (.iload_n 2, 1) := by decide +kernel
theorem dX5_change_5 : decode cX5_change 5 = .ok (.ifCond .lt 8, 3) := by decide +kernel
theorem dX5_change_8 : decode cX5_change 8 = .ok (.iload_n 2, 1) := by decide +kernel
theorem dX5_change_9 : decode cX5_change 9 = .ok (.iconst 5, 1) := by decide +kernel
theorem dX5_change_10 : decode cX5_change 10 = .ok (.if_icmp .lt 8, 3) := by decide +kernel
theorem dX5_change_13 : decode cX5_change 13 = .ok (.bipush (-2), 2) := by decide +kernel
theorem dX5_change_15 : decode cX5_change 15 = .ok (.goto 15, 3) := by decide +kernel
theorem dX5_change_18 : decode cX5_change 18 = .ok (.aload_n 0, 1) := by decide +kernel
theorem dX5_change_19 : decode cX5_change 19 = .ok (.getfield 10, 3) := by decide +kernel
theorem dX5_change_22 : decode cX5_change 22 = .ok (.getfield 187, 3) := by decide +kernel
theorem dX5_change_25 : decode cX5_change 25 = .ok (.iload_n 1, 1) := by decide +kernel
theorem dX5_change_26 : decode cX5_change 26 = .ok (.iload_n 2, 1) := by decide +kernel
theorem dX5_change_27 : decode cX5_change 27 = .ok (.invokevirtual 191, 3) := by decide +kernel
theorem dX5_change_30 : decode cX5_change 30 = .ok (.ireturn, 1) := by decide +kernel
set_option maxRecDepth 20000 in
theorem ggX5_count_X1_size : GoodIn wsX5_count wsX1_size := goodIn_r _ [8, 9, 28, 29, 30] (by decide +kernel) (by decide +kernel)
set_option maxRecDepth 20000 in
theorem gX5_count_X1_size : GoodIn wsX5_count (wsV RX5 143 RX1 yX1_size wsX1_size) := goodIn_app (goodIn_of _ (by decide +kernel)) ggX5_count_X1_size
set_option maxRecDepth 20000 in
theorem ggX5_count_X0_length : GoodIn wsX5_count wsX0_length := goodIn_r _ [14, 15, 31, 32, 33, 34, 35, 36, 37] (by decide +kernel) (by decide +kernel)
set_option maxRecDepth 20000 in
theorem gX5_count_X0_length : GoodIn wsX5_count (wsV RX5 133 RX0 yX0_length wsX0_length) := goodIn_app (goodIn_of _ (by decide +kernel)) ggX5_count_X0_length
set_option maxRecDepth 20000 in
theorem ggX5_count_X4_counted : GoodIn wsX5_count wsX4_counted := goodIn_r _ [20, 21, 38, 39, 40, 41, 42, 43, 44, 45, 46, 47, 48] (by decide +kernel) (by decide +kernel)
set_option maxRecDepth 20000 in
theorem gX5_count_X4_counted : GoodIn wsX5_count (wsV RX5 195 RX4 yX4_counted wsX4_counted) := goodIn_app (goodIn_of _ (by decide +kernel)) ggX5_count_X4_counted
theorem dX5_count_0 : decode cX5_count 0 = .ok (.iload_n 1, 1) := by decide +kernel
theorem dX5_count_1 : decode cX5_count 1 = .ok (.bipush 13, 2) := by decide +kernel
theorem dX5_count_3 : decode cX5_count 3 = .ok (.if_icmp .ne 11, 3) := by decide +kernel
theorem dX5_count_6 : decode cX5_count 6 = .ok (.aload_n 0, 1) := by decide +kernel
theorem dX5_count_7 : decode cX5_count 7 = .ok (.getfield 25, 3) := by decide +kernel
theorem dX5_count_10 : decode cX5_count 10 = .ok (.invokevirtual 143, 3) := by decide +kernel
theorem dX5_count_13 : decode cX5_count 13 = .ok (.ireturn, 1) := by decide +kernel
theorem dX5_count_14 : decode cX5_count 14 = .ok (.iload_n 1, 1) := by decide +kernel
theorem dX5_count_15 : decode cX5_count 15 = .ok (.bipush 14, 2) := by decide +kernel
theorem dX5_count_17 : decode cX5_count 17 = .ok (.if_icmp .ne 11, 3) := by decide +kernel
theorem dX5_count_20 : decode cX5_count 20 = .ok (.aload_n 0, 1) := by decide +kernel
theorem dX5_count_21 : decode cX5_count 21 = .ok (.getfield 32, 3) := by decide +kernel
theorem dX5_count_24 : decode cX5_count 24 = .ok (.invokevirtual 133, 3) := by decide +kernel
theorem dX5_count_27 : decode cX5_count 27 = .ok (.ireturn, 1) := by decide +kernel
theorem dX5_count_28 : decode cX5_count 28 = .ok (.aload_n 0, 1) := by decide +kernel
theorem dX5_count_29 : decode cX5_count 29 = .ok (.getfield 10, 3) := by decide +kernel
theorem dX5_count_32 : decode cX5_count 32 = .ok (.iload_n 1, 1) := by decide +kernel
theorem dX5_count_33 : decode cX5_count 33 = .ok (.invokevirtual 195, 3) := by decide +kernel
theorem dX5_count_36 : decode cX5_count 36 = .ok (.ireturn, 1) := by decide +kernel
theorem dX5_isSpeed_0 : decode cX5_isSpeed 0 = .ok (.iload_n 0, 1) := by decide +kernel
theorem dX5_isSpeed_1 : decode cX5_isSpeed 1 = .ok (.ifCond .lt 13, 3) := by decide +kernel
theorem dX5_isSpeed_4 : decode cX5_isSpeed 4 = .ok (.iload_n 0, 1) := by decide +kernel
theorem dX5_isSpeed_5 : decode cX5_isSpeed 5 = .ok (.ldc 198, 2) := by decide +kernel
theorem dX5_isSpeed_7 : decode cX5_isSpeed 7 = .ok (.if_icmp .gt 7, 3) := by decide +kernel
theorem dX5_isSpeed_10 : decode cX5_isSpeed 10 = .ok (.iconst 1, 1) := by decide +kernel
theorem dX5_isSpeed_11 : decode cX5_isSpeed 11 = .ok (.goto 4, 3) := by decide +kernel
theorem dX5_isSpeed_14 : decode cX5_isSpeed 14 = .ok (.iconst 0, 1) := by decide +kernel
theorem dX5_isSpeed_15 : decode cX5_isSpeed 15 = .ok (.ireturn, 1) := by decide +kernel
theorem dX5_isPedal_0 : decode cX5_isPedal 0 = .ok (.iload_n 0, 1) := by decide +kernel
theorem dX5_isPedal_1 : decode cX5_isPedal 1 = .ok (.ifCond .lt 13, 3) := by decide +kernel
theorem dX5_isPedal_4 : decode cX5_isPedal 4 = .ok (.iload_n 0, 1) := by decide +kernel
theorem dX5_isPedal_5 : decode cX5_isPedal 5 = .ok (.ldc 199, 2) := by decide +kernel
theorem dX5_isPedal_7 : decode cX5_isPedal 7 = .ok (.if_icmp .gt 7, 3) := by decide +kernel
theorem dX5_isPedal_10 : decode cX5_isPedal 10 = .ok (.iconst 1, 1) := by decide +kernel
theorem dX5_isPedal_11 : decode cX5_isPedal 11 = .ok (.goto 4, 3) := by decide +kernel
theorem dX5_isPedal_14 : decode cX5_isPedal 14 = .ok (.iconst 0, 1) := by decide +kernel
theorem dX5_isPedal_15 : decode cX5_isPedal 15 = .ok (.ireturn, 1) := by decide +kernel
theorem dX5_floatOf_0 : decode cX5_floatOf 0 = .ok (.iload_n 0, 1) := by decide +kernel
theorem dX5_floatOf_1 : decode cX5_floatOf 1 = .ok (.bipush 23, 2) := by decide +kernel
theorem dX5_floatOf_3 : decode cX5_floatOf 3 = .ok (.ishr, 1) := by decide +kernel
theorem dX5_floatOf_4 : decode cX5_floatOf 4 = .ok (.istore_n 1, 1) := by decide +kernel
theorem dX5_floatOf_5 : decode cX5_floatOf 5 = .ok (.iload_n 0, 1) := by decide +kernel
theorem dX5_floatOf_6 : decode cX5_floatOf 6 = .ok (.ldc 200, 2) := by decide +kernel
theorem dX5_floatOf_8 : decode cX5_floatOf 8 = .ok (.iand, 1) := by decide +kernel
theorem dX5_floatOf_9 : decode cX5_floatOf 9 = .ok (.istore_n 2, 1) := by decide +kernel
theorem dX5_floatOf_10 : decode cX5_floatOf 10 = .ok (.iload_n 1, 1) := by decide +kernel
theorem dX5_floatOf_11 : decode cX5_floatOf 11 = .ok (.ifCond .le 11, 3) := by decide +kernel
theorem dX5_floatOf_14 : decode cX5_floatOf 14 = .ok (.iload_n 2, 1) := by decide +kernel
theorem dX5_floatOf_15 : decode cX5_floatOf 15 = .ok (.ldc 201, 2) := by decide +kernel
theorem dX5_floatOf_17 : decode cX5_floatOf 17 = .ok (.iadd, 1) := by decide +kernel
theorem dX5_floatOf_18 : decode cX5_floatOf 18 = .ok (.istore_n 2, 1) := by decide +kernel
theorem dX5_floatOf_19 : decode cX5_floatOf 19 = .ok (.goto 5, 3) := by decide +kernel
theorem dX5_floatOf_22 : decode cX5_floatOf 22 = .ok (.iconst 1, 1) := by decide +kernel
theorem dX5_floatOf_23 : decode cX5_floatOf 23 = .ok (.istore_n 1, 1) := by decide +kernel
theorem dX5_floatOf_24 : decode cX5_floatOf 24 = .ok (.iload_n 2, 1) := by decide +kernel
theorem dX5_floatOf_25 : decode cX5_floatOf 25 = .ok (.i2f, 1) := by decide +kernel
theorem dX5_floatOf_26 : decode cX5_floatOf 26 = .ok (.fstore_n 3, 1) := by decide +kernel
theorem dX5_floatOf_27 : decode cX5_floatOf 27 = .ok (.iload_n 1, 1) := by decide +kernel
theorem dX5_floatOf_28 : decode cX5_floatOf 28 = .ok (.istore 4, 2) := by decide +kernel
theorem dX5_floatOf_30 : decode cX5_floatOf 30 = .ok (.iload 4, 2) := by decide +kernel
theorem dX5_floatOf_32 : decode cX5_floatOf 32 = .ok (.sipush 150, 3) := by decide +kernel
theorem dX5_floatOf_35 : decode cX5_floatOf 35 = .ok (.if_icmp .ge 14, 3) := by decide +kernel
theorem dX5_floatOf_38 : decode cX5_floatOf 38 = .ok (.fload_n 3, 1) := by decide +kernel
theorem dX5_floatOf_39 : decode cX5_floatOf 39 = .ok (.ldc 202, 2) := by decide +kernel
theorem dX5_floatOf_41 : decode cX5_floatOf 41 = .ok (.fmul, 1) := by decide +kernel
theorem dX5_floatOf_42 : decode cX5_floatOf 42 = .ok (.fstore_n 3, 1) := by decide +kernel
theorem dX5_floatOf_43 : decode cX5_floatOf 43 = .ok (.iinc 4 1, 3) := by decide +kernel
theorem dX5_floatOf_46 : decode cX5_floatOf 46 = .ok (.goto (-16), 3) := by decide +kernel
theorem dX5_floatOf_49 : decode cX5_floatOf 49 = .ok (.fload_n 3, 1) := by decide +kernel
theorem dX5_floatOf_50 : decode cX5_floatOf 50 = .ok (.freturn, 1) := by decide +kernel
theorem dX5_notANumber_0 : decode cX5_notANumber 0 = .ok (.ldc 203, 2) := by decide +kernel
theorem dX5_notANumber_2 : decode cX5_notANumber 2 = .ok (.freturn, 1) := by decide +kernel
theorem dJ9_max_7cf53_0 : decode cJ9_max_7cf53 0 = .ok (.iload_n 0, 1) := by decide +kernel
theorem dJ9_max_7cf53_1 : decode cJ9_max_7cf53 1 = .ok (.iload_n 1, 1) := by decide +kernel
theorem dJ9_max_7cf53_2 : decode cJ9_max_7cf53 2 = .ok (.if_icmp .lt 7, 3) := by decide +kernel
theorem dJ9_max_7cf53_5 : decode cJ9_max_7cf53 5 = .ok (.iload_n 0, 1) := by decide +kernel
theorem dJ9_max_7cf53_6 : decode cJ9_max_7cf53 6 = .ok (.goto 4, 3) := by decide +kernel
theorem dJ9_max_7cf53_9 : decode cJ9_max_7cf53 9 = .ok (.iload_n 1, 1) := by decide +kernel
theorem dJ9_max_7cf53_10 : decode cJ9_max_7cf53 10 = .ok (.ireturn, 1) := by decide +kernel
theorem dJ9_min_7cf53_0 : decode cJ9_min_7cf53 0 = .ok (.iload_n 0, 1) := by decide +kernel
theorem dJ9_min_7cf53_1 : decode cJ9_min_7cf53 1 = .ok (.iload_n 1, 1) := by decide +kernel
theorem dJ9_min_7cf53_2 : decode cJ9_min_7cf53 2 = .ok (.if_icmp .gt 7, 3) := by decide +kernel
theorem dJ9_min_7cf53_5 : decode cJ9_min_7cf53 5 = .ok (.iload_n 0, 1) := by decide +kernel
theorem dJ9_min_7cf53_6 : decode cJ9_min_7cf53 6 = .ok (.goto 4, 3) := by decide +kernel
theorem dJ9_min_7cf53_9 : decode cJ9_min_7cf53 9 = .ok (.iload_n 1, 1) := by decide +kernel
theorem dJ9_min_7cf53_10 : decode cJ9_min_7cf53 10 = .ok (.ireturn, 1) := by decide +kernel
theorem dL_cell_0 : decode cL_cell 0 = .ok (.iload_n 1, 1) := by decide +kernel
theorem dL_cell_1 : decode cL_cell 1 = .ok (.aload_n 0, 1) := by decide +kernel
theorem dL_cell_2 : decode cL_cell 2 = .ok (.arraylength, 1) := by decide +kernel
theorem dL_cell_3 : decode cL_cell 3 = .ok (.if_icmp .ge 9, 3) := by decide +kernel
theorem dL_cell_6 : decode cL_cell 6 = .ok (.aload_n 0, 1) := by decide +kernel
theorem dL_cell_7 : decode cL_cell 7 = .ok (.iload_n 1, 1) := by decide +kernel
theorem dL_cell_8 : decode cL_cell 8 = .ok (.iaload, 1) := by decide +kernel
theorem dL_cell_9 : decode cL_cell 9 = .ok (.goto 11, 3) := by decide +kernel
theorem dL_cell_12 : decode cL_cell 12 = .ok (.ldc 7, 2) := by decide +kernel
theorem dL_cell_14 : decode cL_cell 14 = .ok (.iload_n 1, 1) := by decide +kernel
theorem dL_cell_15 : decode cL_cell 15 = .ok (.imul, 1) := by decide +kernel
theorem dL_cell_16 : decode cL_cell 16 = .ok (.sipush 14809, 3) := by decide +kernel
theorem dL_cell_19 : decode cL_cell 19 = .ok (.iadd, 1) := by decide +kernel
theorem dL_cell_20 : decode cL_cell 20 = .ok (.ireturn, 1) := by decide +kernel
theorem dL_low_0 : decode cL_low 0 = .ok (.iload_n 0, 1) := by decide +kernel
theorem dL_low_1 : decode cL_low 1 = .ok (.ldc 8, 2) := by decide +kernel
theorem dL_low_3 : decode cL_low 3 = .ok (.iand, 1) := by decide +kernel
theorem dL_low_4 : decode cL_low 4 = .ok (.iload_n 1, 1) := by decide +kernel
theorem dL_low_5 : decode cL_low 5 = .ok (.irem, 1) := by decide +kernel
theorem dL_low_6 : decode cL_low 6 = .ok (.ireturn, 1) := by decide +kernel
theorem dL_speed_0 : decode cL_speed 0 = .ok (.iload_n 0, 1) := by decide +kernel
theorem dL_speed_1 : decode cL_speed 1 = .ok (.tableswitch 91 0 10 #[59, 61, 64, 67, 70, 73, 76, 79, 82, 85, 88], 59) := by decide +kernel
theorem dL_speed_60 : decode cL_speed 60 = .ok (.iconst 0, 1) := by decide +kernel
theorem dL_speed_61 : decode cL_speed 61 = .ok (.ireturn, 1) := by decide +kernel
theorem dL_speed_62 : decode cL_speed 62 = .ok (.ldc 9, 2) := by decide +kernel
theorem dL_speed_64 : decode cL_speed 64 = .ok (.ireturn, 1) := by decide +kernel
theorem dL_speed_65 : decode cL_speed 65 = .ok (.ldc 10, 2) := by decide +kernel
theorem dL_speed_67 : decode cL_speed 67 = .ok (.ireturn, 1) := by decide +kernel
theorem dL_speed_68 : decode cL_speed 68 = .ok (.ldc 11, 2) := by decide +kernel
theorem dL_speed_70 : decode cL_speed 70 = .ok (.ireturn, 1) := by decide +kernel
theorem dL_speed_71 : decode cL_speed 71 = .ok (.ldc 12, 2) := by decide +kernel
theorem dL_speed_73 : decode cL_speed 73 = .ok (.ireturn, 1) := by decide +kernel
theorem dL_speed_74 : decode cL_speed 74 = .ok (.ldc 13, 2) := by decide +kernel
theorem dL_speed_76 : decode cL_speed 76 = .ok (.ireturn, 1) := by decide +kernel
theorem dL_speed_77 : decode cL_speed 77 = .ok (.ldc 14, 2) := by decide +kernel
theorem dL_speed_79 : decode cL_speed 79 = .ok (.ireturn, 1) := by decide +kernel
theorem dL_speed_80 : decode cL_speed 80 = .ok (.ldc 15, 2) := by decide +kernel
theorem dL_speed_82 : decode cL_speed 82 = .ok (.ireturn, 1) := by decide +kernel
theorem dL_speed_83 : decode cL_speed 83 = .ok (.ldc 16, 2) := by decide +kernel
theorem dL_speed_85 : decode cL_speed 85 = .ok (.ireturn, 1) := by decide +kernel
theorem dL_speed_86 : decode cL_speed 86 = .ok (.ldc 17, 2) := by decide +kernel
theorem dL_speed_88 : decode cL_speed 88 = .ok (.ireturn, 1) := by decide +kernel
theorem dL_speed_89 : decode cL_speed 89 = .ok (.ldc 18, 2) := by decide +kernel
theorem dL_speed_91 : decode cL_speed 91 = .ok (.ireturn, 1) := by decide +kernel
theorem dL_speed_92 : decode cL_speed 92 = .ok (.ldc 19, 2) := by decide +kernel
theorem dL_speed_94 : decode cL_speed 94 = .ok (.ireturn, 1) := by decide +kernel
theorem dL_fast_0 : decode cL_fast 0 = .ok (.iload_n 0, 1) := by decide +kernel
theorem dL_fast_1 : decode cL_fast 1 = .ok (.tableswitch 91 0 10 #[59, 61, 64, 67, 70, 73, 76, 79, 82, 85, 88], 59) := by decide +kernel
theorem dL_fast_60 : decode cL_fast 60 = .ok (.fconst 0, 1) := by decide +kernel
theorem dL_fast_61 : decode cL_fast 61 = .ok (.freturn, 1) := by decide +kernel
theorem dL_fast_62 : decode cL_fast 62 = .ok (.ldc 20, 2) := by decide +kernel
theorem dL_fast_64 : decode cL_fast 64 = .ok (.freturn, 1) := by decide +kernel
theorem dL_fast_65 : decode cL_fast 65 = .ok (.ldc 21, 2) := by decide +kernel
theorem dL_fast_67 : decode cL_fast 67 = .ok (.freturn, 1) := by decide +kernel
theorem dL_fast_68 : decode cL_fast 68 = .ok (.ldc 22, 2) := by decide +kernel
theorem dL_fast_70 : decode cL_fast 70 = .ok (.freturn, 1) := by decide +kernel
theorem dL_fast_71 : decode cL_fast 71 = .ok (.ldc 23, 2) := by decide +kernel
theorem dL_fast_73 : decode cL_fast 73 = .ok (.freturn, 1) := by decide +kernel
theorem dL_fast_74 : decode cL_fast 74 = .ok (.ldc 24, 2) := by decide +kernel
theorem dL_fast_76 : decode cL_fast 76 = .ok (.freturn, 1) := by decide +kernel
theorem dL_fast_77 : decode cL_fast 77 = .ok (.ldc 25, 2) := by decide +kernel
theorem dL_fast_79 : decode cL_fast 79 = .ok (.freturn, 1) := by decide +kernel
theorem dL_fast_80 : decode cL_fast 80 = .ok (.ldc 26, 2) := by decide +kernel
theorem dL_fast_82 : decode cL_fast 82 = .ok (.freturn, 1) := by decide +kernel
theorem dL_fast_83 : decode cL_fast 83 = .ok (.ldc 27, 2) := by decide +kernel
theorem dL_fast_85 : decode cL_fast 85 = .ok (.freturn, 1) := by decide +kernel
theorem dL_fast_86 : decode cL_fast 86 = .ok (.ldc 28, 2) := by decide +kernel
theorem dL_fast_88 : decode cL_fast 88 = .ok (.freturn, 1) := by decide +kernel
theorem dL_fast_89 : decode cL_fast 89 = .ok (.ldc 29, 2) := by decide +kernel
theorem dL_fast_91 : decode cL_fast 91 = .ok (.freturn, 1) := by decide +kernel
theorem dL_fast_92 : decode cL_fast 92 = .ok (.ldc 30, 2) := by decide +kernel
theorem dL_fast_94 : decode cL_fast 94 = .ok (.freturn, 1) := by decide +kernel
theorem dL_pedal_0 : decode cL_pedal 0 = .ok (.iload_n 0, 1) := by decide +kernel
theorem dL_pedal_1 : decode cL_pedal 1 = .ok (.tableswitch 42 0 3 #[31, 33, 36, 39], 31) := by decide +kernel
theorem dL_pedal_32 : decode cL_pedal 32 = .ok (.iconst 0, 1) := by decide +kernel
theorem dL_pedal_33 : decode cL_pedal 33 = .ok (.ireturn, 1) := by decide +kernel
theorem dL_pedal_34 : decode cL_pedal 34 = .ok (.ldc 31, 2) := by decide +kernel
theorem dL_pedal_36 : decode cL_pedal 36 = .ok (.ireturn, 1) := by decide +kernel
theorem dL_pedal_37 : decode cL_pedal 37 = .ok (.ldc 32, 2) := by decide +kernel
theorem dL_pedal_39 : decode cL_pedal 39 = .ok (.ireturn, 1) := by decide +kernel
theorem dL_pedal_40 : decode cL_pedal 40 = .ok (.ldc 33, 2) := by decide +kernel
theorem dL_pedal_42 : decode cL_pedal 42 = .ok (.ireturn, 1) := by decide +kernel
theorem dL_pedal_43 : decode cL_pedal 43 = .ok (.ldc 34, 2) := by decide +kernel
theorem dL_pedal_45 : decode cL_pedal 45 = .ok (.ireturn, 1) := by decide +kernel
theorem dL_deep_0 : decode cL_deep 0 = .ok (.iload_n 0, 1) := by decide +kernel
theorem dL_deep_1 : decode cL_deep 1 = .ok (.tableswitch 42 0 3 #[31, 33, 36, 39], 31) := by decide +kernel
theorem dL_deep_32 : decode cL_deep 32 = .ok (.fconst 0, 1) := by decide +kernel
theorem dL_deep_33 : decode cL_deep 33 = .ok (.freturn, 1) := by decide +kernel
theorem dL_deep_34 : decode cL_deep 34 = .ok (.ldc 35, 2) := by decide +kernel
theorem dL_deep_36 : decode cL_deep 36 = .ok (.freturn, 1) := by decide +kernel
theorem dL_deep_37 : decode cL_deep 37 = .ok (.ldc 36, 2) := by decide +kernel
theorem dL_deep_39 : decode cL_deep 39 = .ok (.freturn, 1) := by decide +kernel
theorem dL_deep_40 : decode cL_deep 40 = .ok (.ldc 37, 2) := by decide +kernel
theorem dL_deep_42 : decode cL_deep 42 = .ok (.freturn, 1) := by decide +kernel
theorem dL_deep_43 : decode cL_deep 43 = .ok (.fconst 1, 1) := by decide +kernel
theorem dL_deep_44 : decode cL_deep 44 = .ok (.freturn, 1) := by decide +kernel
theorem dL_isNone_0 : decode cL_isNone 0 = .ok (.fload_n 0, 1) := by decide +kernel
theorem dL_isNone_1 : decode cL_isNone 1 = .ok (.fload_n 0, 1) := by decide +kernel
theorem dL_isNone_2 : decode cL_isNone 2 = .ok (.fcmp .l, 1) := by decide +kernel
theorem dL_isNone_3 : decode cL_isNone 3 = .ok (.ifCond .eq 7, 3) := by decide +kernel
theorem dL_isNone_6 : decode cL_isNone 6 = .ok (.iconst 1, 1) := by decide +kernel
theorem dL_isNone_7 : decode cL_isNone 7 = .ok (.goto 4, 3) := by decide +kernel
theorem dL_isNone_10 : decode cL_isNone 10 = .ok (.iconst 0, 1) := by decide +kernel
theorem dL_isNone_11 : decode cL_isNone 11 = .ok (.ireturn, 1) := by decide +kernel
theorem dL_isClosed_0 : decode cL_isClosed 0 = .ok (.iload_n 0, 1) := by decide +kernel
theorem dL_isClosed_1 : decode cL_isClosed 1 = .ok (.iconst 1, 1) := by decide +kernel
theorem dL_isClosed_2 : decode cL_isClosed 2 = .ok (.if_icmp .ne 8, 3) := by decide +kernel
theorem dL_isClosed_5 : decode cL_isClosed 5 = .ok (.bipush 17, 2) := by decide +kernel
theorem dL_isClosed_7 : decode cL_isClosed 7 = .ok (.goto 33, 3) := by decide +kernel
theorem dL_isClosed_10 : decode cL_isClosed 10 = .ok (.iload_n 0, 1) := by decide +kernel
theorem dL_isClosed_11 : decode cL_isClosed 11 = .ok (.iconst 2, 1) := by decide +kernel
theorem dL_isClosed_12 : decode cL_isClosed 12 = .ok (.if_icmp .ne 8, 3) := by decide +kernel
theorem dL_isClosed_15 : decode cL_isClosed 15 = .ok (.bipush 9, 2) := by decide +kernel
theorem dL_isClosed_17 : decode cL_isClosed 17 = .ok (.goto 23, 3) := by decide +kernel
theorem dL_isClosed_20 : decode cL_isClosed 20 = .ok (.iload_n 0, 1) := by decide +kernel
theorem dL_isClosed_21 : decode cL_isClosed 21 = .ok (.iconst 3, 1) := by decide +kernel
theorem dL_isClosed_22 : decode cL_isClosed 22 = .ok (.if_icmp .ne 7, 3) := by decide +kernel
theorem dL_isClosed_25 : decode cL_isClosed 25 = .ok (.iconst 5, 1) := by decide +kernel
theorem dL_isClosed_26 : decode cL_isClosed 26 = .ok (.goto 14, 3) := by decide +kernel
theorem dL_isClosed_29 : decode cL_isClosed 29 = .ok (.iload_n 0, 1) := by decide +kernel
theorem dL_isClosed_30 : decode cL_isClosed 30 = .ok (.iconst 4, 1) := by decide +kernel
theorem dL_isClosed_31 : decode cL_isClosed 31 = .ok (.if_icmp .ne 7, 3) := by decide +kernel
theorem dL_isClosed_34 : decode cL_isClosed 34 = .ok (.iconst 3, 1) := by decide +kernel
theorem dL_isClosed_35 : decode cL_isClosed 35 = .ok (.goto 5, 3) := by decide +kernel
theorem dL_isClosed_38 : decode cL_isClosed 38 = .ok (.bipush 6, 2) := by decide +kernel
theorem dL_isClosed_40 : decode cL_isClosed 40 = .ok (.istore_n 2, 1) := by decide +kernel
theorem dL_isClosed_41 : decode cL_isClosed 41 = .ok (.iload_n 2, 1) := by decide +kernel
theorem dL_isClosed_42 : decode cL_isClosed 42 = .ok (.iload_n 1, 1) := by decide +kernel
theorem dL_isClosed_43 : decode cL_isClosed 43 = .ok (.ishr, 1) := by decide +kernel
theorem dL_isClosed_44 : decode cL_isClosed 44 = .ok (.iconst 1, 1) := by decide +kernel
theorem dL_isClosed_45 : decode cL_isClosed 45 = .ok (.iand, 1) := by decide +kernel
theorem dL_isClosed_46 : decode cL_isClosed 46 = .ok (.iconst 1, 1) := by decide +kernel
theorem dL_isClosed_47 : decode cL_isClosed 47 = .ok (.if_icmp .ne 7, 3) := by decide +kernel
theorem dL_isClosed_50 : decode cL_isClosed 50 = .ok (.iconst 1, 1) := by decide +kernel
theorem dL_isClosed_51 : decode cL_isClosed 51 = .ok (.goto 4, 3) := by decide +kernel
theorem dL_isClosed_54 : decode cL_isClosed 54 = .ok (.iconst 0, 1) := by decide +kernel
theorem dL_isClosed_55 : decode cL_isClosed 55 = .ok (.ireturn, 1) := by decide +kernel
set_option maxRecDepth 20000 in
theorem ggL_told_X5_car : GoodIn wsL_told wsX5_car := goodIn_r _ [5, 6, 7, 8, 9, 10, 11, 12, 13, 14, 15, 16, 17, 18, 19, 20, 21, 22, 23, 24, 25, 26, 27, 28, 29, 30, 114, 115, 116, 117, 118, 119, 120, 121, 122, 123, 124, 125, 126, 127, 128, 129, 130] (by decide +kernel) (by decide +kernel)
set_option maxRecDepth 20000 in
theorem gL_told_X5_car : GoodIn wsL_told (wsV RL 38 RX5 yX5_car wsX5_car) := goodIn_app (goodIn_of _ (by decide +kernel)) ggL_told_X5_car
set_option maxRecDepth 20000 in
theorem ggL_told_X5_number : GoodIn wsL_told wsX5_number := goodIn_r _ [34, 6, 35, 36, 37, 10, 38, 39, 114, 115, 116, 117, 118, 119, 120, 121, 122, 123, 124, 125, 126, 127, 128, 129, 130] (by decide +kernel) (by decide +kernel)
set_option maxRecDepth 20000 in
theorem gL_told_X5_number : GoodIn wsL_told (wsV RL 44 RX5 yX5_number wsX5_number) := goodIn_app (goodIn_of _ (by decide +kernel)) ggL_told_X5_number
set_option maxRecDepth 20000 in
theorem ggL_told_L_isClosed : GoodIn wsL_told wsL_isClosed := goodIn_r _ [43] (by decide +kernel) (by decide +kernel)
set_option maxRecDepth 20000 in
theorem gL_told_L_isClosed : GoodIn wsL_told (va_wsS RL 47 yL_isClosed wsL_isClosed) := goodIn_app (goodIn_of _ (by decide +kernel)) ggL_told_L_isClosed
set_option maxRecDepth 20000 in
theorem ggL_told_X5_pressed : GoodIn wsL_told wsX5_pressed := goodIn_r _ [47, 6, 48, 49, 50, 10, 51, 17, 18, 8, 9, 11, 12, 52, 14, 15, 16, 19, 20, 21, 22, 23, 24, 25, 26, 53, 54, 55, 56, 57, 58, 36, 37, 38, 39, 59, 28, 29, 30, 60, 61, 62, 63, 64, 65, 4, 66, 67, 114, 115, 116, 117, 118, 119, 120, 121, 122, 123, 124, 125, 126, 127, 128, 129, 130] (by decide +kernel) (by decide +kernel)
set_option maxRecDepth 20000 in
theorem gL_told_X5_pressed : GoodIn wsL_told (wsV RL 53 RX5 yX5_pressed wsX5_pressed) := goodIn_app (goodIn_of _ (by decide +kernel)) ggL_told_X5_pressed
set_option maxRecDepth 20000 in
theorem ggL_told_X5_count : GoodIn wsL_told wsX5_count := goodIn_r _ [71, 72, 73, 6, 74, 75, 76, 77, 78, 79, 80, 81, 82, 83, 84, 85, 86, 87, 88, 10, 89, 90, 114, 115, 116, 117, 118, 119, 131, 132, 133, 134, 135, 136, 137, 138, 139, 140, 120, 121, 122, 123, 124, 125, 126, 127, 128, 129, 130] (by decide +kernel) (by decide +kernel)
set_option maxRecDepth 20000 in
theorem gL_told_X5_count : GoodIn wsL_told (wsV RL 57 RX5 yX5_count wsX5_count) := goodIn_app (goodIn_of _ (by decide +kernel)) ggL_told_X5_count
set_option maxRecDepth 20000 in
theorem ggL_told_X5_force : GoodIn wsL_told wsX5_force := goodIn_r _ [94, 6, 95, 96, 97, 10, 98, 18, 8, 9, 11, 12, 53, 54, 55, 56, 57, 58, 36, 37, 38, 39, 60, 61, 62, 63, 114, 115, 116, 117, 118, 119, 120, 121, 122, 123, 124, 125, 126, 127, 128, 129, 130] (by decide +kernel) (by decide +kernel)
set_option maxRecDepth 20000 in
theorem gL_told_X5_force : GoodIn wsL_told (wsV RL 60 RX5 yX5_force wsX5_force) := goodIn_app (goodIn_of _ (by decide +kernel)) ggL_told_X5_force
set_option maxRecDepth 20000 in
theorem ggL_told_L_isNone : GoodIn wsL_told wsL_isNone := goodIn_r _ [101] (by decide +kernel) (by decide +kernel)
set_option maxRecDepth 20000 in
theorem gL_told_L_isNone : GoodIn wsL_told (va_wsS RL 64 yL_isNone wsL_isNone) := goodIn_app (goodIn_of _ (by decide +kernel)) ggL_told_L_isNone
set_option maxRecDepth 20000 in
theorem ggL_told_X5_change : GoodIn wsL_told wsX5_change := goodIn_r _ [105, 6, 106, 107, 108, 109, 110, 111, 112, 113, 114, 115, 116, 117, 118, 119, 120, 121, 122, 123, 124, 125, 126, 127, 128, 129, 130, 141, 142, 143] (by decide +kernel) (by decide +kernel)
set_option maxRecDepth 20000 in
theorem gL_told_X5_change : GoodIn wsL_told (wsV RL 68 RX5 yX5_change wsX5_change) := goodIn_app (goodIn_of _ (by decide +kernel)) ggL_told_X5_change
theorem dL_told_0 : decode cL_told 0 = .ok (.aload_n 0, 1) := by decide +kernel
theorem dL_told_1 : decode cL_told 1 = .ok (.iconst 0, 1) := by decide +kernel
theorem dL_told_2 : decode cL_told 2 = .ok (.invokevirtual 38, 3) := by decide +kernel
theorem dL_told_5 : decode cL_told 5 = .ok (.istore_n 1, 1) := by decide +kernel
theorem dL_told_6 : decode cL_told 6 = .ok (.aload_n 0, 1) := by decide +kernel
theorem dL_told_7 : decode cL_told 7 = .ok (.iconst 1, 1) := by decide +kernel
theorem dL_told_8 : decode cL_told 8 = .ok (.invokevirtual 38, 3) := by decide +kernel
theorem dL_told_11 : decode cL_told 11 = .ok (.istore_n 2, 1) := by decide +kernel
theorem dL_told_12 : decode cL_told 12 = .ok (.aload_n 0, 1) := by decide +kernel
theorem dL_told_13 : decode cL_told 13 = .ok (.iconst 2, 1) := by decide +kernel
theorem dL_told_14 : decode cL_told 14 = .ok (.invokevirtual 38, 3) := by decide +kernel
theorem dL_told_17 : decode cL_told 17 = .ok (.istore_n 3, 1) := by decide +kernel
theorem dL_told_18 : decode cL_told 18 = .ok (.aload_n 0, 1) := by decide +kernel
theorem dL_told_19 : decode cL_told 19 = .ok (.iconst 0, 1) := by decide +kernel
theorem dL_told_20 : decode cL_told 20 = .ok (.invokevirtual 44, 3) := by decide +kernel
theorem dL_told_23 : decode cL_told 23 = .ok (.istore 4, 2) := by decide +kernel
theorem dL_told_25 : decode cL_told 25 = .ok (.aload_n 0, 1) := by decide +kernel
theorem dL_told_26 : decode cL_told 26 = .ok (.iconst 1, 1) := by decide +kernel
theorem dL_told_27 : decode cL_told 27 = .ok (.invokevirtual 44, 3) := by decide +kernel
theorem dL_told_30 : decode cL_told 30 = .ok (.istore 5, 2) := by decide +kernel
theorem dL_told_32 : decode cL_told 32 = .ok (.iload_n 2, 1) := by decide +kernel
theorem dL_told_33 : decode cL_told 33 = .ok (.bipush (-5), 2) := by decide +kernel
theorem dL_told_35 : decode cL_told 35 = .ok (.if_icmp .ne 7, 3) := by decide +kernel
theorem dL_told_38 : decode cL_told 38 = .ok (.fconst 1, 1) := by decide +kernel
theorem dL_told_39 : decode cL_told 39 = .ok (.goto 4, 3) := by decide +kernel
theorem dL_told_42 : decode cL_told 42 = .ok (.fconst 0, 1) := by decide +kernel
theorem dL_told_43 : decode cL_told 43 = .ok (.fstore 6, 2) := by decide +kernel
theorem dL_told_45 : decode cL_told 45 = .ok (.iconst 0, 1) := by decide +kernel
theorem dL_told_46 : decode cL_told 46 = .ok (.istore 7, 2) := by decide +kernel
theorem dL_told_48 : decode cL_told 48 = .ok (.iload 7, 2) := by decide +kernel
theorem dL_told_50 : decode cL_told 50 = .ok (.iconst 5, 1) := by decide +kernel
theorem dL_told_51 : decode cL_told 51 = .ok (.if_icmp .ge 155, 3) := by decide +kernel
theorem dL_told_54 : decode cL_told 54 = .ok (.iload_n 1, 1) := by decide +kernel
theorem dL_told_55 : decode cL_told 55 = .ok (.iload 7, 2) := by decide +kernel
theorem dL_told_57 : decode cL_told 57 = .ok (.invokestatic 47, 3) := by decide +kernel
theorem dL_told_60 : decode cL_told 60 = .ok (.ifCond .eq 7, 3) := by decide +kernel
theorem dL_told_63 : decode cL_told 63 = .ok (.fconst 1, 1) := by decide +kernel
theorem dL_told_64 : decode cL_told 64 = .ok (.goto 4, 3) := by decide +kernel
theorem dL_told_67 : decode cL_told 67 = .ok (.fconst 0, 1) := by decide +kernel
theorem dL_told_68 : decode cL_told 68 = .ok (.fstore 8, 2) := by decide +kernel
theorem dL_told_70 : decode cL_told 70 = .ok (.iload_n 2, 1) := by decide +kernel
theorem dL_told_71 : decode cL_told 71 = .ok (.bipush (-5), 2) := by decide +kernel
theorem dL_told_73 : decode cL_told 73 = .ok (.if_icmp .eq 113, 3) := by decide +kernel
theorem dL_told_76 : decode cL_told 76 = .ok (.iload_n 1, 1) := by decide +kernel
theorem dL_told_77 : decode cL_told 77 = .ok (.iload 7, 2) := by decide +kernel
theorem dL_told_79 : decode cL_told 79 = .ok (.invokestatic 47, 3) := by decide +kernel
end
section
theorem dL_told_82 : decode cL_told 82 = .ok (.iload_n 2, 1) := by decide +kernel
theorem dL_told_83 : decode cL_told 83 = .ok (.iload 7, 2) := by decide +kernel
theorem dL_told_85 : decode cL_told 85 = .ok (.invokestatic 47, 3) := by decide +kernel
theorem dL_told_88 : decode cL_told 88 = .ok (.if_icmp .eq 98, 3) := by decide +kernel
theorem dL_told_91 : decode cL_told 91 = .ok (.iload_n 3, 1) := by decide +kernel
theorem dL_told_92 : decode cL_told 92 = .ok (.i2f, 1) := by decide +kernel
theorem dL_told_93 : decode cL_told 93 = .ok (.iload 4, 2) := by decide +kernel
theorem dL_told_95 : decode cL_told 95 = .ok (.i2f, 1) := by decide +kernel
theorem dL_told_96 : decode cL_told 96 = .ok (.fdiv, 1) := by decide +kernel
theorem dL_told_97 : decode cL_told 97 = .ok (.fstore 9, 2) := by decide +kernel
theorem dL_told_99 : decode cL_told 99 = .ok (.iload_n 3, 1) := by decide +kernel
theorem dL_told_100 : decode cL_told 100 = .ok (.iload 5, 2) := by decide +kernel
theorem dL_told_102 : decode cL_told 102 = .ok (.isub, 1) := by decide +kernel
theorem dL_told_103 : decode cL_told 103 = .ok (.i2f, 1) := by decide +kernel
theorem dL_told_104 : decode cL_told 104 = .ok (.iload 4, 2) := by decide +kernel
theorem dL_told_106 : decode cL_told 106 = .ok (.iload 5, 2) := by decide +kernel
theorem dL_told_108 : decode cL_told 108 = .ok (.isub, 1) := by decide +kernel
theorem dL_told_109 : decode cL_told 109 = .ok (.i2f, 1) := by decide +kernel
theorem dL_told_110 : decode cL_told 110 = .ok (.fdiv, 1) := by decide +kernel
theorem dL_told_111 : decode cL_told 111 = .ok (.fstore 10, 2) := by decide +kernel
theorem dL_told_113 : decode cL_told 113 = .ok (.iload_n 1, 1) := by decide +kernel
theorem dL_told_114 : decode cL_told 114 = .ok (.iload 7, 2) := by decide +kernel
theorem dL_told_116 : decode cL_told 116 = .ok (.invokestatic 47, 3) := by decide +kernel
theorem dL_told_119 : decode cL_told 119 = .ok (.ifCond .eq 10, 3) := by decide +kernel
theorem dL_told_122 : decode cL_told 122 = .ok (.fconst 1, 1) := by decide +kernel
theorem dL_told_123 : decode cL_told 123 = .ok (.fload 9, 2) := by decide +kernel
theorem dL_told_125 : decode cL_told 125 = .ok (.fsub, 1) := by decide +kernel
theorem dL_told_126 : decode cL_told 126 = .ok (.goto 15, 3) := by decide +kernel
theorem dL_told_129 : decode cL_told 129 = .ok (.iload_n 3, 1) := by decide +kernel
theorem dL_told_130 : decode cL_told 130 = .ok (.iload 5, 2) := by decide +kernel
theorem dL_told_132 : decode cL_told 132 = .ok (.if_icmp .gt 7, 3) := by decide +kernel
theorem dL_told_135 : decode cL_told 135 = .ok (.fconst 0, 1) := by decide +kernel
theorem dL_told_136 : decode cL_told 136 = .ok (.goto 5, 3) := by decide +kernel
theorem dL_told_139 : decode cL_told 139 = .ok (.fload 10, 2) := by decide +kernel
theorem dL_told_141 : decode cL_told 141 = .ok (.fstore 8, 2) := by decide +kernel
theorem dL_told_143 : decode cL_told 143 = .ok (.fload 8, 2) := by decide +kernel
theorem dL_told_145 : decode cL_told 145 = .ok (.fload 6, 2) := by decide +kernel
theorem dL_told_147 : decode cL_told 147 = .ok (.fcmp .l, 1) := by decide +kernel
theorem dL_told_148 : decode cL_told 148 = .ok (.ifCond .le 8, 3) := by decide +kernel
theorem dL_told_151 : decode cL_told 151 = .ok (.fload 8, 2) := by decide +kernel
theorem dL_told_153 : decode cL_told 153 = .ok (.goto 5, 3) := by decide +kernel
theorem dL_told_156 : decode cL_told 156 = .ok (.fload 6, 2) := by decide +kernel
theorem dL_told_158 : decode cL_told 158 = .ok (.fstore 6, 2) := by decide +kernel
theorem dL_told_160 : decode cL_told 160 = .ok (.aload_n 0, 1) := by decide +kernel
theorem dL_told_161 : decode cL_told 161 = .ok (.iload_n 1, 1) := by decide +kernel
theorem dL_told_162 : decode cL_told 162 = .ok (.iload 7, 2) := by decide +kernel
theorem dL_told_164 : decode cL_told 164 = .ok (.invokestatic 47, 3) := by decide +kernel
theorem dL_told_167 : decode cL_told 167 = .ok (.ifCond .eq 7, 3) := by decide +kernel
theorem dL_told_170 : decode cL_told 170 = .ok (.iconst 5, 1) := by decide +kernel
theorem dL_told_171 : decode cL_told 171 = .ok (.goto 5, 3) := by decide +kernel
theorem dL_told_174 : decode cL_told 174 = .ok (.bipush 6, 2) := by decide +kernel
theorem dL_told_176 : decode cL_told 176 = .ok (.invokevirtual 38, 3) := by decide +kernel
theorem dL_told_179 : decode cL_told 179 = .ok (.iload 7, 2) := by decide +kernel
theorem dL_told_181 : decode cL_told 181 = .ok (.if_icmp .eq 5, 3) := by decide +kernel
theorem dL_told_184 : decode cL_told 184 = .ok (.iconst 0, 1) := by decide +kernel
theorem dL_told_185 : decode cL_told 185 = .ok (.ireturn, 1) := by decide +kernel
theorem dL_told_186 : decode cL_told 186 = .ok (.aload_n 0, 1) := by decide +kernel
theorem dL_told_187 : decode cL_told 187 = .ok (.iload 7, 2) := by decide +kernel
theorem dL_told_189 : decode cL_told 189 = .ok (.invokevirtual 53, 3) := by decide +kernel
theorem dL_told_192 : decode cL_told 192 = .ok (.fload 8, 2) := by decide +kernel
theorem dL_told_194 : decode cL_told 194 = .ok (.fcmp .l, 1) := by decide +kernel
theorem dL_told_195 : decode cL_told 195 = .ok (.ifCond .eq 5, 3) := by decide +kernel
theorem dL_told_198 : decode cL_told 198 = .ok (.iconst 0, 1) := by decide +kernel
theorem dL_told_199 : decode cL_told 199 = .ok (.ireturn, 1) := by decide +kernel
theorem dL_told_200 : decode cL_told 200 = .ok (.iinc 7 1, 3) := by decide +kernel
theorem dL_told_203 : decode cL_told 203 = .ok (.goto (-155), 3) := by decide +kernel
theorem dL_told_206 : decode cL_told 206 = .ok (.iload_n 2, 1) := by decide +kernel
theorem dL_told_207 : decode cL_told 207 = .ok (.bipush (-5), 2) := by decide +kernel
theorem dL_told_209 : decode cL_told 209 = .ok (.if_icmp .ne 38, 3) := by decide +kernel
theorem dL_told_212 : decode cL_told 212 = .ok (.iload_n 3, 1) := by decide +kernel
theorem dL_told_213 : decode cL_told 213 = .ok (.bipush (-5), 2) := by decide +kernel
theorem dL_told_215 : decode cL_told 215 = .ok (.if_icmp .ne 28, 3) := by decide +kernel
theorem dL_told_218 : decode cL_told 218 = .ok (.aload_n 0, 1) := by decide +kernel
theorem dL_told_219 : decode cL_told 219 = .ok (.iconst 5, 1) := by decide +kernel
theorem dL_told_220 : decode cL_told 220 = .ok (.invokevirtual 38, 3) := by decide +kernel
theorem dL_told_223 : decode cL_told 223 = .ok (.bipush (-5), 2) := by decide +kernel
theorem dL_told_225 : decode cL_told 225 = .ok (.if_icmp .ne 18, 3) := by decide +kernel
theorem dL_told_228 : decode cL_told 228 = .ok (.aload_n 0, 1) := by decide +kernel
theorem dL_told_229 : decode cL_told 229 = .ok (.bipush 6, 2) := by decide +kernel
theorem dL_told_231 : decode cL_told 231 = .ok (.invokevirtual 38, 3) := by decide +kernel
theorem dL_told_234 : decode cL_told 234 = .ok (.bipush (-5), 2) := by decide +kernel
theorem dL_told_236 : decode cL_told 236 = .ok (.if_icmp .ne 7, 3) := by decide +kernel
theorem dL_told_239 : decode cL_told 239 = .ok (.iconst 1, 1) := by decide +kernel
theorem dL_told_240 : decode cL_told 240 = .ok (.goto 27, 3) := by decide +kernel
theorem dL_told_243 : decode cL_told 243 = .ok (.iconst 0, 1) := by decide +kernel
theorem dL_told_244 : decode cL_told 244 = .ok (.goto 23, 3) := by decide +kernel
theorem dL_told_247 : decode cL_told 247 = .ok (.iload_n 3, 1) := by decide +kernel
theorem dL_told_248 : decode cL_told 248 = .ok (.ifCond .lt 18, 3) := by decide +kernel
theorem dL_told_251 : decode cL_told 251 = .ok (.iload_n 3, 1) := by decide +kernel
theorem dL_told_252 : decode cL_told 252 = .ok (.iload 4, 2) := by decide +kernel
theorem dL_told_254 : decode cL_told 254 = .ok (.if_icmp .ge 12, 3) := by decide +kernel
theorem dL_told_257 : decode cL_told 257 = .ok (.iload_n 2, 1) := by decide +kernel
theorem dL_told_258 : decode cL_told 258 = .ok (.iload_n 1, 1) := by decide +kernel
theorem dL_told_259 : decode cL_told 259 = .ok (.if_icmp .eq 7, 3) := by decide +kernel
theorem dL_told_262 : decode cL_told 262 = .ok (.iconst 1, 1) := by decide +kernel
theorem dL_told_263 : decode cL_told 263 = .ok (.goto 4, 3) := by decide +kernel
theorem dL_told_266 : decode cL_told 266 = .ok (.iconst 0, 1) := by decide +kernel
theorem dL_told_267 : decode cL_told 267 = .ok (.istore 7, 2) := by decide +kernel
theorem dL_told_269 : decode cL_told 269 = .ok (.aload_n 0, 1) := by decide +kernel
theorem dL_told_270 : decode cL_told 270 = .ok (.iconst 1, 1) := by decide +kernel
theorem dL_told_271 : decode cL_told 271 = .ok (.invokevirtual 57, 3) := by decide +kernel
theorem dL_told_274 : decode cL_told 274 = .ok (.aload_n 0, 1) := by decide +kernel
theorem dL_told_275 : decode cL_told 275 = .ok (.iconst 2, 1) := by decide +kernel
theorem dL_told_276 : decode cL_told 276 = .ok (.invokevirtual 57, 3) := by decide +kernel
theorem dL_told_279 : decode cL_told 279 = .ok (.iadd, 1) := by decide +kernel
theorem dL_told_280 : decode cL_told 280 = .ok (.aload_n 0, 1) := by decide +kernel
theorem dL_told_281 : decode cL_told 281 = .ok (.iconst 3, 1) := by decide +kernel
theorem dL_told_282 : decode cL_told 282 = .ok (.invokevirtual 57, 3) := by decide +kernel
theorem dL_told_285 : decode cL_told 285 = .ok (.iadd, 1) := by decide +kernel
theorem dL_told_286 : decode cL_told 286 = .ok (.aload_n 0, 1) := by decide +kernel
theorem dL_told_287 : decode cL_told 287 = .ok (.iconst 4, 1) := by decide +kernel
theorem dL_told_288 : decode cL_told 288 = .ok (.invokevirtual 57, 3) := by decide +kernel
theorem dL_told_291 : decode cL_told 291 = .ok (.iadd, 1) := by decide +kernel
theorem dL_told_292 : decode cL_told 292 = .ok (.aload_n 0, 1) := by decide +kernel
theorem dL_told_293 : decode cL_told 293 = .ok (.iconst 5, 1) := by decide +kernel
theorem dL_told_294 : decode cL_told 294 = .ok (.invokevirtual 57, 3) := by decide +kernel
theorem dL_told_297 : decode cL_told 297 = .ok (.iadd, 1) := by decide +kernel
theorem dL_told_298 : decode cL_told 298 = .ok (.istore 8, 2) := by decide +kernel
theorem dL_told_300 : decode cL_told 300 = .ok (.iload 8, 2) := by decide +kernel
theorem dL_told_302 : decode cL_told 302 = .ok (.bipush 10, 2) := by decide +kernel
theorem dL_told_304 : decode cL_told 304 = .ok (.if_icmp .ge 8, 3) := by decide +kernel
theorem dL_told_307 : decode cL_told 307 = .ok (.iload 8, 2) := by decide +kernel
theorem dL_told_309 : decode cL_told 309 = .ok (.goto 5, 3) := by decide +kernel
theorem dL_told_312 : decode cL_told 312 = .ok (.bipush 10, 2) := by decide +kernel
theorem dL_told_314 : decode cL_told 314 = .ok (.istore 9, 2) := by decide +kernel
theorem dL_told_316 : decode cL_told 316 = .ok (.aload_n 0, 1) := by decide +kernel
theorem dL_told_317 : decode cL_told 317 = .ok (.bipush 7, 2) := by decide +kernel
theorem dL_told_319 : decode cL_told 319 = .ok (.invokevirtual 57, 3) := by decide +kernel
theorem dL_told_322 : decode cL_told 322 = .ok (.aload_n 0, 1) := by decide +kernel
theorem dL_told_323 : decode cL_told 323 = .ok (.bipush 8, 2) := by decide +kernel
theorem dL_told_325 : decode cL_told 325 = .ok (.invokevirtual 57, 3) := by decide +kernel
theorem dL_told_328 : decode cL_told 328 = .ok (.iadd, 1) := by decide +kernel
theorem dL_told_329 : decode cL_told 329 = .ok (.aload_n 0, 1) := by decide +kernel
theorem dL_told_330 : decode cL_told 330 = .ok (.bipush 9, 2) := by decide +kernel
theorem dL_told_332 : decode cL_told 332 = .ok (.invokevirtual 57, 3) := by decide +kernel
theorem dL_told_335 : decode cL_told 335 = .ok (.iadd, 1) := by decide +kernel
theorem dL_told_336 : decode cL_told 336 = .ok (.aload_n 0, 1) := by decide +kernel
theorem dL_told_337 : decode cL_told 337 = .ok (.bipush 10, 2) := by decide +kernel
theorem dL_told_339 : decode cL_told 339 = .ok (.invokevirtual 57, 3) := by decide +kernel
theorem dL_told_342 : decode cL_told 342 = .ok (.iadd, 1) := by decide +kernel
theorem dL_told_343 : decode cL_told 343 = .ok (.aload_n 0, 1) := by decide +kernel
theorem dL_told_344 : decode cL_told 344 = .ok (.bipush 11, 2) := by decide +kernel
theorem dL_told_346 : decode cL_told 346 = .ok (.invokevirtual 57, 3) := by decide +kernel
theorem dL_told_349 : decode cL_told 349 = .ok (.iadd, 1) := by decide +kernel
theorem dL_told_350 : decode cL_told 350 = .ok (.istore 10, 2) := by decide +kernel
theorem dL_told_352 : decode cL_told 352 = .ok (.iload 7, 2) := by decide +kernel
theorem dL_told_354 : decode cL_told 354 = .ok (.ifCond .eq 56, 3) := by decide +kernel
theorem dL_told_357 : decode cL_told 357 = .ok (.aload_n 0, 1) := by decide +kernel
theorem dL_told_358 : decode cL_told 358 = .ok (.invokevirtual 60, 3) := by decide +kernel
theorem dL_told_361 : decode cL_told 361 = .ok (.fload 6, 2) := by decide +kernel
theorem dL_told_363 : decode cL_told 363 = .ok (.fcmp .l, 1) := by decide +kernel
theorem dL_told_364 : decode cL_told 364 = .ok (.ifCond .ne 46, 3) := by decide +kernel
theorem dL_told_367 : decode cL_told 367 = .ok (.iload 10, 2) := by decide +kernel
theorem dL_told_369 : decode cL_told 369 = .ok (.aload_n 0, 1) := by decide +kernel
theorem dL_told_370 : decode cL_told 370 = .ok (.iconst 0, 1) := by decide +kernel
theorem dL_told_371 : decode cL_told 371 = .ok (.invokevirtual 57, 3) := by decide +kernel
theorem dL_told_374 : decode cL_told 374 = .ok (.if_icmp .ne 36, 3) := by decide +kernel
theorem dL_told_377 : decode cL_told 377 = .ok (.aload_n 0, 1) := by decide +kernel
theorem dL_told_378 : decode cL_told 378 = .ok (.bipush 12, 2) := by decide +kernel
theorem dL_told_380 : decode cL_told 380 = .ok (.invokevirtual 57, 3) := by decide +kernel
theorem dL_told_383 : decode cL_told 383 = .ok (.iload 10, 2) := by decide +kernel
theorem dL_told_385 : decode cL_told 385 = .ok (.if_icmp .gt 25, 3) := by decide +kernel
theorem dL_told_388 : decode cL_told 388 = .ok (.aload_n 0, 1) := by decide +kernel
theorem dL_told_389 : decode cL_told 389 = .ok (.bipush 7, 2) := by decide +kernel
theorem dL_told_391 : decode cL_told 391 = .ok (.invokevirtual 38, 3) := by decide +kernel
theorem dL_told_394 : decode cL_told 394 = .ok (.bipush (-2), 2) := by decide +kernel
theorem dL_told_396 : decode cL_told 396 = .ok (.if_icmp .ne 14, 3) := by decide +kernel
theorem dL_told_399 : decode cL_told 399 = .ok (.aload_n 0, 1) := by decide +kernel
theorem dL_told_400 : decode cL_told 400 = .ok (.iconst 5, 1) := by decide +kernel
theorem dL_told_401 : decode cL_told 401 = .ok (.invokevirtual 53, 3) := by decide +kernel
theorem dL_told_404 : decode cL_told 404 = .ok (.invokestatic 64, 3) := by decide +kernel
theorem dL_told_407 : decode cL_told 407 = .ok (.ifCond .ne 5, 3) := by decide +kernel
theorem dL_told_410 : decode cL_told 410 = .ok (.iconst 0, 1) := by decide +kernel
theorem dL_told_411 : decode cL_told 411 = .ok (.ireturn, 1) := by decide +kernel
theorem dL_told_412 : decode cL_told 412 = .ok (.iconst 0, 1) := by decide +kernel
theorem dL_told_413 : decode cL_told 413 = .ok (.istore 11, 2) := by decide +kernel
theorem dL_told_415 : decode cL_told 415 = .ok (.iload 11, 2) := by decide +kernel
theorem dL_told_417 : decode cL_told 417 = .ok (.iload 9, 2) := by decide +kernel
theorem dL_told_419 : decode cL_told 419 = .ok (.if_icmp .ge 227, 3) := by decide +kernel
theorem dL_told_422 : decode cL_told 422 = .ok (.aload_n 0, 1) := by decide +kernel
theorem dL_told_423 : decode cL_told 423 = .ok (.iload 11, 2) := by decide +kernel
theorem dL_told_425 : decode cL_told 425 = .ok (.iconst 1, 1) := by decide +kernel
theorem dL_told_426 : decode cL_told 426 = .ok (.invokevirtual 68, 3) := by decide +kernel
theorem dL_told_429 : decode cL_told 429 = .ok (.istore 12, 2) := by decide +kernel
theorem dL_told_431 : decode cL_told 431 = .ok (.aload_n 0, 1) := by decide +kernel
theorem dL_told_432 : decode cL_told 432 = .ok (.iload 11, 2) := by decide +kernel
theorem dL_told_434 : decode cL_told 434 = .ok (.iconst 2, 1) := by decide +kernel
theorem dL_told_435 : decode cL_told 435 = .ok (.invokevirtual 68, 3) := by decide +kernel
theorem dL_told_438 : decode cL_told 438 = .ok (.istore 13, 2) := by decide +kernel
theorem dL_told_440 : decode cL_told 440 = .ok (.aload_n 0, 1) := by decide +kernel
theorem dL_told_441 : decode cL_told 441 = .ok (.iload 11, 2) := by decide +kernel
theorem dL_told_443 : decode cL_told 443 = .ok (.iconst 3, 1) := by decide +kernel
theorem dL_told_444 : decode cL_told 444 = .ok (.invokevirtual 68, 3) := by decide +kernel
theorem dL_told_447 : decode cL_told 447 = .ok (.istore 14, 2) := by decide +kernel
theorem dL_told_449 : decode cL_told 449 = .ok (.iload 13, 2) := by decide +kernel
theorem dL_told_451 : decode cL_told 451 = .ok (.iload 12, 2) := by decide +kernel
theorem dL_told_453 : decode cL_told 453 = .ok (.isub, 1) := by decide +kernel
theorem dL_told_454 : decode cL_told 454 = .ok (.istore 15, 2) := by decide +kernel
theorem dL_told_456 : decode cL_told 456 = .ok (.iload 14, 2) := by decide +kernel
theorem dL_told_458 : decode cL_told 458 = .ok (.iconst 2, 1) := by decide +kernel
theorem dL_told_459 : decode cL_told 459 = .ok (.if_icmp .ne 24, 3) := by decide +kernel
theorem dL_told_462 : decode cL_told 462 = .ok (.iload 15, 2) := by decide +kernel
theorem dL_told_464 : decode cL_told 464 = .ok (.iconst (-1), 1) := by decide +kernel
theorem dL_told_465 : decode cL_told 465 = .ok (.if_icmp .eq 10, 3) := by decide +kernel
theorem dL_told_468 : decode cL_told 468 = .ok (.iload 15, 2) := by decide +kernel
theorem dL_told_470 : decode cL_told 470 = .ok (.bipush (-2), 2) := by decide +kernel
theorem dL_told_472 : decode cL_told 472 = .ok (.if_icmp .ne 7, 3) := by decide +kernel
theorem dL_told_475 : decode cL_told 475 = .ok (.iconst 1, 1) := by decide +kernel
theorem dL_told_476 : decode cL_told 476 = .ok (.goto 64, 3) := by decide +kernel
theorem dL_told_479 : decode cL_told 479 = .ok (.iconst 0, 1) := by decide +kernel
theorem dL_told_480 : decode cL_told 480 = .ok (.goto 60, 3) := by decide +kernel
theorem dL_told_483 : decode cL_told 483 = .ok (.iload 14, 2) := by decide +kernel
theorem dL_told_485 : decode cL_told 485 = .ok (.iconst 3, 1) := by decide +kernel
theorem dL_told_486 : decode cL_told 486 = .ok (.if_icmp .ne 23, 3) := by decide +kernel
theorem dL_told_489 : decode cL_told 489 = .ok (.iload 15, 2) := by decide +kernel
theorem dL_told_491 : decode cL_told 491 = .ok (.iconst 1, 1) := by decide +kernel
theorem dL_told_492 : decode cL_told 492 = .ok (.if_icmp .eq 9, 3) := by decide +kernel
theorem dL_told_495 : decode cL_told 495 = .ok (.iload 15, 2) := by decide +kernel
theorem dL_told_497 : decode cL_told 497 = .ok (.iconst (-1), 1) := by decide +kernel
theorem dL_told_498 : decode cL_told 498 = .ok (.if_icmp .ne 7, 3) := by decide +kernel
theorem dL_told_501 : decode cL_told 501 = .ok (.iconst 1, 1) := by decide +kernel
theorem dL_told_502 : decode cL_told 502 = .ok (.goto 38, 3) := by decide +kernel
theorem dL_told_505 : decode cL_told 505 = .ok (.iconst 0, 1) := by decide +kernel
theorem dL_told_506 : decode cL_told 506 = .ok (.goto 34, 3) := by decide +kernel
theorem dL_told_509 : decode cL_told 509 = .ok (.iload 14, 2) := by decide +kernel
theorem dL_told_511 : decode cL_told 511 = .ok (.iconst 1, 1) := by decide +kernel
theorem dL_told_512 : decode cL_told 512 = .ok (.if_icmp .ne 17, 3) := by decide +kernel
theorem dL_told_515 : decode cL_told 515 = .ok (.iload 15, 2) := by decide +kernel
theorem dL_told_517 : decode cL_told 517 = .ok (.iconst (-1), 1) := by decide +kernel
theorem dL_told_518 : decode cL_told 518 = .ok (.if_icmp .ne 7, 3) := by decide +kernel
theorem dL_told_521 : decode cL_told 521 = .ok (.iconst 1, 1) := by decide +kernel
theorem dL_told_522 : decode cL_told 522 = .ok (.goto 18, 3) := by decide +kernel
theorem dL_told_525 : decode cL_told 525 = .ok (.iconst 0, 1) := by decide +kernel
theorem dL_told_526 : decode cL_told 526 = .ok (.goto 14, 3) := by decide +kernel
theorem dL_told_529 : decode cL_told 529 = .ok (.iload 15, 2) := by decide +kernel
theorem dL_told_531 : decode cL_told 531 = .ok (.iconst 1, 1) := by decide +kernel
theorem dL_told_532 : decode cL_told 532 = .ok (.if_icmp .ne 7, 3) := by decide +kernel
theorem dL_told_535 : decode cL_told 535 = .ok (.iconst 1, 1) := by decide +kernel
theorem dL_told_536 : decode cL_told 536 = .ok (.goto 4, 3) := by decide +kernel
theorem dL_told_539 : decode cL_told 539 = .ok (.iconst 0, 1) := by decide +kernel
theorem dL_told_540 : decode cL_told 540 = .ok (.istore 16, 2) := by decide +kernel
theorem dL_told_542 : decode cL_told 542 = .ok (.iload 11, 2) := by decide +kernel
theorem dL_told_544 : decode cL_told 544 = .ok (.ifCond .ne 27, 3) := by decide +kernel
theorem dL_told_547 : decode cL_told 547 = .ok (.iload 13, 2) := by decide +kernel
theorem dL_told_549 : decode cL_told 549 = .ok (.iload_n 2, 1) := by decide +kernel
theorem dL_told_550 : decode cL_told 550 = .ok (.bipush (-5), 2) := by decide +kernel
theorem dL_told_552 : decode cL_told 552 = .ok (.if_icmp .ne 7, 3) := by decide +kernel
theorem dL_told_555 : decode cL_told 555 = .ok (.iload_n 1, 1) := by decide +kernel
theorem dL_told_556 : decode cL_told 556 = .ok (.goto 4, 3) := by decide +kernel
theorem dL_told_559 : decode cL_told 559 = .ok (.iload_n 2, 1) := by decide +kernel
theorem dL_told_560 : decode cL_told 560 = .ok (.if_icmp .ne 7, 3) := by decide +kernel
theorem dL_told_563 : decode cL_told 563 = .ok (.iconst 1, 1) := by decide +kernel
theorem dL_told_564 : decode cL_told 564 = .ok (.goto 45, 3) := by decide +kernel
theorem dL_told_567 : decode cL_told 567 = .ok (.iconst 0, 1) := by decide +kernel
theorem dL_told_568 : decode cL_told 568 = .ok (.goto 41, 3) := by decide +kernel
theorem dL_told_571 : decode cL_told 571 = .ok (.iload 13, 2) := by decide +kernel
theorem dL_told_573 : decode cL_told 573 = .ok (.aload_n 0, 1) := by decide +kernel
theorem dL_told_574 : decode cL_told 574 = .ok (.iload 11, 2) := by decide +kernel
theorem dL_told_576 : decode cL_told 576 = .ok (.iconst 1, 1) := by decide +kernel
theorem dL_told_577 : decode cL_told 577 = .ok (.isub, 1) := by decide +kernel
theorem dL_told_578 : decode cL_told 578 = .ok (.iconst 1, 1) := by decide +kernel
theorem dL_told_579 : decode cL_told 579 = .ok (.invokevirtual 68, 3) := by decide +kernel
theorem dL_told_582 : decode cL_told 582 = .ok (.if_icmp .ne 26, 3) := by decide +kernel
theorem dL_told_585 : decode cL_told 585 = .ok (.aload_n 0, 1) := by decide +kernel
theorem dL_told_586 : decode cL_told 586 = .ok (.iload 11, 2) := by decide +kernel
theorem dL_told_588 : decode cL_told 588 = .ok (.iconst 0, 1) := by decide +kernel
theorem dL_told_589 : decode cL_told 589 = .ok (.invokevirtual 68, 3) := by decide +kernel
theorem dL_told_592 : decode cL_told 592 = .ok (.aload_n 0, 1) := by decide +kernel
theorem dL_told_593 : decode cL_told 593 = .ok (.iload 11, 2) := by decide +kernel
theorem dL_told_595 : decode cL_told 595 = .ok (.iconst 1, 1) := by decide +kernel
theorem dL_told_596 : decode cL_told 596 = .ok (.isub, 1) := by decide +kernel
theorem dL_told_597 : decode cL_told 597 = .ok (.iconst 0, 1) := by decide +kernel
theorem dL_told_598 : decode cL_told 598 = .ok (.invokevirtual 68, 3) := by decide +kernel
theorem dL_told_601 : decode cL_told 601 = .ok (.if_icmp .gt 7, 3) := by decide +kernel
theorem dL_told_604 : decode cL_told 604 = .ok (.iconst 1, 1) := by decide +kernel
theorem dL_told_605 : decode cL_told 605 = .ok (.goto 4, 3) := by decide +kernel
theorem dL_told_608 : decode cL_told 608 = .ok (.iconst 0, 1) := by decide +kernel
theorem dL_told_609 : decode cL_told 609 = .ok (.istore 17, 2) := by decide +kernel
theorem dL_told_611 : decode cL_told 611 = .ok (.iload 16, 2) := by decide +kernel
theorem dL_told_613 : decode cL_told 613 = .ok (.ifCond .eq 25, 3) := by decide +kernel
theorem dL_told_616 : decode cL_told 616 = .ok (.iload 17, 2) := by decide +kernel
theorem dL_told_618 : decode cL_told 618 = .ok (.ifCond .eq 20, 3) := by decide +kernel
theorem dL_told_621 : decode cL_told 621 = .ok (.aload_n 0, 1) := by decide +kernel
theorem dL_told_622 : decode cL_told 622 = .ok (.iload 11, 2) := by decide +kernel
theorem dL_told_624 : decode cL_told 624 = .ok (.iconst 4, 1) := by decide +kernel
theorem dL_told_625 : decode cL_told 625 = .ok (.invokevirtual 68, 3) := by decide +kernel
theorem dL_told_628 : decode cL_told 628 = .ok (.iconst 1, 1) := by decide +kernel
theorem dL_told_629 : decode cL_told 629 = .ok (.if_icmp .ne 11, 3) := by decide +kernel
theorem dL_told_632 : decode cL_told 632 = .ok (.iload 14, 2) := by decide +kernel
theorem dL_told_634 : decode cL_told 634 = .ok (.iconst 1, 1) := by decide +kernel
theorem dL_told_635 : decode cL_told 635 = .ok (.if_icmp .le 5, 3) := by decide +kernel
theorem dL_told_638 : decode cL_told 638 = .ok (.iconst 0, 1) := by decide +kernel
theorem dL_told_639 : decode cL_told 639 = .ok (.ireturn, 1) := by decide +kernel
theorem dL_told_640 : decode cL_told 640 = .ok (.iinc 11 1, 3) := by decide +kernel
theorem dL_told_643 : decode cL_told 643 = .ok (.goto (-228), 3) := by decide +kernel
theorem dL_told_646 : decode cL_told 646 = .ok (.aload_n 0, 1) := by decide +kernel
theorem dL_told_647 : decode cL_told 647 = .ok (.iload 9, 2) := by decide +kernel
theorem dL_told_649 : decode cL_told 649 = .ok (.iconst 0, 1) := by decide +kernel
theorem dL_told_650 : decode cL_told 650 = .ok (.invokevirtual 68, 3) := by decide +kernel
theorem dL_told_653 : decode cL_told 653 = .ok (.bipush (-5), 2) := by decide +kernel
theorem dL_told_655 : decode cL_told 655 = .ok (.if_icmp .ne 29, 3) := by decide +kernel
theorem dL_told_658 : decode cL_told 658 = .ok (.aload_n 0, 1) := by decide +kernel
theorem dL_told_659 : decode cL_told 659 = .ok (.iconst (-1), 1) := by decide +kernel
theorem dL_told_660 : decode cL_told 660 = .ok (.iconst 0, 1) := by decide +kernel
theorem dL_told_661 : decode cL_told 661 = .ok (.invokevirtual 68, 3) := by decide +kernel
theorem dL_told_664 : decode cL_told 664 = .ok (.bipush (-2), 2) := by decide +kernel
theorem dL_told_666 : decode cL_told 666 = .ok (.if_icmp .ne 18, 3) := by decide +kernel
theorem dL_told_669 : decode cL_told 669 = .ok (.aload_n 0, 1) := by decide +kernel
theorem dL_told_670 : decode cL_told 670 = .ok (.iconst 0, 1) := by decide +kernel
theorem dL_told_671 : decode cL_told 671 = .ok (.iconst 5, 1) := by decide +kernel
theorem dL_told_672 : decode cL_told 672 = .ok (.invokevirtual 68, 3) := by decide +kernel
theorem dL_told_675 : decode cL_told 675 = .ok (.bipush (-2), 2) := by decide +kernel
theorem dL_told_677 : decode cL_told 677 = .ok (.if_icmp .ne 7, 3) := by decide +kernel
theorem dL_told_680 : decode cL_told 680 = .ok (.iconst 1, 1) := by decide +kernel
theorem dL_told_681 : decode cL_told 681 = .ok (.goto 4, 3) := by decide +kernel
theorem dL_told_684 : decode cL_told 684 = .ok (.iconst 0, 1) := by decide +kernel
theorem dL_told_685 : decode cL_told 685 = .ok (.ireturn, 1) := by decide +kernel
set_option maxRecDepth 20000 in
theorem ggL_tick_L_fast : GoodIn wsL_tick wsL_fast := goodIn_r _ [5, 6, 7, 8, 9, 10, 11, 12, 13, 14, 15, 16] (by decide +kernel) (by decide +kernel)
set_option maxRecDepth 20000 in
theorem gL_tick_L_fast : GoodIn wsL_tick (va_wsS RL 72 yL_fast wsL_fast) := goodIn_app (goodIn_of _ (by decide +kernel)) ggL_tick_L_fast
set_option maxRecDepth 20000 in
theorem ggL_tick_L_deep : GoodIn wsL_tick wsL_deep := goodIn_r _ [19, 20, 21, 1] (by decide +kernel) (by decide +kernel)
set_option maxRecDepth 20000 in
theorem gL_tick_L_deep : GoodIn wsL_tick (va_wsS RL 75 yL_deep wsL_deep) := goodIn_app (goodIn_of _ (by decide +kernel)) ggL_tick_L_deep
set_option maxRecDepth 20000 in
theorem ggL_tick_X5_car : GoodIn wsL_tick wsX5_car := goodIn_r _ [26, 27, 28, 29, 30, 31, 32, 33, 34, 35, 36, 37, 38, 39, 40, 41, 42, 43, 44, 45, 46, 47, 48, 49, 50, 51, 282, 283, 284, 285, 286, 287, 288, 289, 290, 291, 292, 293, 294, 295, 296, 297, 298] (by decide +kernel) (by decide +kernel)
set_option maxRecDepth 20000 in
theorem gL_tick_X5_car : GoodIn wsL_tick (wsV RL 38 RX5 yX5_car wsX5_car) := goodIn_app (goodIn_of _ (by decide +kernel)) ggL_tick_X5_car
set_option maxRecDepth 20000 in
theorem ggL_tick_L_speed : GoodIn wsL_tick wsL_speed := goodIn_r _ [54, 55, 56, 57, 58, 59, 60, 61, 62, 63, 64, 65] (by decide +kernel) (by decide +kernel)
set_option maxRecDepth 20000 in
theorem gL_tick_L_speed : GoodIn wsL_tick (va_wsS RL 78 yL_speed wsL_speed) := goodIn_app (goodIn_of _ (by decide +kernel)) ggL_tick_L_speed
set_option maxRecDepth 20000 in
theorem ggL_tick_L_pedal : GoodIn wsL_tick wsL_pedal := goodIn_r _ [68, 69, 70, 71, 72] (by decide +kernel) (by decide +kernel)
set_option maxRecDepth 20000 in
theorem gL_tick_L_pedal : GoodIn wsL_tick (va_wsS RL 81 yL_pedal wsL_pedal) := goodIn_app (goodIn_of _ (by decide +kernel)) ggL_tick_L_pedal
set_option maxRecDepth 20000 in
theorem ggL_tick_X5_wouldChoose : GoodIn wsL_tick wsX5_wouldChoose := goodIn_r _ [76, 77, 27, 78, 79, 25, 80, 81, 82, 83, 84, 85, 86, 87, 88, 31, 89, 90, 91, 92, 93, 94, 95, 96, 97, 38, 33, 98, 99, 100, 101, 102, 103, 104, 105, 106, 107, 108, 109, 110, 111, 112, 113, 114, 115, 116, 117, 118, 119, 120, 121, 122, 123, 124, 125, 126, 127, 128, 129, 130, 131, 132, 39, 29, 30, 32, 133, 134, 135, 136, 137, 138, 139, 140, 141, 142, 143, 144, 145, 146, 147, 148, 149, 150, 151, 152, 153, 154, 155, 156, 157, 158, 159, 160, 161, 162, 163, 164, 165, 166, 167, 168, 169, 170, 171, 172, 173, 174, 175, 176, 177, 178, 179, 180, 181, 182, 183, 184, 185, 186, 187, 188, 189, 190, 191, 192, 193, 194, 195, 196, 197, 198, 199, 200, 201, 202, 203, 204, 205, 206, 207, 208, 282, 283, 284, 285, 286, 287, 288, 289, 290, 291, 292, 293, 294, 295, 296, 297, 298, 299, 300, 301, 302] (by decide +kernel) (by decide +kernel)
set_option maxRecDepth 20000 in
theorem gL_tick_X5_wouldChoose : GoodIn wsL_tick (wsV RL 84 RX5 yX5_wouldChoose wsX5_wouldChoose) := goodIn_app (goodIn_of _ (by decide +kernel)) ggL_tick_X5_wouldChoose
set_option maxRecDepth 20000 in
theorem ggL_tick_X5_count : GoodIn wsL_tick wsX5_count := goodIn_r _ [212, 213, 214, 27, 215, 216, 217, 218, 219, 220, 221, 222, 223, 224, 225, 226, 227, 191, 192, 31, 193, 92, 282, 283, 284, 285, 286, 287, 303, 304, 305, 306, 307, 308, 309, 310, 311, 312, 288, 289, 290, 291, 292, 293, 294, 295, 296, 297, 298] (by decide +kernel) (by decide +kernel)
set_option maxRecDepth 20000 in
theorem gL_tick_X5_count : GoodIn wsL_tick (wsV RL 57 RX5 yX5_count wsX5_count) := goodIn_app (goodIn_of _ (by decide +kernel)) ggL_tick_X5_count
set_option maxRecDepth 20000 in
theorem ggL_tick_X5_number : GoodIn wsL_tick wsX5_number := goodIn_r _ [231, 27, 232, 134, 135, 31, 136, 97, 282, 283, 284, 285, 286, 287, 288, 289, 290, 291, 292, 293, 294, 295, 296, 297, 298] (by decide +kernel) (by decide +kernel)
set_option maxRecDepth 20000 in
theorem gL_tick_X5_number : GoodIn wsL_tick (wsV RL 44 RX5 yX5_number wsX5_number) := goodIn_app (goodIn_of _ (by decide +kernel)) ggL_tick_X5_number
set_option maxRecDepth 20000 in
theorem ggL_tick_X5_map : GoodIn wsL_tick wsX5_map := goodIn_r _ [236, 27, 237, 238, 106, 239, 240, 146, 147, 148, 108, 241, 242, 25, 243, 244, 282, 283, 284, 285, 286, 287, 288, 289, 290, 291, 292, 293, 294, 295, 296, 297, 298, 299] (by decide +kernel) (by decide +kernel)
set_option maxRecDepth 20000 in
theorem gL_tick_X5_map : GoodIn wsL_tick (wsV RL 87 RX5 yX5_map wsX5_map) := goodIn_app (goodIn_of _ (by decide +kernel)) ggL_tick_X5_map
set_option maxRecDepth 20000 in
theorem ggL_tick_X5_border : GoodIn wsL_tick wsX5_border := goodIn_r _ [248, 27, 237, 238, 106, 239, 82, 83, 25, 84, 85, 241, 242, 243, 244, 119, 120, 121, 122, 123, 124, 249, 162, 163, 164, 145, 146, 147, 148, 108, 250, 166, 167, 168, 169, 282, 283, 284, 285, 286, 287, 288, 289, 290, 291, 292, 293, 294, 295, 296, 297, 298, 299] (by decide +kernel) (by decide +kernel)
set_option maxRecDepth 20000 in
theorem gL_tick_X5_border : GoodIn wsL_tick (wsV RL 91 RX5 yX5_border wsX5_border) := goodIn_app (goodIn_of _ (by decide +kernel)) ggL_tick_X5_border
set_option maxRecDepth 20000 in
theorem ggL_tick_X5_drive : GoodIn wsL_tick wsX5_drive := goodIn_r _ [254, 27, 255, 213, 78, 79, 25, 80, 81, 82, 83, 84, 85, 256, 187, 188, 31, 189, 190, 191, 192, 193, 92, 257, 258, 259, 218, 260, 261, 220, 262, 199, 159, 200, 263, 264, 265, 266, 267, 268, 87, 88, 89, 90, 91, 93, 94, 95, 96, 97, 38, 33, 98, 99, 100, 101, 102, 103, 104, 105, 106, 107, 108, 109, 110, 111, 112, 113, 114, 115, 116, 117, 118, 119, 120, 121, 122, 123, 124, 269, 270, 271, 272, 273, 126, 127, 128, 129, 130, 131, 132, 39, 29, 30, 32, 133, 134, 135, 136, 137, 138, 139, 140, 141, 142, 143, 144, 145, 146, 147, 148, 149, 150, 151, 152, 153, 154, 155, 156, 157, 158, 160, 161, 162, 163, 164, 165, 166, 167, 168, 169, 170, 171, 172, 173, 174, 175, 176, 177, 178, 179, 180, 181, 182, 183, 184, 185, 186, 194, 195, 196, 197, 198, 201, 202, 203, 204, 205, 206, 207, 208, 282, 283, 284, 285, 286, 287, 288, 289, 290, 291, 292, 293, 294, 295, 296, 297, 298, 303, 304, 305, 299, 300, 301, 302] (by decide +kernel) (by decide +kernel)
set_option maxRecDepth 20000 in
theorem gL_tick_X5_drive : GoodIn wsL_tick (wsV RL 95 RX5 yX5_drive wsX5_drive) := goodIn_app (goodIn_of _ (by decide +kernel)) ggL_tick_X5_drive
set_option maxRecDepth 20000 in
theorem ggL_tick_X5_change : GoodIn wsL_tick wsX5_change := goodIn_r _ [277, 27, 278, 183, 184, 113, 185, 118, 117, 115, 282, 283, 284, 285, 286, 287, 288, 289, 290, 291, 292, 293, 294, 295, 296, 297, 298, 300, 301, 302] (by decide +kernel) (by decide +kernel)
set_option maxRecDepth 20000 in
theorem gL_tick_X5_change : GoodIn wsL_tick (wsV RL 68 RX5 yX5_change wsX5_change) := goodIn_app (goodIn_of _ (by decide +kernel)) ggL_tick_X5_change
set_option maxRecDepth 20000 in
theorem ggL_tick_L_wentToAndFro : GoodIn wsL_tick wsL_wentToAndFro := goodIn_r _ [281, 274, 275, 276, 25, 277, 27, 278, 183, 184, 113, 185, 118, 117, 115, 228, 229, 230, 231, 232, 134, 135, 31, 136, 97, 282, 283, 284, 285, 286, 287, 288, 289, 290, 291, 292, 293, 294, 295, 296, 297, 298, 300, 301, 302] (by decide +kernel) (by decide +kernel)
set_option maxRecDepth 20000 in
theorem gL_tick_L_wentToAndFro : GoodIn wsL_tick (va_wsS RL 99 yL_wentToAndFro wsL_wentToAndFro) := goodIn_app (goodIn_of _ (by decide +kernel)) ggL_tick_L_wentToAndFro
theorem dL_tick_0 : decode cL_tick 0 = .ok (.iload_n 1, 1) := by decide +kernel
theorem dL_tick_1 : decode cL_tick 1 = .ok (.invokestatic 72, 3) := by decide +kernel
theorem dL_tick_4 : decode cL_tick 4 = .ok (.fstore_n 3, 1) := by decide +kernel
theorem dL_tick_5 : decode cL_tick 5 = .ok (.iload_n 2, 1) := by decide +kernel
theorem dL_tick_6 : decode cL_tick 6 = .ok (.invokestatic 75, 3) := by decide +kernel
theorem dL_tick_9 : decode cL_tick 9 = .ok (.fstore 4, 2) := by decide +kernel
theorem dL_tick_11 : decode cL_tick 11 = .ok (.aload_n 0, 1) := by decide +kernel
theorem dL_tick_12 : decode cL_tick 12 = .ok (.iconst 0, 1) := by decide +kernel
theorem dL_tick_13 : decode cL_tick 13 = .ok (.invokevirtual 38, 3) := by decide +kernel
theorem dL_tick_16 : decode cL_tick 16 = .ok (.istore 5, 2) := by decide +kernel
theorem dL_tick_18 : decode cL_tick 18 = .ok (.aload_n 0, 1) := by decide +kernel
theorem dL_tick_19 : decode cL_tick 19 = .ok (.iconst 1, 1) := by decide +kernel
theorem dL_tick_20 : decode cL_tick 20 = .ok (.invokevirtual 38, 3) := by decide +kernel
theorem dL_tick_23 : decode cL_tick 23 = .ok (.istore 6, 2) := by decide +kernel
theorem dL_tick_25 : decode cL_tick 25 = .ok (.aload_n 0, 1) := by decide +kernel
theorem dL_tick_26 : decode cL_tick 26 = .ok (.iconst 2, 1) := by decide +kernel
theorem dL_tick_27 : decode cL_tick 27 = .ok (.invokevirtual 38, 3) := by decide +kernel
theorem dL_tick_30 : decode cL_tick 30 = .ok (.istore 7, 2) := by decide +kernel
theorem dL_tick_32 : decode cL_tick 32 = .ok (.aload_n 0, 1) := by decide +kernel
theorem dL_tick_33 : decode cL_tick 33 = .ok (.iconst 3, 1) := by decide +kernel
theorem dL_tick_34 : decode cL_tick 34 = .ok (.invokevirtual 38, 3) := by decide +kernel
theorem dL_tick_37 : decode cL_tick 37 = .ok (.istore 8, 2) := by decide +kernel
theorem dL_tick_39 : decode cL_tick 39 = .ok (.aload_n 0, 1) := by decide +kernel
theorem dL_tick_40 : decode cL_tick 40 = .ok (.iconst 4, 1) := by decide +kernel
theorem dL_tick_41 : decode cL_tick 41 = .ok (.invokevirtual 38, 3) := by decide +kernel
theorem dL_tick_44 : decode cL_tick 44 = .ok (.istore 9, 2) := by decide +kernel
theorem dL_tick_46 : decode cL_tick 46 = .ok (.aload_n 0, 1) := by decide +kernel
theorem dL_tick_47 : decode cL_tick 47 = .ok (.iload_n 1, 1) := by decide +kernel
theorem dL_tick_48 : decode cL_tick 48 = .ok (.invokestatic 78, 3) := by decide +kernel
theorem dL_tick_51 : decode cL_tick 51 = .ok (.iload_n 2, 1) := by decide +kernel
theorem dL_tick_52 : decode cL_tick 52 = .ok (.invokestatic 81, 3) := by decide +kernel
theorem dL_tick_55 : decode cL_tick 55 = .ok (.invokevirtual 84, 3) := by decide +kernel
theorem dL_tick_58 : decode cL_tick 58 = .ok (.istore 10, 2) := by decide +kernel
theorem dL_tick_60 : decode cL_tick 60 = .ok (.aload_n 0, 1) := by decide +kernel
theorem dL_tick_61 : decode cL_tick 61 = .ok (.iconst 1, 1) := by decide +kernel
theorem dL_tick_62 : decode cL_tick 62 = .ok (.invokevirtual 57, 3) := by decide +kernel
theorem dL_tick_65 : decode cL_tick 65 = .ok (.istore 11, 2) := by decide +kernel
theorem dL_tick_67 : decode cL_tick 67 = .ok (.aload_n 0, 1) := by decide +kernel
theorem dL_tick_68 : decode cL_tick 68 = .ok (.iconst 2, 1) := by decide +kernel
theorem dL_tick_69 : decode cL_tick 69 = .ok (.invokevirtual 57, 3) := by decide +kernel
theorem dL_tick_72 : decode cL_tick 72 = .ok (.istore 12, 2) := by decide +kernel
theorem dL_tick_74 : decode cL_tick 74 = .ok (.aload_n 0, 1) := by decide +kernel
theorem dL_tick_75 : decode cL_tick 75 = .ok (.iconst 3, 1) := by decide +kernel
theorem dL_tick_76 : decode cL_tick 76 = .ok (.invokevirtual 57, 3) := by decide +kernel
theorem dL_tick_79 : decode cL_tick 79 = .ok (.istore 13, 2) := by decide +kernel
theorem dL_tick_81 : decode cL_tick 81 = .ok (.aload_n 0, 1) := by decide +kernel
theorem dL_tick_82 : decode cL_tick 82 = .ok (.iconst 5, 1) := by decide +kernel
theorem dL_tick_83 : decode cL_tick 83 = .ok (.invokevirtual 57, 3) := by decide +kernel
theorem dL_tick_86 : decode cL_tick 86 = .ok (.istore 14, 2) := by decide +kernel
theorem dL_tick_88 : decode cL_tick 88 = .ok (.aload_n 0, 1) := by decide +kernel
theorem dL_tick_89 : decode cL_tick 89 = .ok (.bipush 6, 2) := by decide +kernel
theorem dL_tick_91 : decode cL_tick 91 = .ok (.invokevirtual 57, 3) := by decide +kernel
theorem dL_tick_94 : decode cL_tick 94 = .ok (.istore 15, 2) := by decide +kernel
theorem dL_tick_96 : decode cL_tick 96 = .ok (.aload_n 0, 1) := by decide +kernel
theorem dL_tick_97 : decode cL_tick 97 = .ok (.iconst 0, 1) := by decide +kernel
theorem dL_tick_98 : decode cL_tick 98 = .ok (.invokevirtual 57, 3) := by decide +kernel
theorem dL_tick_101 : decode cL_tick 101 = .ok (.istore 16, 2) := by decide +kernel
theorem dL_tick_103 : decode cL_tick 103 = .ok (.iload 6, 2) := by decide +kernel
theorem dL_tick_105 : decode cL_tick 105 = .ok (.bipush (-5), 2) := by decide +kernel
theorem dL_tick_107 : decode cL_tick 107 = .ok (.if_icmp .eq 19, 3) := by decide +kernel
theorem dL_tick_110 : decode cL_tick 110 = .ok (.iload 7, 2) := by decide +kernel
theorem dL_tick_112 : decode cL_tick 112 = .ok (.iconst 1, 1) := by decide +kernel
theorem dL_tick_113 : decode cL_tick 113 = .ok (.iadd, 1) := by decide +kernel
theorem dL_tick_114 : decode cL_tick 114 = .ok (.aload_n 0, 1) := by decide +kernel
theorem dL_tick_115 : decode cL_tick 115 = .ok (.iconst 0, 1) := by decide +kernel
theorem dL_tick_116 : decode cL_tick 116 = .ok (.invokevirtual 44, 3) := by decide +kernel
theorem dL_tick_119 : decode cL_tick 119 = .ok (.if_icmp .ne 7, 3) := by decide +kernel
theorem dL_tick_122 : decode cL_tick 122 = .ok (.iconst 1, 1) := by decide +kernel
theorem dL_tick_123 : decode cL_tick 123 = .ok (.goto 4, 3) := by decide +kernel
theorem dL_tick_126 : decode cL_tick 126 = .ok (.iconst 0, 1) := by decide +kernel
theorem dL_tick_127 : decode cL_tick 127 = .ok (.istore 17, 2) := by decide +kernel
theorem dL_tick_129 : decode cL_tick 129 = .ok (.iload 6, 2) := by decide +kernel
theorem dL_tick_131 : decode cL_tick 131 = .ok (.bipush (-5), 2) := by decide +kernel
theorem dL_tick_133 : decode cL_tick 133 = .ok (.if_icmp .eq 8, 3) := by decide +kernel
theorem dL_tick_136 : decode cL_tick 136 = .ok (.iload 17, 2) := by decide +kernel
theorem dL_tick_138 : decode cL_tick 138 = .ok (.ifCond .eq 7, 3) := by decide +kernel
theorem dL_tick_141 : decode cL_tick 141 = .ok (.iconst 1, 1) := by decide +kernel
end
section
theorem dL_tick_142 : decode cL_tick 142 = .ok (.goto 4, 3) := by decide +kernel
theorem dL_tick_145 : decode cL_tick 145 = .ok (.iconst 0, 1) := by decide +kernel
theorem dL_tick_146 : decode cL_tick 146 = .ok (.istore 18, 2) := by decide +kernel
theorem dL_tick_148 : decode cL_tick 148 = .ok (.iload 17, 2) := by decide +kernel
theorem dL_tick_150 : decode cL_tick 150 = .ok (.ifCond .eq 8, 3) := by decide +kernel
theorem dL_tick_153 : decode cL_tick 153 = .ok (.iload 6, 2) := by decide +kernel
theorem dL_tick_155 : decode cL_tick 155 = .ok (.goto 5, 3) := by decide +kernel
theorem dL_tick_158 : decode cL_tick 158 = .ok (.iload 5, 2) := by decide +kernel
theorem dL_tick_160 : decode cL_tick 160 = .ok (.istore 19, 2) := by decide +kernel
theorem dL_tick_162 : decode cL_tick 162 = .ok (.iload 18, 2) := by decide +kernel
theorem dL_tick_164 : decode cL_tick 164 = .ok (.ifCond .eq 25, 3) := by decide +kernel
theorem dL_tick_167 : decode cL_tick 167 = .ok (.iload 19, 2) := by decide +kernel
theorem dL_tick_169 : decode cL_tick 169 = .ok (.iconst 5, 1) := by decide +kernel
theorem dL_tick_170 : decode cL_tick 170 = .ok (.if_icmp .ge 19, 3) := by decide +kernel
theorem dL_tick_173 : decode cL_tick 173 = .ok (.fload_n 3, 1) := by decide +kernel
theorem dL_tick_174 : decode cL_tick 174 = .ok (.aload_n 0, 1) := by decide +kernel
theorem dL_tick_175 : decode cL_tick 175 = .ok (.iload 19, 2) := by decide +kernel
theorem dL_tick_177 : decode cL_tick 177 = .ok (.iconst 3, 1) := by decide +kernel
theorem dL_tick_178 : decode cL_tick 178 = .ok (.invokevirtual 87, 3) := by decide +kernel
theorem dL_tick_181 : decode cL_tick 181 = .ok (.fcmp .l, 1) := by decide +kernel
theorem dL_tick_182 : decode cL_tick 182 = .ok (.ifCond .le 7, 3) := by decide +kernel
theorem dL_tick_185 : decode cL_tick 185 = .ok (.iconst 1, 1) := by decide +kernel
theorem dL_tick_186 : decode cL_tick 186 = .ok (.goto 4, 3) := by decide +kernel
theorem dL_tick_189 : decode cL_tick 189 = .ok (.iconst 0, 1) := by decide +kernel
theorem dL_tick_190 : decode cL_tick 190 = .ok (.istore 20, 2) := by decide +kernel
theorem dL_tick_192 : decode cL_tick 192 = .ok (.iload 18, 2) := by decide +kernel
theorem dL_tick_194 : decode cL_tick 194 = .ok (.ifCond .eq 22, 3) := by decide +kernel
theorem dL_tick_197 : decode cL_tick 197 = .ok (.iload 20, 2) := by decide +kernel
theorem dL_tick_199 : decode cL_tick 199 = .ok (.ifCond .ne 17, 3) := by decide +kernel
theorem dL_tick_202 : decode cL_tick 202 = .ok (.iload 9, 2) := by decide +kernel
theorem dL_tick_204 : decode cL_tick 204 = .ok (.ifCond .ne 12, 3) := by decide +kernel
theorem dL_tick_207 : decode cL_tick 207 = .ok (.iload 8, 2) := by decide +kernel
theorem dL_tick_209 : decode cL_tick 209 = .ok (.ifCond .ne 7, 3) := by decide +kernel
theorem dL_tick_212 : decode cL_tick 212 = .ok (.iconst 1, 1) := by decide +kernel
theorem dL_tick_213 : decode cL_tick 213 = .ok (.goto 4, 3) := by decide +kernel
theorem dL_tick_216 : decode cL_tick 216 = .ok (.iconst 0, 1) := by decide +kernel
theorem dL_tick_217 : decode cL_tick 217 = .ok (.istore 21, 2) := by decide +kernel
theorem dL_tick_219 : decode cL_tick 219 = .ok (.iload 21, 2) := by decide +kernel
theorem dL_tick_221 : decode cL_tick 221 = .ok (.ifCond .eq 29, 3) := by decide +kernel
theorem dL_tick_224 : decode cL_tick 224 = .ok (.iload 19, 2) := by decide +kernel
theorem dL_tick_226 : decode cL_tick 226 = .ok (.iconst 5, 1) := by decide +kernel
theorem dL_tick_227 : decode cL_tick 227 = .ok (.if_icmp .ge 23, 3) := by decide +kernel
theorem dL_tick_230 : decode cL_tick 230 = .ok (.fload_n 3, 1) := by decide +kernel
theorem dL_tick_231 : decode cL_tick 231 = .ok (.aload_n 0, 1) := by decide +kernel
theorem dL_tick_232 : decode cL_tick 232 = .ok (.iload 19, 2) := by decide +kernel
theorem dL_tick_234 : decode cL_tick 234 = .ok (.iload_n 2, 1) := by decide +kernel
theorem dL_tick_235 : decode cL_tick 235 = .ok (.invokestatic 81, 3) := by decide +kernel
theorem dL_tick_238 : decode cL_tick 238 = .ok (.iconst 1, 1) := by decide +kernel
theorem dL_tick_239 : decode cL_tick 239 = .ok (.invokevirtual 91, 3) := by decide +kernel
theorem dL_tick_242 : decode cL_tick 242 = .ok (.fcmp .l, 1) := by decide +kernel
theorem dL_tick_243 : decode cL_tick 243 = .ok (.ifCond .le 7, 3) := by decide +kernel
theorem dL_tick_246 : decode cL_tick 246 = .ok (.iconst 1, 1) := by decide +kernel
theorem dL_tick_247 : decode cL_tick 247 = .ok (.goto 4, 3) := by decide +kernel
theorem dL_tick_250 : decode cL_tick 250 = .ok (.iconst 0, 1) := by decide +kernel
theorem dL_tick_251 : decode cL_tick 251 = .ok (.istore 22, 2) := by decide +kernel
theorem dL_tick_253 : decode cL_tick 253 = .ok (.iload 21, 2) := by decide +kernel
theorem dL_tick_255 : decode cL_tick 255 = .ok (.ifCond .eq 36, 3) := by decide +kernel
theorem dL_tick_258 : decode cL_tick 258 = .ok (.iload 22, 2) := by decide +kernel
theorem dL_tick_260 : decode cL_tick 260 = .ok (.ifCond .ne 31, 3) := by decide +kernel
theorem dL_tick_263 : decode cL_tick 263 = .ok (.iload 19, 2) := by decide +kernel
theorem dL_tick_265 : decode cL_tick 265 = .ok (.iconst 1, 1) := by decide +kernel
theorem dL_tick_266 : decode cL_tick 266 = .ok (.if_icmp .le 25, 3) := by decide +kernel
theorem dL_tick_269 : decode cL_tick 269 = .ok (.fload_n 3, 1) := by decide +kernel
theorem dL_tick_270 : decode cL_tick 270 = .ok (.aload_n 0, 1) := by decide +kernel
theorem dL_tick_271 : decode cL_tick 271 = .ok (.iload 19, 2) := by decide +kernel
theorem dL_tick_273 : decode cL_tick 273 = .ok (.iconst 1, 1) := by decide +kernel
theorem dL_tick_274 : decode cL_tick 274 = .ok (.isub, 1) := by decide +kernel
theorem dL_tick_275 : decode cL_tick 275 = .ok (.iload_n 2, 1) := by decide +kernel
theorem dL_tick_276 : decode cL_tick 276 = .ok (.invokestatic 81, 3) := by decide +kernel
theorem dL_tick_279 : decode cL_tick 279 = .ok (.iconst 0, 1) := by decide +kernel
theorem dL_tick_280 : decode cL_tick 280 = .ok (.invokevirtual 91, 3) := by decide +kernel
theorem dL_tick_283 : decode cL_tick 283 = .ok (.fcmp .g, 1) := by decide +kernel
theorem dL_tick_284 : decode cL_tick 284 = .ok (.ifCond .ge 7, 3) := by decide +kernel
theorem dL_tick_287 : decode cL_tick 287 = .ok (.iconst 1, 1) := by decide +kernel
theorem dL_tick_288 : decode cL_tick 288 = .ok (.goto 4, 3) := by decide +kernel
theorem dL_tick_291 : decode cL_tick 291 = .ok (.iconst 0, 1) := by decide +kernel
theorem dL_tick_292 : decode cL_tick 292 = .ok (.istore 23, 2) := by decide +kernel
theorem dL_tick_294 : decode cL_tick 294 = .ok (.aload_n 0, 1) := by decide +kernel
theorem dL_tick_295 : decode cL_tick 295 = .ok (.iload_n 1, 1) := by decide +kernel
theorem dL_tick_296 : decode cL_tick 296 = .ok (.invokestatic 78, 3) := by decide +kernel
theorem dL_tick_299 : decode cL_tick 299 = .ok (.iload_n 2, 1) := by decide +kernel
theorem dL_tick_300 : decode cL_tick 300 = .ok (.invokestatic 81, 3) := by decide +kernel
theorem dL_tick_303 : decode cL_tick 303 = .ok (.iconst 1, 1) := by decide +kernel
theorem dL_tick_304 : decode cL_tick 304 = .ok (.invokevirtual 95, 3) := by decide +kernel
theorem dL_tick_307 : decode cL_tick 307 = .ok (.istore 24, 2) := by decide +kernel
theorem dL_tick_309 : decode cL_tick 309 = .ok (.aload_n 0, 1) := by decide +kernel
theorem dL_tick_310 : decode cL_tick 310 = .ok (.iconst 3, 1) := by decide +kernel
theorem dL_tick_311 : decode cL_tick 311 = .ok (.invokevirtual 57, 3) := by decide +kernel
theorem dL_tick_314 : decode cL_tick 314 = .ok (.iload 13, 2) := by decide +kernel
theorem dL_tick_316 : decode cL_tick 316 = .ok (.iconst 1, 1) := by decide +kernel
theorem dL_tick_317 : decode cL_tick 317 = .ok (.iadd, 1) := by decide +kernel
theorem dL_tick_318 : decode cL_tick 318 = .ok (.if_icmp .ne 7, 3) := by decide +kernel
theorem dL_tick_321 : decode cL_tick 321 = .ok (.iconst 1, 1) := by decide +kernel
theorem dL_tick_322 : decode cL_tick 322 = .ok (.goto 4, 3) := by decide +kernel
theorem dL_tick_325 : decode cL_tick 325 = .ok (.iconst 0, 1) := by decide +kernel
theorem dL_tick_326 : decode cL_tick 326 = .ok (.istore 25, 2) := by decide +kernel
theorem dL_tick_328 : decode cL_tick 328 = .ok (.iload 25, 2) := by decide +kernel
theorem dL_tick_330 : decode cL_tick 330 = .ok (.ifCond .eq 138, 3) := by decide +kernel
theorem dL_tick_333 : decode cL_tick 333 = .ok (.aload_n 0, 1) := by decide +kernel
theorem dL_tick_334 : decode cL_tick 334 = .ok (.iconst 1, 1) := by decide +kernel
theorem dL_tick_335 : decode cL_tick 335 = .ok (.invokevirtual 38, 3) := by decide +kernel
theorem dL_tick_338 : decode cL_tick 338 = .ok (.istore 26, 2) := by decide +kernel
theorem dL_tick_340 : decode cL_tick 340 = .ok (.iload 26, 2) := by decide +kernel
theorem dL_tick_342 : decode cL_tick 342 = .ok (.iload 19, 2) := by decide +kernel
theorem dL_tick_344 : decode cL_tick 344 = .ok (.iconst 2, 1) := by decide +kernel
theorem dL_tick_345 : decode cL_tick 345 = .ok (.isub, 1) := by decide +kernel
theorem dL_tick_346 : decode cL_tick 346 = .ok (.if_icmp .lt 55, 3) := by decide +kernel
theorem dL_tick_349 : decode cL_tick 349 = .ok (.iload 26, 2) := by decide +kernel
theorem dL_tick_351 : decode cL_tick 351 = .ok (.iload 19, 2) := by decide +kernel
theorem dL_tick_353 : decode cL_tick 353 = .ok (.if_icmp .ge 48, 3) := by decide +kernel
theorem dL_tick_356 : decode cL_tick 356 = .ok (.aload_n 0, 1) := by decide +kernel
theorem dL_tick_357 : decode cL_tick 357 = .ok (.iload 26, 2) := by decide +kernel
theorem dL_tick_359 : decode cL_tick 359 = .ok (.iconst 3, 1) := by decide +kernel
theorem dL_tick_360 : decode cL_tick 360 = .ok (.invokevirtual 87, 3) := by decide +kernel
theorem dL_tick_363 : decode cL_tick 363 = .ok (.fload_n 3, 1) := by decide +kernel
theorem dL_tick_364 : decode cL_tick 364 = .ok (.fcmp .l, 1) := by decide +kernel
theorem dL_tick_365 : decode cL_tick 365 = .ok (.ifCond .lt 36, 3) := by decide +kernel
theorem dL_tick_368 : decode cL_tick 368 = .ok (.iload 26, 2) := by decide +kernel
theorem dL_tick_370 : decode cL_tick 370 = .ok (.iconst 1, 1) := by decide +kernel
theorem dL_tick_371 : decode cL_tick 371 = .ok (.if_icmp .eq 26, 3) := by decide +kernel
theorem dL_tick_374 : decode cL_tick 374 = .ok (.iload 26, 2) := by decide +kernel
theorem dL_tick_376 : decode cL_tick 376 = .ok (.iload 19, 2) := by decide +kernel
theorem dL_tick_378 : decode cL_tick 378 = .ok (.iconst 2, 1) := by decide +kernel
theorem dL_tick_379 : decode cL_tick 379 = .ok (.isub, 1) := by decide +kernel
theorem dL_tick_380 : decode cL_tick 380 = .ok (.if_icmp .eq 17, 3) := by decide +kernel
theorem dL_tick_383 : decode cL_tick 383 = .ok (.aload_n 0, 1) := by decide +kernel
theorem dL_tick_384 : decode cL_tick 384 = .ok (.iload 26, 2) := by decide +kernel
theorem dL_tick_386 : decode cL_tick 386 = .ok (.iconst 1, 1) := by decide +kernel
theorem dL_tick_387 : decode cL_tick 387 = .ok (.isub, 1) := by decide +kernel
theorem dL_tick_388 : decode cL_tick 388 = .ok (.iconst 3, 1) := by decide +kernel
theorem dL_tick_389 : decode cL_tick 389 = .ok (.invokevirtual 87, 3) := by decide +kernel
theorem dL_tick_392 : decode cL_tick 392 = .ok (.fload_n 3, 1) := by decide +kernel
theorem dL_tick_393 : decode cL_tick 393 = .ok (.fcmp .g, 1) := by decide +kernel
theorem dL_tick_394 : decode cL_tick 394 = .ok (.ifCond .ge 7, 3) := by decide +kernel
theorem dL_tick_397 : decode cL_tick 397 = .ok (.iconst 1, 1) := by decide +kernel
theorem dL_tick_398 : decode cL_tick 398 = .ok (.goto 4, 3) := by decide +kernel
theorem dL_tick_401 : decode cL_tick 401 = .ok (.iconst 0, 1) := by decide +kernel
theorem dL_tick_402 : decode cL_tick 402 = .ok (.istore 27, 2) := by decide +kernel
theorem dL_tick_404 : decode cL_tick 404 = .ok (.iload 20, 2) := by decide +kernel
theorem dL_tick_406 : decode cL_tick 406 = .ok (.ifCond .ne 60, 3) := by decide +kernel
theorem dL_tick_409 : decode cL_tick 409 = .ok (.iload 18, 2) := by decide +kernel
theorem dL_tick_411 : decode cL_tick 411 = .ok (.ifCond .eq 55, 3) := by decide +kernel
theorem dL_tick_414 : decode cL_tick 414 = .ok (.fload 4, 2) := by decide +kernel
theorem dL_tick_416 : decode cL_tick 416 = .ok (.ldc 37, 2) := by decide +kernel
theorem dL_tick_418 : decode cL_tick 418 = .ok (.fcmp .l, 1) := by decide +kernel
theorem dL_tick_419 : decode cL_tick 419 = .ok (.ifCond .lt 47, 3) := by decide +kernel
theorem dL_tick_422 : decode cL_tick 422 = .ok (.iload 27, 2) := by decide +kernel
theorem dL_tick_424 : decode cL_tick 424 = .ok (.ifCond .eq 42, 3) := by decide +kernel
theorem dL_tick_427 : decode cL_tick 427 = .ok (.iload 10, 2) := by decide +kernel
theorem dL_tick_429 : decode cL_tick 429 = .ok (.iload 26, 2) := by decide +kernel
theorem dL_tick_431 : decode cL_tick 431 = .ok (.if_icmp .ne 35, 3) := by decide +kernel
theorem dL_tick_434 : decode cL_tick 434 = .ok (.iload 24, 2) := by decide +kernel
theorem dL_tick_436 : decode cL_tick 436 = .ok (.iconst 1, 1) := by decide +kernel
theorem dL_tick_437 : decode cL_tick 437 = .ok (.if_icmp .ne 29, 3) := by decide +kernel
theorem dL_tick_440 : decode cL_tick 440 = .ok (.aload_n 0, 1) := by decide +kernel
theorem dL_tick_441 : decode cL_tick 441 = .ok (.iconst 0, 1) := by decide +kernel
theorem dL_tick_442 : decode cL_tick 442 = .ok (.invokevirtual 38, 3) := by decide +kernel
theorem dL_tick_445 : decode cL_tick 445 = .ok (.iload 19, 2) := by decide +kernel
theorem dL_tick_447 : decode cL_tick 447 = .ok (.if_icmp .ne 19, 3) := by decide +kernel
theorem dL_tick_450 : decode cL_tick 450 = .ok (.aload_n 0, 1) := by decide +kernel
theorem dL_tick_451 : decode cL_tick 451 = .ok (.iconst 0, 1) := by decide +kernel
theorem dL_tick_452 : decode cL_tick 452 = .ok (.invokevirtual 57, 3) := by decide +kernel
theorem dL_tick_455 : decode cL_tick 455 = .ok (.iload 16, 2) := by decide +kernel
theorem dL_tick_457 : decode cL_tick 457 = .ok (.iconst 1, 1) := by decide +kernel
theorem dL_tick_458 : decode cL_tick 458 = .ok (.iadd, 1) := by decide +kernel
theorem dL_tick_459 : decode cL_tick 459 = .ok (.if_icmp .ne 7, 3) := by decide +kernel
theorem dL_tick_462 : decode cL_tick 462 = .ok (.iconst 1, 1) := by decide +kernel
theorem dL_tick_463 : decode cL_tick 463 = .ok (.goto 4, 3) := by decide +kernel
theorem dL_tick_466 : decode cL_tick 466 = .ok (.iconst 0, 1) := by decide +kernel
theorem dL_tick_467 : decode cL_tick 467 = .ok (.ireturn, 1) := by decide +kernel
theorem dL_tick_468 : decode cL_tick 468 = .ok (.iload 20, 2) := by decide +kernel
theorem dL_tick_470 : decode cL_tick 470 = .ok (.ifCond .ne 8, 3) := by decide +kernel
theorem dL_tick_473 : decode cL_tick 473 = .ok (.iload 22, 2) := by decide +kernel
theorem dL_tick_475 : decode cL_tick 475 = .ok (.ifCond .eq 10, 3) := by decide +kernel
theorem dL_tick_478 : decode cL_tick 478 = .ok (.iload 19, 2) := by decide +kernel
theorem dL_tick_480 : decode cL_tick 480 = .ok (.iconst 1, 1) := by decide +kernel
theorem dL_tick_481 : decode cL_tick 481 = .ok (.iadd, 1) := by decide +kernel
theorem dL_tick_482 : decode cL_tick 482 = .ok (.goto 17, 3) := by decide +kernel
theorem dL_tick_485 : decode cL_tick 485 = .ok (.iload 23, 2) := by decide +kernel
theorem dL_tick_487 : decode cL_tick 487 = .ok (.ifCond .eq 10, 3) := by decide +kernel
theorem dL_tick_490 : decode cL_tick 490 = .ok (.iload 19, 2) := by decide +kernel
theorem dL_tick_492 : decode cL_tick 492 = .ok (.iconst 1, 1) := by decide +kernel
theorem dL_tick_493 : decode cL_tick 493 = .ok (.isub, 1) := by decide +kernel
theorem dL_tick_494 : decode cL_tick 494 = .ok (.goto 5, 3) := by decide +kernel
theorem dL_tick_497 : decode cL_tick 497 = .ok (.bipush (-5), 2) := by decide +kernel
theorem dL_tick_499 : decode cL_tick 499 = .ok (.istore 26, 2) := by decide +kernel
theorem dL_tick_501 : decode cL_tick 501 = .ok (.aload_n 0, 1) := by decide +kernel
theorem dL_tick_502 : decode cL_tick 502 = .ok (.iconst 5, 1) := by decide +kernel
theorem dL_tick_503 : decode cL_tick 503 = .ok (.invokevirtual 57, 3) := by decide +kernel
theorem dL_tick_506 : decode cL_tick 506 = .ok (.iload 14, 2) := by decide +kernel
theorem dL_tick_508 : decode cL_tick 508 = .ok (.iload 20, 2) := by decide +kernel
theorem dL_tick_510 : decode cL_tick 510 = .ok (.ifCond .eq 7, 3) := by decide +kernel
theorem dL_tick_513 : decode cL_tick 513 = .ok (.iconst 1, 1) := by decide +kernel
theorem dL_tick_514 : decode cL_tick 514 = .ok (.goto 4, 3) := by decide +kernel
theorem dL_tick_517 : decode cL_tick 517 = .ok (.iconst 0, 1) := by decide +kernel
theorem dL_tick_518 : decode cL_tick 518 = .ok (.iadd, 1) := by decide +kernel
theorem dL_tick_519 : decode cL_tick 519 = .ok (.if_icmp .ne 49, 3) := by decide +kernel
theorem dL_tick_522 : decode cL_tick 522 = .ok (.aload_n 0, 1) := by decide +kernel
theorem dL_tick_523 : decode cL_tick 523 = .ok (.iconst 1, 1) := by decide +kernel
theorem dL_tick_524 : decode cL_tick 524 = .ok (.invokevirtual 57, 3) := by decide +kernel
theorem dL_tick_527 : decode cL_tick 527 = .ok (.iload 11, 2) := by decide +kernel
theorem dL_tick_529 : decode cL_tick 529 = .ok (.iload 22, 2) := by decide +kernel
theorem dL_tick_531 : decode cL_tick 531 = .ok (.ifCond .eq 7, 3) := by decide +kernel
theorem dL_tick_534 : decode cL_tick 534 = .ok (.iconst 1, 1) := by decide +kernel
theorem dL_tick_535 : decode cL_tick 535 = .ok (.goto 4, 3) := by decide +kernel
theorem dL_tick_538 : decode cL_tick 538 = .ok (.iconst 0, 1) := by decide +kernel
theorem dL_tick_539 : decode cL_tick 539 = .ok (.iadd, 1) := by decide +kernel
theorem dL_tick_540 : decode cL_tick 540 = .ok (.if_icmp .ne 28, 3) := by decide +kernel
theorem dL_tick_543 : decode cL_tick 543 = .ok (.aload_n 0, 1) := by decide +kernel
theorem dL_tick_544 : decode cL_tick 544 = .ok (.iconst 2, 1) := by decide +kernel
theorem dL_tick_545 : decode cL_tick 545 = .ok (.invokevirtual 57, 3) := by decide +kernel
theorem dL_tick_548 : decode cL_tick 548 = .ok (.iload 12, 2) := by decide +kernel
theorem dL_tick_550 : decode cL_tick 550 = .ok (.iload 23, 2) := by decide +kernel
theorem dL_tick_552 : decode cL_tick 552 = .ok (.ifCond .eq 7, 3) := by decide +kernel
theorem dL_tick_555 : decode cL_tick 555 = .ok (.iconst 1, 1) := by decide +kernel
theorem dL_tick_556 : decode cL_tick 556 = .ok (.goto 4, 3) := by decide +kernel
theorem dL_tick_559 : decode cL_tick 559 = .ok (.iconst 0, 1) := by decide +kernel
theorem dL_tick_560 : decode cL_tick 560 = .ok (.iadd, 1) := by decide +kernel
theorem dL_tick_561 : decode cL_tick 561 = .ok (.if_icmp .ne 7, 3) := by decide +kernel
theorem dL_tick_564 : decode cL_tick 564 = .ok (.iconst 1, 1) := by decide +kernel
theorem dL_tick_565 : decode cL_tick 565 = .ok (.goto 4, 3) := by decide +kernel
theorem dL_tick_568 : decode cL_tick 568 = .ok (.iconst 0, 1) := by decide +kernel
theorem dL_tick_569 : decode cL_tick 569 = .ok (.istore 27, 2) := by decide +kernel
theorem dL_tick_571 : decode cL_tick 571 = .ok (.iload 8, 2) := by decide +kernel
theorem dL_tick_573 : decode cL_tick 573 = .ok (.ifCond .le 10, 3) := by decide +kernel
theorem dL_tick_576 : decode cL_tick 576 = .ok (.iload 8, 2) := by decide +kernel
theorem dL_tick_578 : decode cL_tick 578 = .ok (.iconst 1, 1) := by decide +kernel
theorem dL_tick_579 : decode cL_tick 579 = .ok (.isub, 1) := by decide +kernel
theorem dL_tick_580 : decode cL_tick 580 = .ok (.goto 4, 3) := by decide +kernel
theorem dL_tick_583 : decode cL_tick 583 = .ok (.iconst 0, 1) := by decide +kernel
theorem dL_tick_584 : decode cL_tick 584 = .ok (.istore 28, 2) := by decide +kernel
theorem dL_tick_586 : decode cL_tick 586 = .ok (.aload_n 0, 1) := by decide +kernel
theorem dL_tick_587 : decode cL_tick 587 = .ok (.bipush 6, 2) := by decide +kernel
theorem dL_tick_589 : decode cL_tick 589 = .ok (.invokevirtual 57, 3) := by decide +kernel
theorem dL_tick_592 : decode cL_tick 592 = .ok (.iload 15, 2) := by decide +kernel
theorem dL_tick_594 : decode cL_tick 594 = .ok (.if_icmp .ne 21, 3) := by decide +kernel
theorem dL_tick_597 : decode cL_tick 597 = .ok (.aload_n 0, 1) := by decide +kernel
theorem dL_tick_598 : decode cL_tick 598 = .ok (.iconst 3, 1) := by decide +kernel
theorem dL_tick_599 : decode cL_tick 599 = .ok (.invokevirtual 38, 3) := by decide +kernel
theorem dL_tick_602 : decode cL_tick 602 = .ok (.iload 28, 2) := by decide +kernel
theorem dL_tick_604 : decode cL_tick 604 = .ok (.if_icmp .ne 7, 3) := by decide +kernel
theorem dL_tick_607 : decode cL_tick 607 = .ok (.iconst 1, 1) := by decide +kernel
theorem dL_tick_608 : decode cL_tick 608 = .ok (.goto 65, 3) := by decide +kernel
theorem dL_tick_611 : decode cL_tick 611 = .ok (.iconst 0, 1) := by decide +kernel
theorem dL_tick_612 : decode cL_tick 612 = .ok (.goto 61, 3) := by decide +kernel
theorem dL_tick_615 : decode cL_tick 615 = .ok (.aload_n 0, 1) := by decide +kernel
theorem dL_tick_616 : decode cL_tick 616 = .ok (.bipush 6, 2) := by decide +kernel
theorem dL_tick_618 : decode cL_tick 618 = .ok (.invokevirtual 57, 3) := by decide +kernel
theorem dL_tick_621 : decode cL_tick 621 = .ok (.iload 15, 2) := by decide +kernel
theorem dL_tick_623 : decode cL_tick 623 = .ok (.iconst 1, 1) := by decide +kernel
theorem dL_tick_624 : decode cL_tick 624 = .ok (.iadd, 1) := by decide +kernel
theorem dL_tick_625 : decode cL_tick 625 = .ok (.if_icmp .ne 47, 3) := by decide +kernel
theorem dL_tick_628 : decode cL_tick 628 = .ok (.aload_n 0, 1) := by decide +kernel
theorem dL_tick_629 : decode cL_tick 629 = .ok (.iconst 3, 1) := by decide +kernel
theorem dL_tick_630 : decode cL_tick 630 = .ok (.invokevirtual 38, 3) := by decide +kernel
theorem dL_tick_633 : decode cL_tick 633 = .ok (.aload_n 0, 1) := by decide +kernel
theorem dL_tick_634 : decode cL_tick 634 = .ok (.iconst 3, 1) := by decide +kernel
theorem dL_tick_635 : decode cL_tick 635 = .ok (.invokevirtual 44, 3) := by decide +kernel
theorem dL_tick_638 : decode cL_tick 638 = .ok (.if_icmp .ne 34, 3) := by decide +kernel
theorem dL_tick_641 : decode cL_tick 641 = .ok (.iload 22, 2) := by decide +kernel
theorem dL_tick_643 : decode cL_tick 643 = .ok (.ifCond .ne 8, 3) := by decide +kernel
theorem dL_tick_646 : decode cL_tick 646 = .ok (.iload 23, 2) := by decide +kernel
theorem dL_tick_648 : decode cL_tick 648 = .ok (.ifCond .eq 24, 3) := by decide +kernel
theorem dL_tick_651 : decode cL_tick 651 = .ok (.aload_n 0, 1) := by decide +kernel
theorem dL_tick_652 : decode cL_tick 652 = .ok (.iconst 0, 1) := by decide +kernel
theorem dL_tick_653 : decode cL_tick 653 = .ok (.iconst 4, 1) := by decide +kernel
theorem dL_tick_654 : decode cL_tick 654 = .ok (.invokevirtual 68, 3) := by decide +kernel
theorem dL_tick_657 : decode cL_tick 657 = .ok (.iconst 1, 1) := by decide +kernel
theorem dL_tick_658 : decode cL_tick 658 = .ok (.if_icmp .ne 14, 3) := by decide +kernel
theorem dL_tick_661 : decode cL_tick 661 = .ok (.aload_n 0, 1) := by decide +kernel
theorem dL_tick_662 : decode cL_tick 662 = .ok (.invokestatic 99, 3) := by decide +kernel
theorem dL_tick_665 : decode cL_tick 665 = .ok (.ifCond .eq 7, 3) := by decide +kernel
theorem dL_tick_668 : decode cL_tick 668 = .ok (.iconst 1, 1) := by decide +kernel
theorem dL_tick_669 : decode cL_tick 669 = .ok (.goto 4, 3) := by decide +kernel
theorem dL_tick_672 : decode cL_tick 672 = .ok (.iconst 0, 1) := by decide +kernel
theorem dL_tick_673 : decode cL_tick 673 = .ok (.istore 29, 2) := by decide +kernel
theorem dL_tick_675 : decode cL_tick 675 = .ok (.iload 26, 2) := by decide +kernel
theorem dL_tick_677 : decode cL_tick 677 = .ok (.bipush (-5), 2) := by decide +kernel
theorem dL_tick_679 : decode cL_tick 679 = .ok (.if_icmp .ne 36, 3) := by decide +kernel
theorem dL_tick_682 : decode cL_tick 682 = .ok (.iload 24, 2) := by decide +kernel
theorem dL_tick_684 : decode cL_tick 684 = .ok (.ifCond .ne 27, 3) := by decide +kernel
theorem dL_tick_687 : decode cL_tick 687 = .ok (.aload_n 0, 1) := by decide +kernel
theorem dL_tick_688 : decode cL_tick 688 = .ok (.iconst 1, 1) := by decide +kernel
theorem dL_tick_689 : decode cL_tick 689 = .ok (.invokevirtual 38, 3) := by decide +kernel
theorem dL_tick_692 : decode cL_tick 692 = .ok (.iload 18, 2) := by decide +kernel
theorem dL_tick_694 : decode cL_tick 694 = .ok (.ifCond .eq 8, 3) := by decide +kernel
theorem dL_tick_697 : decode cL_tick 697 = .ok (.bipush (-5), 2) := by decide +kernel
theorem dL_tick_699 : decode cL_tick 699 = .ok (.goto 5, 3) := by decide +kernel
theorem dL_tick_702 : decode cL_tick 702 = .ok (.iload 6, 2) := by decide +kernel
theorem dL_tick_704 : decode cL_tick 704 = .ok (.if_icmp .ne 7, 3) := by decide +kernel
theorem dL_tick_707 : decode cL_tick 707 = .ok (.iconst 1, 1) := by decide +kernel
theorem dL_tick_708 : decode cL_tick 708 = .ok (.goto 47, 3) := by decide +kernel
theorem dL_tick_711 : decode cL_tick 711 = .ok (.iconst 0, 1) := by decide +kernel
theorem dL_tick_712 : decode cL_tick 712 = .ok (.goto 43, 3) := by decide +kernel
theorem dL_tick_715 : decode cL_tick 715 = .ok (.iload 24, 2) := by decide +kernel
theorem dL_tick_717 : decode cL_tick 717 = .ok (.iconst 1, 1) := by decide +kernel
theorem dL_tick_718 : decode cL_tick 718 = .ok (.if_icmp .ne 36, 3) := by decide +kernel
theorem dL_tick_721 : decode cL_tick 721 = .ok (.aload_n 0, 1) := by decide +kernel
theorem dL_tick_722 : decode cL_tick 722 = .ok (.iconst 1, 1) := by decide +kernel
theorem dL_tick_723 : decode cL_tick 723 = .ok (.invokevirtual 38, 3) := by decide +kernel
theorem dL_tick_726 : decode cL_tick 726 = .ok (.iload 26, 2) := by decide +kernel
theorem dL_tick_728 : decode cL_tick 728 = .ok (.if_icmp .ne 26, 3) := by decide +kernel
theorem dL_tick_731 : decode cL_tick 731 = .ok (.aload_n 0, 1) := by decide +kernel
theorem dL_tick_732 : decode cL_tick 732 = .ok (.iconst 2, 1) := by decide +kernel
theorem dL_tick_733 : decode cL_tick 733 = .ok (.invokevirtual 38, 3) := by decide +kernel
theorem dL_tick_736 : decode cL_tick 736 = .ok (.ifCond .ne 18, 3) := by decide +kernel
theorem dL_tick_739 : decode cL_tick 739 = .ok (.aload_n 0, 1) := by decide +kernel
theorem dL_tick_740 : decode cL_tick 740 = .ok (.iconst 0, 1) := by decide +kernel
theorem dL_tick_741 : decode cL_tick 741 = .ok (.iconst 0, 1) := by decide +kernel
theorem dL_tick_742 : decode cL_tick 742 = .ok (.invokevirtual 68, 3) := by decide +kernel
theorem dL_tick_745 : decode cL_tick 745 = .ok (.iload 16, 2) := by decide +kernel
theorem dL_tick_747 : decode cL_tick 747 = .ok (.if_icmp .ne 7, 3) := by decide +kernel
theorem dL_tick_750 : decode cL_tick 750 = .ok (.iconst 1, 1) := by decide +kernel
theorem dL_tick_751 : decode cL_tick 751 = .ok (.goto 4, 3) := by decide +kernel
theorem dL_tick_754 : decode cL_tick 754 = .ok (.iconst 0, 1) := by decide +kernel
theorem dL_tick_755 : decode cL_tick 755 = .ok (.istore 30, 2) := by decide +kernel
theorem dL_tick_757 : decode cL_tick 757 = .ok (.iload 10, 2) := by decide +kernel
theorem dL_tick_759 : decode cL_tick 759 = .ok (.iload 26, 2) := by decide +kernel
theorem dL_tick_761 : decode cL_tick 761 = .ok (.if_icmp .ne 60, 3) := by decide +kernel
theorem dL_tick_764 : decode cL_tick 764 = .ok (.iload 27, 2) := by decide +kernel
theorem dL_tick_766 : decode cL_tick 766 = .ok (.ifCond .eq 55, 3) := by decide +kernel
theorem dL_tick_769 : decode cL_tick 769 = .ok (.iload 29, 2) := by decide +kernel
theorem dL_tick_771 : decode cL_tick 771 = .ok (.ifCond .eq 50, 3) := by decide +kernel
theorem dL_tick_774 : decode cL_tick 774 = .ok (.iload 30, 2) := by decide +kernel
theorem dL_tick_776 : decode cL_tick 776 = .ok (.ifCond .eq 45, 3) := by decide +kernel
theorem dL_tick_779 : decode cL_tick 779 = .ok (.aload_n 0, 1) := by decide +kernel
theorem dL_tick_780 : decode cL_tick 780 = .ok (.iconst 0, 1) := by decide +kernel
theorem dL_tick_781 : decode cL_tick 781 = .ok (.invokevirtual 38, 3) := by decide +kernel
theorem dL_tick_784 : decode cL_tick 784 = .ok (.iload 19, 2) := by decide +kernel
theorem dL_tick_786 : decode cL_tick 786 = .ok (.if_icmp .ne 35, 3) := by decide +kernel
theorem dL_tick_789 : decode cL_tick 789 = .ok (.aload_n 0, 1) := by decide +kernel
theorem dL_tick_790 : decode cL_tick 790 = .ok (.bipush 6, 2) := by decide +kernel
theorem dL_tick_792 : decode cL_tick 792 = .ok (.invokevirtual 57, 3) := by decide +kernel
theorem dL_tick_795 : decode cL_tick 795 = .ok (.iload 15, 2) := by decide +kernel
theorem dL_tick_797 : decode cL_tick 797 = .ok (.if_icmp .gt 20, 3) := by decide +kernel
theorem dL_tick_800 : decode cL_tick 800 = .ok (.iload 22, 2) := by decide +kernel
theorem dL_tick_802 : decode cL_tick 802 = .ok (.ifCond .ne 8, 3) := by decide +kernel
theorem dL_tick_805 : decode cL_tick 805 = .ok (.iload 23, 2) := by decide +kernel
theorem dL_tick_807 : decode cL_tick 807 = .ok (.ifCond .eq 10, 3) := by decide +kernel
theorem dL_tick_810 : decode cL_tick 810 = .ok (.aload_n 0, 1) := by decide +kernel
theorem dL_tick_811 : decode cL_tick 811 = .ok (.invokestatic 99, 3) := by decide +kernel
theorem dL_tick_814 : decode cL_tick 814 = .ok (.ifCond .ne 7, 3) := by decide +kernel
theorem dL_tick_817 : decode cL_tick 817 = .ok (.iconst 1, 1) := by decide +kernel
theorem dL_tick_818 : decode cL_tick 818 = .ok (.goto 4, 3) := by decide +kernel
theorem dL_tick_821 : decode cL_tick 821 = .ok (.iconst 0, 1) := by decide +kernel
theorem dL_tick_822 : decode cL_tick 822 = .ok (.ireturn, 1) := by decide +kernel
set_option maxRecDepth 20000 in
theorem ggL_wentToAndFro_X5_change : GoodIn wsL_wentToAndFro wsX5_change := goodIn_r _ [5, 6, 7, 8, 9, 10, 11, 12, 13, 14, 25, 26, 27, 28, 29, 30, 31, 32, 33, 34, 35, 36, 37, 38, 39, 40, 41, 42, 43, 44] (by decide +kernel) (by decide +kernel)
set_option maxRecDepth 20000 in
theorem gL_wentToAndFro_X5_change : GoodIn wsL_wentToAndFro (wsV RL 68 RX5 yX5_change wsX5_change) := goodIn_app (goodIn_of _ (by decide +kernel)) ggL_wentToAndFro_X5_change
set_option maxRecDepth 20000 in
theorem ggL_wentToAndFro_X5_number : GoodIn wsL_wentToAndFro wsX5_number := goodIn_r _ [18, 6, 19, 20, 21, 22, 23, 24, 25, 26, 27, 28, 29, 30, 31, 32, 33, 34, 35, 36, 37, 38, 39, 40, 41] (by decide +kernel) (by decide +kernel)
set_option maxRecDepth 20000 in
theorem gL_wentToAndFro_X5_number : GoodIn wsL_wentToAndFro (wsV RL 44 RX5 yX5_number wsX5_number) := goodIn_app (goodIn_of _ (by decide +kernel)) ggL_wentToAndFro_X5_number
theorem dL_wentToAndFro_0 : decode cL_wentToAndFro 0 = .ok (.aload_n 0, 1) := by decide +kernel
theorem dL_wentToAndFro_1 : decode cL_wentToAndFro 1 = .ok (.iconst 2, 1) := by decide +kernel
theorem dL_wentToAndFro_2 : decode cL_wentToAndFro 2 = .ok (.iconst 0, 1) := by decide +kernel
theorem dL_wentToAndFro_3 : decode cL_wentToAndFro 3 = .ok (.invokevirtual 68, 3) := by decide +kernel
theorem dL_wentToAndFro_6 : decode cL_wentToAndFro 6 = .ok (.ifCond .lt 28, 3) := by decide +kernel
theorem dL_wentToAndFro_9 : decode cL_wentToAndFro 9 = .ok (.aload_n 0, 1) := by decide +kernel
theorem dL_wentToAndFro_10 : decode cL_wentToAndFro 10 = .ok (.iconst 0, 1) := by decide +kernel
theorem dL_wentToAndFro_11 : decode cL_wentToAndFro 11 = .ok (.iconst 0, 1) := by decide +kernel
theorem dL_wentToAndFro_12 : decode cL_wentToAndFro 12 = .ok (.invokevirtual 68, 3) := by decide +kernel
theorem dL_wentToAndFro_15 : decode cL_wentToAndFro 15 = .ok (.aload_n 0, 1) := by decide +kernel
theorem dL_wentToAndFro_16 : decode cL_wentToAndFro 16 = .ok (.iconst 2, 1) := by decide +kernel
theorem dL_wentToAndFro_17 : decode cL_wentToAndFro 17 = .ok (.iconst 0, 1) := by decide +kernel
theorem dL_wentToAndFro_18 : decode cL_wentToAndFro 18 = .ok (.invokevirtual 68, 3) := by decide +kernel
theorem dL_wentToAndFro_21 : decode cL_wentToAndFro 21 = .ok (.isub, 1) := by decide +kernel
theorem dL_wentToAndFro_22 : decode cL_wentToAndFro 22 = .ok (.aload_n 0, 1) := by decide +kernel
theorem dL_wentToAndFro_23 : decode cL_wentToAndFro 23 = .ok (.iconst 2, 1) := by decide +kernel
theorem dL_wentToAndFro_24 : decode cL_wentToAndFro 24 = .ok (.invokevirtual 44, 3) := by decide +kernel
theorem dL_wentToAndFro_27 : decode cL_wentToAndFro 27 = .ok (.if_icmp .gt 7, 3) := by decide +kernel
theorem dL_wentToAndFro_30 : decode cL_wentToAndFro 30 = .ok (.iconst 1, 1) := by decide +kernel
theorem dL_wentToAndFro_31 : decode cL_wentToAndFro 31 = .ok (.goto 4, 3) := by decide +kernel
theorem dL_wentToAndFro_34 : decode cL_wentToAndFro 34 = .ok (.iconst 0, 1) := by decide +kernel
theorem dL_wentToAndFro_35 : decode cL_wentToAndFro 35 = .ok (.istore_n 1, 1) := by decide +kernel
theorem dL_wentToAndFro_36 : decode cL_wentToAndFro 36 = .ok (.iconst 0, 1) := by decide +kernel
theorem dL_wentToAndFro_37 : decode cL_wentToAndFro 37 = .ok (.istore_n 2, 1) := by decide +kernel
theorem dL_wentToAndFro_38 : decode cL_wentToAndFro 38 = .ok (.iload_n 2, 1) := by decide +kernel
theorem dL_wentToAndFro_39 : decode cL_wentToAndFro 39 = .ok (.iconst 3, 1) := by decide +kernel
theorem dL_wentToAndFro_40 : decode cL_wentToAndFro 40 = .ok (.if_icmp .ge 59, 3) := by decide +kernel
theorem dL_wentToAndFro_43 : decode cL_wentToAndFro 43 = .ok (.iload_n 1, 1) := by decide +kernel
theorem dL_wentToAndFro_44 : decode cL_wentToAndFro 44 = .ok (.ifCond .eq 47, 3) := by decide +kernel
theorem dL_wentToAndFro_47 : decode cL_wentToAndFro 47 = .ok (.aload_n 0, 1) := by decide +kernel
theorem dL_wentToAndFro_48 : decode cL_wentToAndFro 48 = .ok (.iload_n 2, 1) := by decide +kernel
theorem dL_wentToAndFro_49 : decode cL_wentToAndFro 49 = .ok (.iconst 3, 1) := by decide +kernel
theorem dL_wentToAndFro_50 : decode cL_wentToAndFro 50 = .ok (.invokevirtual 68, 3) := by decide +kernel
theorem dL_wentToAndFro_53 : decode cL_wentToAndFro 53 = .ok (.ifCond .lt 38, 3) := by decide +kernel
theorem dL_wentToAndFro_56 : decode cL_wentToAndFro 56 = .ok (.aload_n 0, 1) := by decide +kernel
theorem dL_wentToAndFro_57 : decode cL_wentToAndFro 57 = .ok (.iload_n 2, 1) := by decide +kernel
theorem dL_wentToAndFro_58 : decode cL_wentToAndFro 58 = .ok (.iconst 3, 1) := by decide +kernel
theorem dL_wentToAndFro_59 : decode cL_wentToAndFro 59 = .ok (.invokevirtual 68, 3) := by decide +kernel
theorem dL_wentToAndFro_62 : decode cL_wentToAndFro 62 = .ok (.iconst 1, 1) := by decide +kernel
theorem dL_wentToAndFro_63 : decode cL_wentToAndFro 63 = .ok (.if_icmp .gt 28, 3) := by decide +kernel
theorem dL_wentToAndFro_66 : decode cL_wentToAndFro 66 = .ok (.iload_n 2, 1) := by decide +kernel
theorem dL_wentToAndFro_67 : decode cL_wentToAndFro 67 = .ok (.ifCond .eq 20, 3) := by decide +kernel
theorem dL_wentToAndFro_70 : decode cL_wentToAndFro 70 = .ok (.aload_n 0, 1) := by decide +kernel
theorem dL_wentToAndFro_71 : decode cL_wentToAndFro 71 = .ok (.iload_n 2, 1) := by decide +kernel
theorem dL_wentToAndFro_72 : decode cL_wentToAndFro 72 = .ok (.iconst 3, 1) := by decide +kernel
theorem dL_wentToAndFro_73 : decode cL_wentToAndFro 73 = .ok (.invokevirtual 68, 3) := by decide +kernel
theorem dL_wentToAndFro_76 : decode cL_wentToAndFro 76 = .ok (.aload_n 0, 1) := by decide +kernel
theorem dL_wentToAndFro_77 : decode cL_wentToAndFro 77 = .ok (.iload_n 2, 1) := by decide +kernel
theorem dL_wentToAndFro_78 : decode cL_wentToAndFro 78 = .ok (.iconst 1, 1) := by decide +kernel
theorem dL_wentToAndFro_79 : decode cL_wentToAndFro 79 = .ok (.isub, 1) := by decide +kernel
theorem dL_wentToAndFro_80 : decode cL_wentToAndFro 80 = .ok (.iconst 3, 1) := by decide +kernel
theorem dL_wentToAndFro_81 : decode cL_wentToAndFro 81 = .ok (.invokevirtual 68, 3) := by decide +kernel
theorem dL_wentToAndFro_84 : decode cL_wentToAndFro 84 = .ok (.if_icmp .eq 7, 3) := by decide +kernel
theorem dL_wentToAndFro_87 : decode cL_wentToAndFro 87 = .ok (.iconst 1, 1) := by decide +kernel
theorem dL_wentToAndFro_88 : decode cL_wentToAndFro 88 = .ok (.goto 4, 3) := by decide +kernel
theorem dL_wentToAndFro_91 : decode cL_wentToAndFro 91 = .ok (.iconst 0, 1) := by decide +kernel
theorem dL_wentToAndFro_92 : decode cL_wentToAndFro 92 = .ok (.istore_n 1, 1) := by decide +kernel
theorem dL_wentToAndFro_93 : decode cL_wentToAndFro 93 = .ok (.iinc 2 1, 3) := by decide +kernel
theorem dL_wentToAndFro_96 : decode cL_wentToAndFro 96 = .ok (.goto (-58), 3) := by decide +kernel
theorem dL_wentToAndFro_99 : decode cL_wentToAndFro 99 = .ok (.iload_n 1, 1) := by decide +kernel
theorem dL_wentToAndFro_100 : decode cL_wentToAndFro 100 = .ok (.ireturn, 1) := by decide +kernel
set_option maxRecDepth 20000 in
theorem ggL_acts_L_low : GoodIn wsL_acts wsL_low := goodIn_r _ [4, 5] (by decide +kernel) (by decide +kernel)
set_option maxRecDepth 20000 in
theorem gL_acts_L_low : GoodIn wsL_acts (va_wsS RL 103 yL_low wsL_low) := goodIn_app (goodIn_of _ (by decide +kernel)) ggL_acts_L_low
set_option maxRecDepth 20000 in
theorem ggL_acts_X5_map : GoodIn wsL_acts wsX5_map := goodIn_r _ [10, 11, 12, 13, 14, 15, 16, 17, 18, 19, 20, 21, 22, 9, 23, 24, 330, 331, 332, 333, 334, 335, 336, 337, 338, 339, 340, 341, 342, 343, 344, 345, 346, 347] (by decide +kernel) (by decide +kernel)
set_option maxRecDepth 20000 in
theorem gL_acts_X5_map : GoodIn wsL_acts (wsV RL 87 RX5 yX5_map wsX5_map) := goodIn_app (goodIn_of _ (by decide +kernel)) ggL_acts_X5_map
set_option maxRecDepth 20000 in
theorem ggL_acts_L_fast : GoodIn wsL_acts wsL_fast := goodIn_r _ [27, 28, 29, 30, 31, 32, 33, 34, 35, 36, 37, 38] (by decide +kernel) (by decide +kernel)
set_option maxRecDepth 20000 in
theorem gL_acts_L_fast : GoodIn wsL_acts (va_wsS RL 72 yL_fast wsL_fast) := goodIn_app (goodIn_of _ (by decide +kernel)) ggL_acts_L_fast
set_option maxRecDepth 20000 in
theorem ggL_acts_L_speed : GoodIn wsL_acts wsL_speed := goodIn_r _ [41, 42, 43, 44, 45, 46, 47, 48, 49, 50, 51, 52] (by decide +kernel) (by decide +kernel)
set_option maxRecDepth 20000 in
theorem gL_acts_L_speed : GoodIn wsL_acts (va_wsS RL 78 yL_speed wsL_speed) := goodIn_app (goodIn_of _ (by decide +kernel)) ggL_acts_L_speed
set_option maxRecDepth 20000 in
theorem ggL_acts_X5_setMap : GoodIn wsL_acts wsX5_setMap := goodIn_r _ [56, 11, 57, 12, 13, 14, 15, 58, 59, 9, 60, 61, 62, 63, 64, 65, 66, 67, 16, 17, 18, 19, 20, 68, 69, 70, 71, 72, 73, 74, 75, 76, 77, 78, 79, 80, 81, 82, 83, 84, 85, 86, 87, 88, 89, 90, 91, 92, 93, 94, 95, 96, 97, 98, 99, 100, 101, 102, 103, 104, 105, 106, 107, 108, 109, 110, 111, 112, 113, 114, 115, 116, 117, 118, 119, 120, 121, 122, 330, 331, 332, 333, 334, 335, 336, 337, 338, 339, 340, 341, 342, 343, 344, 345, 346, 347, 348, 349, 350, 351, 352, 353] (by decide +kernel) (by decide +kernel)
end
section
set_option maxRecDepth 20000 in
theorem gL_acts_X5_setMap : GoodIn wsL_acts (wsV RL 106 RX5 yX5_setMap wsX5_setMap) := goodIn_app (goodIn_of _ (by decide +kernel)) ggL_acts_X5_setMap
set_option maxRecDepth 20000 in
theorem ggL_acts_X5_number : GoodIn wsL_acts wsX5_number := goodIn_r _ [126, 11, 127, 128, 129, 87, 130, 96, 330, 331, 332, 333, 334, 335, 336, 337, 338, 339, 340, 341, 342, 343, 344, 345, 346] (by decide +kernel) (by decide +kernel)
set_option maxRecDepth 20000 in
theorem gL_acts_X5_number : GoodIn wsL_acts (wsV RL 44 RX5 yX5_number wsX5_number) := goodIn_app (goodIn_of _ (by decide +kernel)) ggL_acts_X5_number
set_option maxRecDepth 20000 in
theorem ggL_acts_X5_car : GoodIn wsL_acts wsX5_car := goodIn_r _ [134, 11, 135, 136, 137, 87, 138, 98, 139, 140, 141, 142, 97, 143, 144, 145, 146, 147, 148, 149, 150, 151, 152, 153, 154, 155, 330, 331, 332, 333, 334, 335, 336, 337, 338, 339, 340, 341, 342, 343, 344, 345, 346] (by decide +kernel) (by decide +kernel)
set_option maxRecDepth 20000 in
theorem gL_acts_X5_car : GoodIn wsL_acts (wsV RL 38 RX5 yX5_car wsX5_car) := goodIn_app (goodIn_of _ (by decide +kernel)) ggL_acts_X5_car
set_option maxRecDepth 20000 in
theorem ggL_acts_X5_setNumber : GoodIn wsL_acts wsX5_setNumber := goodIn_r _ [159, 11, 57, 160, 161, 162, 87, 163, 164, 128, 129, 130, 96, 135, 136, 137, 138, 98, 127, 68, 69, 70, 71, 72, 73, 74, 75, 76, 77, 78, 79, 80, 81, 82, 83, 84, 85, 86, 88, 89, 90, 91, 92, 93, 94, 95, 97, 99, 100, 101, 102, 103, 104, 105, 106, 14, 107, 20, 108, 109, 110, 111, 112, 113, 114, 115, 116, 117, 165, 166, 167, 168, 330, 331, 332, 333, 334, 335, 336, 337, 338, 339, 340, 341, 342, 343, 344, 345, 346, 348, 349, 350, 347, 351, 352, 353] (by decide +kernel) (by decide +kernel)
set_option maxRecDepth 20000 in
theorem gL_acts_X5_setNumber : GoodIn wsL_acts (wsV RL 109 RX5 yX5_setNumber wsX5_setNumber) := goodIn_app (goodIn_of _ (by decide +kernel)) ggL_acts_X5_setNumber
set_option maxRecDepth 20000 in
theorem ggL_acts_X5_byHand : GoodIn wsL_acts wsX5_byHand := goodIn_r _ [172, 11, 57, 68, 69, 70, 71, 72, 73, 74, 75, 76, 77, 78, 79, 80, 81, 82, 83, 84, 85, 86, 87, 88, 89, 90, 91, 92, 93, 94, 95, 96, 97, 98, 99, 100, 101, 102, 103, 104, 105, 106, 14, 107, 20, 108, 109, 110, 111, 112, 113, 114, 115, 116, 117, 330, 331, 332, 333, 334, 335, 336, 337, 338, 339, 340, 341, 342, 343, 344, 345, 346, 348, 349, 350, 347, 351, 352, 353] (by decide +kernel) (by decide +kernel)
set_option maxRecDepth 20000 in
theorem gL_acts_X5_byHand : GoodIn wsL_acts (wsV RL 112 RX5 yX5_byHand wsX5_byHand) := goodIn_app (goodIn_of _ (by decide +kernel)) ggL_acts_X5_byHand
set_option maxRecDepth 20000 in
theorem ggL_acts_X5_count : GoodIn wsL_acts wsX5_count := goodIn_r _ [176, 57, 177, 11, 178, 179, 180, 71, 181, 74, 182, 183, 184, 185, 186, 187, 188, 189, 190, 87, 191, 91, 330, 331, 332, 333, 334, 335, 348, 349, 350, 354, 355, 356, 357, 358, 359, 360, 336, 337, 338, 339, 340, 341, 342, 343, 344, 345, 346] (by decide +kernel) (by decide +kernel)
set_option maxRecDepth 20000 in
theorem gL_acts_X5_count : GoodIn wsL_acts (wsV RL 57 RX5 yX5_count wsX5_count) := goodIn_app (goodIn_of _ (by decide +kernel)) ggL_acts_X5_count
set_option maxRecDepth 20000 in
theorem ggL_acts_X5_shift : GoodIn wsL_acts wsX5_shift := goodIn_r _ [195, 11, 57, 196, 197, 198, 87, 199, 101, 89, 102, 143, 136, 137, 138, 98, 200, 201, 202, 14, 203, 204, 17, 18, 19, 20, 68, 69, 70, 71, 72, 73, 74, 75, 76, 77, 78, 79, 80, 81, 82, 83, 84, 85, 86, 88, 90, 91, 92, 93, 94, 95, 96, 97, 99, 100, 103, 104, 105, 106, 107, 108, 109, 110, 111, 112, 113, 114, 115, 116, 117, 205, 206, 207, 208, 209, 210, 211, 212, 213, 214, 215, 216, 217, 218, 219, 220, 221, 189, 190, 191, 164, 128, 129, 130, 222, 223, 224, 225, 226, 227, 228, 229, 230, 330, 331, 332, 333, 334, 335, 336, 337, 338, 339, 340, 341, 342, 343, 344, 345, 346, 347, 348, 349, 350, 351, 352, 353] (by decide +kernel) (by decide +kernel)
set_option maxRecDepth 20000 in
theorem gL_acts_X5_shift : GoodIn wsL_acts (wsV RL 116 RX5 yX5_shift wsX5_shift) := goodIn_app (goodIn_of _ (by decide +kernel)) ggL_acts_X5_shift
set_option maxRecDepth 20000 in
theorem ggL_acts_X5_change : GoodIn wsL_acts wsX5_change := goodIn_r _ [234, 11, 235, 214, 215, 112, 216, 117, 116, 114, 330, 331, 332, 333, 334, 335, 336, 337, 338, 339, 340, 341, 342, 343, 344, 345, 346, 351, 352, 353] (by decide +kernel) (by decide +kernel)
set_option maxRecDepth 20000 in
theorem gL_acts_X5_change : GoodIn wsL_acts (wsV RL 68 RX5 yX5_change wsX5_change) := goodIn_app (goodIn_of _ (by decide +kernel)) ggL_acts_X5_change
set_option maxRecDepth 20000 in
theorem ggL_acts_L_pedal : GoodIn wsL_acts wsL_pedal := goodIn_r _ [238, 239, 240, 241, 242] (by decide +kernel) (by decide +kernel)
set_option maxRecDepth 20000 in
theorem gL_acts_L_pedal : GoodIn wsL_acts (va_wsS RL 81 yL_pedal wsL_pedal) := goodIn_app (goodIn_of _ (by decide +kernel)) ggL_acts_L_pedal
set_option maxRecDepth 20000 in
theorem ggL_acts_X5_drive : GoodIn wsL_acts wsX5_drive := goodIn_r _ [246, 11, 247, 57, 58, 59, 9, 60, 61, 248, 249, 250, 251, 252, 218, 219, 87, 220, 221, 189, 190, 191, 91, 68, 69, 70, 71, 72, 73, 74, 75, 76, 77, 78, 79, 80, 81, 82, 83, 84, 85, 86, 88, 89, 90, 92, 93, 94, 95, 96, 97, 98, 99, 100, 101, 102, 103, 104, 105, 106, 14, 107, 20, 108, 109, 110, 111, 112, 113, 114, 115, 116, 117, 62, 63, 64, 65, 66, 67, 253, 254, 255, 256, 257, 258, 259, 260, 261, 262, 263, 264, 143, 136, 137, 138, 164, 128, 129, 130, 265, 266, 267, 268, 200, 201, 202, 203, 204, 17, 18, 19, 269, 270, 271, 272, 273, 274, 275, 276, 277, 278, 279, 280, 281, 282, 283, 284, 285, 286, 287, 288, 289, 290, 291, 292, 293, 206, 207, 208, 209, 210, 211, 212, 213, 214, 215, 216, 217, 222, 223, 224, 225, 226, 227, 228, 229, 230, 294, 295, 296, 297, 330, 331, 332, 333, 334, 335, 336, 337, 338, 339, 340, 341, 342, 343, 344, 345, 346, 348, 349, 350, 347, 351, 352, 353] (by decide +kernel) (by decide +kernel)
set_option maxRecDepth 20000 in
theorem gL_acts_X5_drive : GoodIn wsL_acts (wsV RL 95 RX5 yX5_drive wsX5_drive) := goodIn_app (goodIn_of _ (by decide +kernel)) ggL_acts_X5_drive
set_option maxRecDepth 20000 in
theorem ggL_acts_L_settles : GoodIn wsL_acts wsL_settles := goodIn_r _ [300, 39, 40, 3, 41, 42, 43, 44, 45, 46, 47, 48, 49, 50, 51, 52, 236, 237, 238, 239, 240, 241, 242, 301, 302, 303, 9, 304, 305, 11, 58, 59, 60, 61, 248, 249, 250, 251, 306, 85, 86, 87, 88, 89, 90, 91, 92, 93, 94, 95, 96, 97, 98, 99, 100, 101, 102, 103, 104, 105, 106, 14, 107, 20, 108, 109, 110, 111, 112, 113, 114, 115, 116, 117, 62, 63, 64, 65, 66, 67, 307, 258, 259, 260, 261, 262, 263, 264, 143, 136, 137, 138, 164, 128, 129, 130, 265, 266, 267, 268, 200, 201, 202, 203, 204, 17, 18, 19, 269, 270, 271, 272, 273, 274, 275, 276, 277, 278, 77, 279, 280, 281, 282, 283, 284, 285, 286, 287, 288, 289, 290, 291, 292, 293, 206, 207, 208, 209, 210, 211, 212, 213, 214, 215, 216, 217, 218, 219, 220, 221, 189, 190, 191, 222, 223, 224, 225, 226, 76, 78, 227, 228, 229, 230, 294, 295, 296, 297, 243, 244, 245, 246, 247, 57, 252, 68, 69, 70, 71, 72, 73, 74, 75, 79, 80, 81, 82, 83, 84, 253, 254, 255, 256, 257, 330, 331, 332, 333, 334, 335, 336, 337, 338, 339, 340, 341, 342, 343, 344, 345, 346, 347, 351, 352, 353, 348, 349, 350] (by decide +kernel) (by decide +kernel)
set_option maxRecDepth 20000 in
theorem gL_acts_L_settles : GoodIn wsL_acts (va_wsS RL 119 yL_settles wsL_settles) := goodIn_app (goodIn_of _ (by decide +kernel)) ggL_acts_L_settles
set_option maxRecDepth 20000 in
set_option maxRecDepth 20000 in
theorem m_ggL_acts_L_tick_wsL_tick_r1 : ∀ w ∈ wsL_tick_r1, w ∈ wsL_acts := (List.forall_mem_cons.mpr ⟨List.mem_of_getElem? (i := 311) rfl, (List.forall_mem_cons.mpr ⟨List.mem_of_getElem? (i := 25) rfl, (List.forall_mem_cons.mpr ⟨List.mem_of_getElem? (i := 26) rfl, (List.forall_mem_cons.mpr ⟨List.mem_of_getElem? (i := 3) rfl, (List.forall_mem_cons.mpr ⟨List.mem_of_getElem? (i := 27) rfl, (List.forall_mem_cons.mpr ⟨List.mem_of_getElem? (i := 28) rfl, (List.forall_mem_cons.mpr ⟨List.mem_of_getElem? (i := 29) rfl, (List.forall_mem_cons.mpr ⟨List.mem_of_getElem? (i := 30) rfl, (List.forall_mem_cons.mpr ⟨List.mem_of_getElem? (i := 31) rfl, (List.forall_mem_cons.mpr ⟨List.mem_of_getElem? (i := 32) rfl, (List.forall_mem_cons.mpr ⟨List.mem_of_getElem? (i := 33) rfl, (List.forall_mem_cons.mpr ⟨List.mem_of_getElem? (i := 34) rfl, (List.forall_mem_cons.mpr ⟨List.mem_of_getElem? (i := 35) rfl, (List.forall_mem_cons.mpr ⟨List.mem_of_getElem? (i := 36) rfl, (List.forall_mem_cons.mpr ⟨List.mem_of_getElem? (i := 37) rfl, (List.forall_mem_cons.mpr ⟨List.mem_of_getElem? (i := 38) rfl, (List.forall_mem_cons.mpr ⟨List.mem_of_getElem? (i := 312) rfl, (List.forall_mem_cons.mpr ⟨List.mem_of_getElem? (i := 313) rfl, (List.forall_mem_cons.mpr ⟨List.mem_of_getElem? (i := 314) rfl, (List.forall_mem_cons.mpr ⟨List.mem_of_getElem? (i := 315) rfl, (List.forall_mem_cons.mpr ⟨List.mem_of_getElem? (i := 316) rfl, (List.forall_mem_cons.mpr ⟨List.mem_of_getElem? (i := 131) rfl, (List.forall_mem_cons.mpr ⟨List.mem_of_getElem? (i := 132) rfl, (List.forall_mem_cons.mpr ⟨List.mem_of_getElem? (i := 133) rfl, (fun _ h => absurd h List.not_mem_nil)⟩)⟩)⟩)⟩)⟩)⟩)⟩)⟩)⟩)⟩)⟩)⟩)⟩)⟩)⟩)⟩)⟩)⟩)⟩)⟩)⟩)⟩)⟩)⟩)
set_option maxRecDepth 20000 in
theorem m_ggL_acts_L_tick_wsL_tick_r2 : ∀ w ∈ wsL_tick_r2, w ∈ wsL_acts := (List.forall_mem_cons.mpr ⟨List.mem_of_getElem? (i := 9) rfl, (List.forall_mem_cons.mpr ⟨List.mem_of_getElem? (i := 134) rfl, (List.forall_mem_cons.mpr ⟨List.mem_of_getElem? (i := 11) rfl, (List.forall_mem_cons.mpr ⟨List.mem_of_getElem? (i := 135) rfl, (List.forall_mem_cons.mpr ⟨List.mem_of_getElem? (i := 136) rfl, (List.forall_mem_cons.mpr ⟨List.mem_of_getElem? (i := 137) rfl, (List.forall_mem_cons.mpr ⟨List.mem_of_getElem? (i := 87) rfl, (List.forall_mem_cons.mpr ⟨List.mem_of_getElem? (i := 138) rfl, (List.forall_mem_cons.mpr ⟨List.mem_of_getElem? (i := 98) rfl, (List.forall_mem_cons.mpr ⟨List.mem_of_getElem? (i := 139) rfl, (List.forall_mem_cons.mpr ⟨List.mem_of_getElem? (i := 140) rfl, (List.forall_mem_cons.mpr ⟨List.mem_of_getElem? (i := 141) rfl, (List.forall_mem_cons.mpr ⟨List.mem_of_getElem? (i := 142) rfl, (List.forall_mem_cons.mpr ⟨List.mem_of_getElem? (i := 97) rfl, (List.forall_mem_cons.mpr ⟨List.mem_of_getElem? (i := 143) rfl, (List.forall_mem_cons.mpr ⟨List.mem_of_getElem? (i := 144) rfl, (List.forall_mem_cons.mpr ⟨List.mem_of_getElem? (i := 145) rfl, (List.forall_mem_cons.mpr ⟨List.mem_of_getElem? (i := 146) rfl, (List.forall_mem_cons.mpr ⟨List.mem_of_getElem? (i := 147) rfl, (List.forall_mem_cons.mpr ⟨List.mem_of_getElem? (i := 148) rfl, (List.forall_mem_cons.mpr ⟨List.mem_of_getElem? (i := 149) rfl, (List.forall_mem_cons.mpr ⟨List.mem_of_getElem? (i := 150) rfl, (List.forall_mem_cons.mpr ⟨List.mem_of_getElem? (i := 151) rfl, (List.forall_mem_cons.mpr ⟨List.mem_of_getElem? (i := 152) rfl, (fun _ h => absurd h List.not_mem_nil)⟩)⟩)⟩)⟩)⟩)⟩)⟩)⟩)⟩)⟩)⟩)⟩)⟩)⟩)⟩)⟩)⟩)⟩)⟩)⟩)⟩)⟩)⟩)⟩)
set_option maxRecDepth 20000 in
theorem m_ggL_acts_L_tick_wsL_tick_r3 : ∀ w ∈ wsL_tick_r3, w ∈ wsL_acts := (List.forall_mem_cons.mpr ⟨List.mem_of_getElem? (i := 153) rfl, (List.forall_mem_cons.mpr ⟨List.mem_of_getElem? (i := 154) rfl, (List.forall_mem_cons.mpr ⟨List.mem_of_getElem? (i := 155) rfl, (List.forall_mem_cons.mpr ⟨List.mem_of_getElem? (i := 39) rfl, (List.forall_mem_cons.mpr ⟨List.mem_of_getElem? (i := 40) rfl, (List.forall_mem_cons.mpr ⟨List.mem_of_getElem? (i := 41) rfl, (List.forall_mem_cons.mpr ⟨List.mem_of_getElem? (i := 42) rfl, (List.forall_mem_cons.mpr ⟨List.mem_of_getElem? (i := 43) rfl, (List.forall_mem_cons.mpr ⟨List.mem_of_getElem? (i := 44) rfl, (List.forall_mem_cons.mpr ⟨List.mem_of_getElem? (i := 45) rfl, (List.forall_mem_cons.mpr ⟨List.mem_of_getElem? (i := 46) rfl, (List.forall_mem_cons.mpr ⟨List.mem_of_getElem? (i := 47) rfl, (List.forall_mem_cons.mpr ⟨List.mem_of_getElem? (i := 48) rfl, (List.forall_mem_cons.mpr ⟨List.mem_of_getElem? (i := 49) rfl, (List.forall_mem_cons.mpr ⟨List.mem_of_getElem? (i := 50) rfl, (List.forall_mem_cons.mpr ⟨List.mem_of_getElem? (i := 51) rfl, (List.forall_mem_cons.mpr ⟨List.mem_of_getElem? (i := 52) rfl, (List.forall_mem_cons.mpr ⟨List.mem_of_getElem? (i := 236) rfl, (List.forall_mem_cons.mpr ⟨List.mem_of_getElem? (i := 237) rfl, (List.forall_mem_cons.mpr ⟨List.mem_of_getElem? (i := 238) rfl, (List.forall_mem_cons.mpr ⟨List.mem_of_getElem? (i := 239) rfl, (List.forall_mem_cons.mpr ⟨List.mem_of_getElem? (i := 240) rfl, (List.forall_mem_cons.mpr ⟨List.mem_of_getElem? (i := 241) rfl, (List.forall_mem_cons.mpr ⟨List.mem_of_getElem? (i := 242) rfl, (fun _ h => absurd h List.not_mem_nil)⟩)⟩)⟩)⟩)⟩)⟩)⟩)⟩)⟩)⟩)⟩)⟩)⟩)⟩)⟩)⟩)⟩)⟩)⟩)⟩)⟩)⟩)⟩)⟩)
set_option maxRecDepth 20000 in
theorem m_ggL_acts_L_tick_wsL_tick_r4 : ∀ w ∈ wsL_tick_r4, w ∈ wsL_acts := (List.forall_mem_cons.mpr ⟨List.mem_of_getElem? (i := 317) rfl, (List.forall_mem_cons.mpr ⟨List.mem_of_getElem? (i := 318) rfl, (List.forall_mem_cons.mpr ⟨List.mem_of_getElem? (i := 319) rfl, (List.forall_mem_cons.mpr ⟨List.mem_of_getElem? (i := 320) rfl, (List.forall_mem_cons.mpr ⟨List.mem_of_getElem? (i := 305) rfl, (List.forall_mem_cons.mpr ⟨List.mem_of_getElem? (i := 58) rfl, (List.forall_mem_cons.mpr ⟨List.mem_of_getElem? (i := 59) rfl, (List.forall_mem_cons.mpr ⟨List.mem_of_getElem? (i := 60) rfl, (List.forall_mem_cons.mpr ⟨List.mem_of_getElem? (i := 61) rfl, (List.forall_mem_cons.mpr ⟨List.mem_of_getElem? (i := 248) rfl, (List.forall_mem_cons.mpr ⟨List.mem_of_getElem? (i := 249) rfl, (List.forall_mem_cons.mpr ⟨List.mem_of_getElem? (i := 250) rfl, (List.forall_mem_cons.mpr ⟨List.mem_of_getElem? (i := 251) rfl, (List.forall_mem_cons.mpr ⟨List.mem_of_getElem? (i := 306) rfl, (List.forall_mem_cons.mpr ⟨List.mem_of_getElem? (i := 85) rfl, (List.forall_mem_cons.mpr ⟨List.mem_of_getElem? (i := 86) rfl, (List.forall_mem_cons.mpr ⟨List.mem_of_getElem? (i := 88) rfl, (List.forall_mem_cons.mpr ⟨List.mem_of_getElem? (i := 89) rfl, (List.forall_mem_cons.mpr ⟨List.mem_of_getElem? (i := 90) rfl, (List.forall_mem_cons.mpr ⟨List.mem_of_getElem? (i := 91) rfl, (List.forall_mem_cons.mpr ⟨List.mem_of_getElem? (i := 92) rfl, (List.forall_mem_cons.mpr ⟨List.mem_of_getElem? (i := 93) rfl, (List.forall_mem_cons.mpr ⟨List.mem_of_getElem? (i := 94) rfl, (List.forall_mem_cons.mpr ⟨List.mem_of_getElem? (i := 95) rfl, (fun _ h => absurd h List.not_mem_nil)⟩)⟩)⟩)⟩)⟩)⟩)⟩)⟩)⟩)⟩)⟩)⟩)⟩)⟩)⟩)⟩)⟩)⟩)⟩)⟩)⟩)⟩)⟩)⟩)
set_option maxRecDepth 20000 in
theorem m_ggL_acts_L_tick_wsL_tick_r5 : ∀ w ∈ wsL_tick_r5, w ∈ wsL_acts := (List.forall_mem_cons.mpr ⟨List.mem_of_getElem? (i := 96) rfl, (List.forall_mem_cons.mpr ⟨List.mem_of_getElem? (i := 99) rfl, (List.forall_mem_cons.mpr ⟨List.mem_of_getElem? (i := 100) rfl, (List.forall_mem_cons.mpr ⟨List.mem_of_getElem? (i := 101) rfl, (List.forall_mem_cons.mpr ⟨List.mem_of_getElem? (i := 102) rfl, (List.forall_mem_cons.mpr ⟨List.mem_of_getElem? (i := 103) rfl, (List.forall_mem_cons.mpr ⟨List.mem_of_getElem? (i := 104) rfl, (List.forall_mem_cons.mpr ⟨List.mem_of_getElem? (i := 105) rfl, (List.forall_mem_cons.mpr ⟨List.mem_of_getElem? (i := 106) rfl, (List.forall_mem_cons.mpr ⟨List.mem_of_getElem? (i := 14) rfl, (List.forall_mem_cons.mpr ⟨List.mem_of_getElem? (i := 107) rfl, (List.forall_mem_cons.mpr ⟨List.mem_of_getElem? (i := 20) rfl, (List.forall_mem_cons.mpr ⟨List.mem_of_getElem? (i := 108) rfl, (List.forall_mem_cons.mpr ⟨List.mem_of_getElem? (i := 109) rfl, (List.forall_mem_cons.mpr ⟨List.mem_of_getElem? (i := 110) rfl, (List.forall_mem_cons.mpr ⟨List.mem_of_getElem? (i := 111) rfl, (List.forall_mem_cons.mpr ⟨List.mem_of_getElem? (i := 112) rfl, (List.forall_mem_cons.mpr ⟨List.mem_of_getElem? (i := 113) rfl, (List.forall_mem_cons.mpr ⟨List.mem_of_getElem? (i := 114) rfl, (List.forall_mem_cons.mpr ⟨List.mem_of_getElem? (i := 115) rfl, (List.forall_mem_cons.mpr ⟨List.mem_of_getElem? (i := 116) rfl, (List.forall_mem_cons.mpr ⟨List.mem_of_getElem? (i := 117) rfl, (List.forall_mem_cons.mpr ⟨List.mem_of_getElem? (i := 62) rfl, (List.forall_mem_cons.mpr ⟨List.mem_of_getElem? (i := 63) rfl, (fun _ h => absurd h List.not_mem_nil)⟩)⟩)⟩)⟩)⟩)⟩)⟩)⟩)⟩)⟩)⟩)⟩)⟩)⟩)⟩)⟩)⟩)⟩)⟩)⟩)⟩)⟩)⟩)⟩)
set_option maxRecDepth 20000 in
theorem m_ggL_acts_L_tick_wsL_tick_r6 : ∀ w ∈ wsL_tick_r6, w ∈ wsL_acts := (List.forall_mem_cons.mpr ⟨List.mem_of_getElem? (i := 64) rfl, (List.forall_mem_cons.mpr ⟨List.mem_of_getElem? (i := 65) rfl, (List.forall_mem_cons.mpr ⟨List.mem_of_getElem? (i := 66) rfl, (List.forall_mem_cons.mpr ⟨List.mem_of_getElem? (i := 67) rfl, (List.forall_mem_cons.mpr ⟨List.mem_of_getElem? (i := 307) rfl, (List.forall_mem_cons.mpr ⟨List.mem_of_getElem? (i := 258) rfl, (List.forall_mem_cons.mpr ⟨List.mem_of_getElem? (i := 259) rfl, (List.forall_mem_cons.mpr ⟨List.mem_of_getElem? (i := 260) rfl, (List.forall_mem_cons.mpr ⟨List.mem_of_getElem? (i := 261) rfl, (List.forall_mem_cons.mpr ⟨List.mem_of_getElem? (i := 262) rfl, (List.forall_mem_cons.mpr ⟨List.mem_of_getElem? (i := 263) rfl, (List.forall_mem_cons.mpr ⟨List.mem_of_getElem? (i := 264) rfl, (List.forall_mem_cons.mpr ⟨List.mem_of_getElem? (i := 164) rfl, (List.forall_mem_cons.mpr ⟨List.mem_of_getElem? (i := 128) rfl, (List.forall_mem_cons.mpr ⟨List.mem_of_getElem? (i := 129) rfl, (List.forall_mem_cons.mpr ⟨List.mem_of_getElem? (i := 130) rfl, (List.forall_mem_cons.mpr ⟨List.mem_of_getElem? (i := 265) rfl, (List.forall_mem_cons.mpr ⟨List.mem_of_getElem? (i := 266) rfl, (List.forall_mem_cons.mpr ⟨List.mem_of_getElem? (i := 267) rfl, (List.forall_mem_cons.mpr ⟨List.mem_of_getElem? (i := 268) rfl, (List.forall_mem_cons.mpr ⟨List.mem_of_getElem? (i := 200) rfl, (List.forall_mem_cons.mpr ⟨List.mem_of_getElem? (i := 201) rfl, (List.forall_mem_cons.mpr ⟨List.mem_of_getElem? (i := 202) rfl, (List.forall_mem_cons.mpr ⟨List.mem_of_getElem? (i := 203) rfl, (fun _ h => absurd h List.not_mem_nil)⟩)⟩)⟩)⟩)⟩)⟩)⟩)⟩)⟩)⟩)⟩)⟩)⟩)⟩)⟩)⟩)⟩)⟩)⟩)⟩)⟩)⟩)⟩)⟩)
set_option maxRecDepth 20000 in
theorem m_ggL_acts_L_tick_wsL_tick_r7 : ∀ w ∈ wsL_tick_r7, w ∈ wsL_acts := (List.forall_mem_cons.mpr ⟨List.mem_of_getElem? (i := 204) rfl, (List.forall_mem_cons.mpr ⟨List.mem_of_getElem? (i := 17) rfl, (List.forall_mem_cons.mpr ⟨List.mem_of_getElem? (i := 18) rfl, (List.forall_mem_cons.mpr ⟨List.mem_of_getElem? (i := 19) rfl, (List.forall_mem_cons.mpr ⟨List.mem_of_getElem? (i := 269) rfl, (List.forall_mem_cons.mpr ⟨List.mem_of_getElem? (i := 270) rfl, (List.forall_mem_cons.mpr ⟨List.mem_of_getElem? (i := 271) rfl, (List.forall_mem_cons.mpr ⟨List.mem_of_getElem? (i := 272) rfl, (List.forall_mem_cons.mpr ⟨List.mem_of_getElem? (i := 273) rfl, (List.forall_mem_cons.mpr ⟨List.mem_of_getElem? (i := 274) rfl, (List.forall_mem_cons.mpr ⟨List.mem_of_getElem? (i := 275) rfl, (List.forall_mem_cons.mpr ⟨List.mem_of_getElem? (i := 276) rfl, (List.forall_mem_cons.mpr ⟨List.mem_of_getElem? (i := 277) rfl, (List.forall_mem_cons.mpr ⟨List.mem_of_getElem? (i := 278) rfl, (List.forall_mem_cons.mpr ⟨List.mem_of_getElem? (i := 77) rfl, (List.forall_mem_cons.mpr ⟨List.mem_of_getElem? (i := 279) rfl, (List.forall_mem_cons.mpr ⟨List.mem_of_getElem? (i := 280) rfl, (List.forall_mem_cons.mpr ⟨List.mem_of_getElem? (i := 281) rfl, (List.forall_mem_cons.mpr ⟨List.mem_of_getElem? (i := 282) rfl, (List.forall_mem_cons.mpr ⟨List.mem_of_getElem? (i := 283) rfl, (List.forall_mem_cons.mpr ⟨List.mem_of_getElem? (i := 284) rfl, (List.forall_mem_cons.mpr ⟨List.mem_of_getElem? (i := 285) rfl, (List.forall_mem_cons.mpr ⟨List.mem_of_getElem? (i := 286) rfl, (List.forall_mem_cons.mpr ⟨List.mem_of_getElem? (i := 287) rfl, (fun _ h => absurd h List.not_mem_nil)⟩)⟩)⟩)⟩)⟩)⟩)⟩)⟩)⟩)⟩)⟩)⟩)⟩)⟩)⟩)⟩)⟩)⟩)⟩)⟩)⟩)⟩)⟩)⟩)
set_option maxRecDepth 20000 in
theorem m_ggL_acts_L_tick_wsL_tick_r8 : ∀ w ∈ wsL_tick_r8, w ∈ wsL_acts := (List.forall_mem_cons.mpr ⟨List.mem_of_getElem? (i := 288) rfl, (List.forall_mem_cons.mpr ⟨List.mem_of_getElem? (i := 289) rfl, (List.forall_mem_cons.mpr ⟨List.mem_of_getElem? (i := 290) rfl, (List.forall_mem_cons.mpr ⟨List.mem_of_getElem? (i := 291) rfl, (List.forall_mem_cons.mpr ⟨List.mem_of_getElem? (i := 292) rfl, (List.forall_mem_cons.mpr ⟨List.mem_of_getElem? (i := 293) rfl, (List.forall_mem_cons.mpr ⟨List.mem_of_getElem? (i := 206) rfl, (List.forall_mem_cons.mpr ⟨List.mem_of_getElem? (i := 207) rfl, (List.forall_mem_cons.mpr ⟨List.mem_of_getElem? (i := 208) rfl, (List.forall_mem_cons.mpr ⟨List.mem_of_getElem? (i := 209) rfl, (List.forall_mem_cons.mpr ⟨List.mem_of_getElem? (i := 210) rfl, (List.forall_mem_cons.mpr ⟨List.mem_of_getElem? (i := 211) rfl, (List.forall_mem_cons.mpr ⟨List.mem_of_getElem? (i := 212) rfl, (List.forall_mem_cons.mpr ⟨List.mem_of_getElem? (i := 213) rfl, (List.forall_mem_cons.mpr ⟨List.mem_of_getElem? (i := 214) rfl, (List.forall_mem_cons.mpr ⟨List.mem_of_getElem? (i := 215) rfl, (List.forall_mem_cons.mpr ⟨List.mem_of_getElem? (i := 216) rfl, (List.forall_mem_cons.mpr ⟨List.mem_of_getElem? (i := 217) rfl, (List.forall_mem_cons.mpr ⟨List.mem_of_getElem? (i := 218) rfl, (List.forall_mem_cons.mpr ⟨List.mem_of_getElem? (i := 219) rfl, (List.forall_mem_cons.mpr ⟨List.mem_of_getElem? (i := 220) rfl, (List.forall_mem_cons.mpr ⟨List.mem_of_getElem? (i := 221) rfl, (List.forall_mem_cons.mpr ⟨List.mem_of_getElem? (i := 189) rfl, (List.forall_mem_cons.mpr ⟨List.mem_of_getElem? (i := 190) rfl, (fun _ h => absurd h List.not_mem_nil)⟩)⟩)⟩)⟩)⟩)⟩)⟩)⟩)⟩)⟩)⟩)⟩)⟩)⟩)⟩)⟩)⟩)⟩)⟩)⟩)⟩)⟩)⟩)⟩)
set_option maxRecDepth 20000 in
theorem m_ggL_acts_L_tick_wsL_tick_r9 : ∀ w ∈ wsL_tick_r9, w ∈ wsL_acts := (List.forall_mem_cons.mpr ⟨List.mem_of_getElem? (i := 191) rfl, (List.forall_mem_cons.mpr ⟨List.mem_of_getElem? (i := 222) rfl, (List.forall_mem_cons.mpr ⟨List.mem_of_getElem? (i := 223) rfl, (List.forall_mem_cons.mpr ⟨List.mem_of_getElem? (i := 224) rfl, (List.forall_mem_cons.mpr ⟨List.mem_of_getElem? (i := 225) rfl, (List.forall_mem_cons.mpr ⟨List.mem_of_getElem? (i := 226) rfl, (List.forall_mem_cons.mpr ⟨List.mem_of_getElem? (i := 76) rfl, (List.forall_mem_cons.mpr ⟨List.mem_of_getElem? (i := 78) rfl, (List.forall_mem_cons.mpr ⟨List.mem_of_getElem? (i := 227) rfl, (List.forall_mem_cons.mpr ⟨List.mem_of_getElem? (i := 228) rfl, (List.forall_mem_cons.mpr ⟨List.mem_of_getElem? (i := 229) rfl, (List.forall_mem_cons.mpr ⟨List.mem_of_getElem? (i := 230) rfl, (List.forall_mem_cons.mpr ⟨List.mem_of_getElem? (i := 294) rfl, (List.forall_mem_cons.mpr ⟨List.mem_of_getElem? (i := 295) rfl, (List.forall_mem_cons.mpr ⟨List.mem_of_getElem? (i := 296) rfl, (List.forall_mem_cons.mpr ⟨List.mem_of_getElem? (i := 297) rfl, (List.forall_mem_cons.mpr ⟨List.mem_of_getElem? (i := 173) rfl, (List.forall_mem_cons.mpr ⟨List.mem_of_getElem? (i := 174) rfl, (List.forall_mem_cons.mpr ⟨List.mem_of_getElem? (i := 175) rfl, (List.forall_mem_cons.mpr ⟨List.mem_of_getElem? (i := 176) rfl, (List.forall_mem_cons.mpr ⟨List.mem_of_getElem? (i := 57) rfl, (List.forall_mem_cons.mpr ⟨List.mem_of_getElem? (i := 177) rfl, (List.forall_mem_cons.mpr ⟨List.mem_of_getElem? (i := 178) rfl, (List.forall_mem_cons.mpr ⟨List.mem_of_getElem? (i := 179) rfl, (fun _ h => absurd h List.not_mem_nil)⟩)⟩)⟩)⟩)⟩)⟩)⟩)⟩)⟩)⟩)⟩)⟩)⟩)⟩)⟩)⟩)⟩)⟩)⟩)⟩)⟩)⟩)⟩)⟩)
set_option maxRecDepth 20000 in
theorem m_ggL_acts_L_tick_wsL_tick_r10 : ∀ w ∈ wsL_tick_r10, w ∈ wsL_acts := (List.forall_mem_cons.mpr ⟨List.mem_of_getElem? (i := 180) rfl, (List.forall_mem_cons.mpr ⟨List.mem_of_getElem? (i := 71) rfl, (List.forall_mem_cons.mpr ⟨List.mem_of_getElem? (i := 181) rfl, (List.forall_mem_cons.mpr ⟨List.mem_of_getElem? (i := 74) rfl, (List.forall_mem_cons.mpr ⟨List.mem_of_getElem? (i := 182) rfl, (List.forall_mem_cons.mpr ⟨List.mem_of_getElem? (i := 183) rfl, (List.forall_mem_cons.mpr ⟨List.mem_of_getElem? (i := 184) rfl, (List.forall_mem_cons.mpr ⟨List.mem_of_getElem? (i := 185) rfl, (List.forall_mem_cons.mpr ⟨List.mem_of_getElem? (i := 186) rfl, (List.forall_mem_cons.mpr ⟨List.mem_of_getElem? (i := 187) rfl, (List.forall_mem_cons.mpr ⟨List.mem_of_getElem? (i := 188) rfl, (List.forall_mem_cons.mpr ⟨List.mem_of_getElem? (i := 123) rfl, (List.forall_mem_cons.mpr ⟨List.mem_of_getElem? (i := 124) rfl, (List.forall_mem_cons.mpr ⟨List.mem_of_getElem? (i := 125) rfl, (List.forall_mem_cons.mpr ⟨List.mem_of_getElem? (i := 126) rfl, (List.forall_mem_cons.mpr ⟨List.mem_of_getElem? (i := 127) rfl, (List.forall_mem_cons.mpr ⟨List.mem_of_getElem? (i := 6) rfl, (List.forall_mem_cons.mpr ⟨List.mem_of_getElem? (i := 7) rfl, (List.forall_mem_cons.mpr ⟨List.mem_of_getElem? (i := 8) rfl, (List.forall_mem_cons.mpr ⟨List.mem_of_getElem? (i := 10) rfl, (List.forall_mem_cons.mpr ⟨List.mem_of_getElem? (i := 12) rfl, (List.forall_mem_cons.mpr ⟨List.mem_of_getElem? (i := 13) rfl, (List.forall_mem_cons.mpr ⟨List.mem_of_getElem? (i := 15) rfl, (List.forall_mem_cons.mpr ⟨List.mem_of_getElem? (i := 16) rfl, (fun _ h => absurd h List.not_mem_nil)⟩)⟩)⟩)⟩)⟩)⟩)⟩)⟩)⟩)⟩)⟩)⟩)⟩)⟩)⟩)⟩)⟩)⟩)⟩)⟩)⟩)⟩)⟩)⟩)
set_option maxRecDepth 20000 in
theorem m_ggL_acts_L_tick_wsL_tick_r11 : ∀ w ∈ wsL_tick_r11, w ∈ wsL_acts := (List.forall_mem_cons.mpr ⟨List.mem_of_getElem? (i := 21) rfl, (List.forall_mem_cons.mpr ⟨List.mem_of_getElem? (i := 22) rfl, (List.forall_mem_cons.mpr ⟨List.mem_of_getElem? (i := 23) rfl, (List.forall_mem_cons.mpr ⟨List.mem_of_getElem? (i := 24) rfl, (List.forall_mem_cons.mpr ⟨List.mem_of_getElem? (i := 321) rfl, (List.forall_mem_cons.mpr ⟨List.mem_of_getElem? (i := 322) rfl, (List.forall_mem_cons.mpr ⟨List.mem_of_getElem? (i := 323) rfl, (List.forall_mem_cons.mpr ⟨List.mem_of_getElem? (i := 324) rfl, (List.forall_mem_cons.mpr ⟨List.mem_of_getElem? (i := 325) rfl, (List.forall_mem_cons.mpr ⟨List.mem_of_getElem? (i := 326) rfl, (List.forall_mem_cons.mpr ⟨List.mem_of_getElem? (i := 243) rfl, (List.forall_mem_cons.mpr ⟨List.mem_of_getElem? (i := 244) rfl, (List.forall_mem_cons.mpr ⟨List.mem_of_getElem? (i := 245) rfl, (List.forall_mem_cons.mpr ⟨List.mem_of_getElem? (i := 246) rfl, (List.forall_mem_cons.mpr ⟨List.mem_of_getElem? (i := 247) rfl, (List.forall_mem_cons.mpr ⟨List.mem_of_getElem? (i := 252) rfl, (List.forall_mem_cons.mpr ⟨List.mem_of_getElem? (i := 68) rfl, (List.forall_mem_cons.mpr ⟨List.mem_of_getElem? (i := 69) rfl, (List.forall_mem_cons.mpr ⟨List.mem_of_getElem? (i := 70) rfl, (List.forall_mem_cons.mpr ⟨List.mem_of_getElem? (i := 72) rfl, (List.forall_mem_cons.mpr ⟨List.mem_of_getElem? (i := 73) rfl, (List.forall_mem_cons.mpr ⟨List.mem_of_getElem? (i := 75) rfl, (List.forall_mem_cons.mpr ⟨List.mem_of_getElem? (i := 79) rfl, (List.forall_mem_cons.mpr ⟨List.mem_of_getElem? (i := 80) rfl, (fun _ h => absurd h List.not_mem_nil)⟩)⟩)⟩)⟩)⟩)⟩)⟩)⟩)⟩)⟩)⟩)⟩)⟩)⟩)⟩)⟩)⟩)⟩)⟩)⟩)⟩)⟩)⟩)⟩)
set_option maxRecDepth 20000 in
theorem m_ggL_acts_L_tick_wsL_tick_r12 : ∀ w ∈ wsL_tick_r12, w ∈ wsL_acts := (List.forall_mem_cons.mpr ⟨List.mem_of_getElem? (i := 81) rfl, (List.forall_mem_cons.mpr ⟨List.mem_of_getElem? (i := 82) rfl, (List.forall_mem_cons.mpr ⟨List.mem_of_getElem? (i := 83) rfl, (List.forall_mem_cons.mpr ⟨List.mem_of_getElem? (i := 84) rfl, (List.forall_mem_cons.mpr ⟨List.mem_of_getElem? (i := 253) rfl, (List.forall_mem_cons.mpr ⟨List.mem_of_getElem? (i := 254) rfl, (List.forall_mem_cons.mpr ⟨List.mem_of_getElem? (i := 255) rfl, (List.forall_mem_cons.mpr ⟨List.mem_of_getElem? (i := 256) rfl, (List.forall_mem_cons.mpr ⟨List.mem_of_getElem? (i := 257) rfl, (List.forall_mem_cons.mpr ⟨List.mem_of_getElem? (i := 231) rfl, (List.forall_mem_cons.mpr ⟨List.mem_of_getElem? (i := 232) rfl, (List.forall_mem_cons.mpr ⟨List.mem_of_getElem? (i := 233) rfl, (List.forall_mem_cons.mpr ⟨List.mem_of_getElem? (i := 234) rfl, (List.forall_mem_cons.mpr ⟨List.mem_of_getElem? (i := 235) rfl, (List.forall_mem_cons.mpr ⟨List.mem_of_getElem? (i := 327) rfl, (List.forall_mem_cons.mpr ⟨List.mem_of_getElem? (i := 328) rfl, (List.forall_mem_cons.mpr ⟨List.mem_of_getElem? (i := 329) rfl, (fun _ h => absurd h List.not_mem_nil)⟩)⟩)⟩)⟩)⟩)⟩)⟩)⟩)⟩)⟩)⟩)⟩)⟩)⟩)⟩)⟩)⟩)
set_option maxRecDepth 20000 in
theorem ggL_acts_L_tick : GoodIn wsL_acts wsL_tick := goodIn_sub (List.forall_mem_cons.mpr ⟨List.mem_of_getElem? (i := 310) rfl, (List.forall_mem_append.mpr ⟨(List.forall_mem_append.mpr ⟨(List.forall_mem_append.mpr ⟨(List.forall_mem_append.mpr ⟨(List.forall_mem_append.mpr ⟨(List.forall_mem_append.mpr ⟨(List.forall_mem_append.mpr ⟨m_ggL_acts_L_tick_wsL_tick_r1, (List.forall_mem_append.mpr ⟨m_ggL_acts_L_tick_wsL_tick_r2, (List.forall_mem_append.mpr ⟨m_ggL_acts_L_tick_wsL_tick_r3, (List.forall_mem_append.mpr ⟨m_ggL_acts_L_tick_wsL_tick_r4, (List.forall_mem_append.mpr ⟨m_ggL_acts_L_tick_wsL_tick_r5, (List.forall_mem_append.mpr ⟨m_ggL_acts_L_tick_wsL_tick_r6, (List.forall_mem_append.mpr ⟨m_ggL_acts_L_tick_wsL_tick_r7, (List.forall_mem_append.mpr ⟨m_ggL_acts_L_tick_wsL_tick_r8, (List.forall_mem_append.mpr ⟨m_ggL_acts_L_tick_wsL_tick_r9, (List.forall_mem_append.mpr ⟨m_ggL_acts_L_tick_wsL_tick_r10, (List.forall_mem_append.mpr ⟨m_ggL_acts_L_tick_wsL_tick_r11, m_ggL_acts_L_tick_wsL_tick_r12⟩)⟩)⟩)⟩)⟩)⟩)⟩)⟩)⟩)⟩)⟩), (uin_at (us := wsX50) 330 rfl)⟩), (uin_at (us := wsX40) 336 rfl)⟩), (uin_at (us := wsX30) 347 rfl)⟩), (uin_at (us := wsX20) 351 rfl)⟩), (uin_at (us := wsX10) 348 rfl)⟩), (uin_at (us := wsX00) 354 rfl)⟩)⟩) (by decide +kernel)
set_option maxRecDepth 20000 in
theorem gL_acts_L_tick : GoodIn wsL_acts (va_wsS RL 123 yL_tick wsL_tick) := goodIn_app (goodIn_of _ (by decide +kernel)) ggL_acts_L_tick
theorem dL_acts_0 : decode cL_acts 0 = .ok (.iload_n 1, 1) := by decide +kernel
theorem dL_acts_1 : decode cL_acts 1 = .ok (.bipush 12, 2) := by decide +kernel
theorem dL_acts_3 : decode cL_acts 3 = .ok (.invokestatic 103, 3) := by decide +kernel
theorem dL_acts_6 : decode cL_acts 6 = .ok (.tableswitch 756 0 5 #[38, 184, 349, 426, 591, 719], 38) := by decide +kernel
theorem dL_acts_44 : decode cL_acts 44 = .ok (.iconst 1, 1) := by decide +kernel
theorem dL_acts_45 : decode cL_acts 45 = .ok (.iload_n 2, 1) := by decide +kernel
theorem dL_acts_46 : decode cL_acts 46 = .ok (.iconst 5, 1) := by decide +kernel
theorem dL_acts_47 : decode cL_acts 47 = .ok (.invokestatic 103, 3) := by decide +kernel
theorem dL_acts_50 : decode cL_acts 50 = .ok (.iadd, 1) := by decide +kernel
theorem dL_acts_51 : decode cL_acts 51 = .ok (.istore_n 3, 1) := by decide +kernel
theorem dL_acts_52 : decode cL_acts 52 = .ok (.iload_n 2, 1) := by decide +kernel
theorem dL_acts_53 : decode cL_acts 53 = .ok (.iconst 3, 1) := by decide +kernel
theorem dL_acts_54 : decode cL_acts 54 = .ok (.ishr, 1) := by decide +kernel
theorem dL_acts_55 : decode cL_acts 55 = .ok (.iconst 4, 1) := by decide +kernel
theorem dL_acts_56 : decode cL_acts 56 = .ok (.invokestatic 103, 3) := by decide +kernel
theorem dL_acts_59 : decode cL_acts 59 = .ok (.istore 4, 2) := by decide +kernel
theorem dL_acts_61 : decode cL_acts 61 = .ok (.iload_n 2, 1) := by decide +kernel
theorem dL_acts_62 : decode cL_acts 62 = .ok (.iconst 5, 1) := by decide +kernel
theorem dL_acts_63 : decode cL_acts 63 = .ok (.ishr, 1) := by decide +kernel
theorem dL_acts_64 : decode cL_acts 64 = .ok (.bipush 12, 2) := by decide +kernel
theorem dL_acts_66 : decode cL_acts 66 = .ok (.invokestatic 103, 3) := by decide +kernel
theorem dL_acts_69 : decode cL_acts 69 = .ok (.istore 5, 2) := by decide +kernel
theorem dL_acts_71 : decode cL_acts 71 = .ok (.iload_n 3, 1) := by decide +kernel
theorem dL_acts_72 : decode cL_acts 72 = .ok (.iconst 5, 1) := by decide +kernel
theorem dL_acts_73 : decode cL_acts 73 = .ok (.if_icmp .ne 13, 3) := by decide +kernel
theorem dL_acts_76 : decode cL_acts 76 = .ok (.iload 4, 2) := by decide +kernel
theorem dL_acts_78 : decode cL_acts 78 = .ok (.iconst 3, 1) := by decide +kernel
theorem dL_acts_79 : decode cL_acts 79 = .ok (.if_icmp .ge 7, 3) := by decide +kernel
theorem dL_acts_82 : decode cL_acts 82 = .ok (.iconst 1, 1) := by decide +kernel
theorem dL_acts_83 : decode cL_acts 83 = .ok (.goto 4, 3) := by decide +kernel
theorem dL_acts_86 : decode cL_acts 86 = .ok (.iconst 0, 1) := by decide +kernel
theorem dL_acts_87 : decode cL_acts 87 = .ok (.istore 6, 2) := by decide +kernel
theorem dL_acts_89 : decode cL_acts 89 = .ok (.iload 6, 2) := by decide +kernel
theorem dL_acts_91 : decode cL_acts 91 = .ok (.ifCond .ne 23, 3) := by decide +kernel
theorem dL_acts_94 : decode cL_acts 94 = .ok (.aload_n 0, 1) := by decide +kernel
theorem dL_acts_95 : decode cL_acts 95 = .ok (.iload_n 3, 1) := by decide +kernel
theorem dL_acts_96 : decode cL_acts 96 = .ok (.iload 4, 2) := by decide +kernel
theorem dL_acts_98 : decode cL_acts 98 = .ok (.invokevirtual 87, 3) := by decide +kernel
theorem dL_acts_101 : decode cL_acts 101 = .ok (.iload 5, 2) := by decide +kernel
theorem dL_acts_103 : decode cL_acts 103 = .ok (.invokestatic 72, 3) := by decide +kernel
theorem dL_acts_106 : decode cL_acts 106 = .ok (.fcmp .l, 1) := by decide +kernel
theorem dL_acts_107 : decode cL_acts 107 = .ok (.ifCond .ne 7, 3) := by decide +kernel
theorem dL_acts_110 : decode cL_acts 110 = .ok (.iconst 1, 1) := by decide +kernel
theorem dL_acts_111 : decode cL_acts 111 = .ok (.goto 4, 3) := by decide +kernel
theorem dL_acts_114 : decode cL_acts 114 = .ok (.iconst 0, 1) := by decide +kernel
theorem dL_acts_115 : decode cL_acts 115 = .ok (.istore 7, 2) := by decide +kernel
theorem dL_acts_117 : decode cL_acts 117 = .ok (.iload_n 2, 1) := by decide +kernel
theorem dL_acts_118 : decode cL_acts 118 = .ok (.bipush 9, 2) := by decide +kernel
theorem dL_acts_120 : decode cL_acts 120 = .ok (.ishr, 1) := by decide +kernel
theorem dL_acts_121 : decode cL_acts 121 = .ok (.iconst 3, 1) := by decide +kernel
theorem dL_acts_122 : decode cL_acts 122 = .ok (.invokestatic 103, 3) := by decide +kernel
theorem dL_acts_125 : decode cL_acts 125 = .ok (.ifCond .gt 59, 3) := by decide +kernel
theorem dL_acts_128 : decode cL_acts 128 = .ok (.aload_n 0, 1) := by decide +kernel
theorem dL_acts_129 : decode cL_acts 129 = .ok (.iload_n 3, 1) := by decide +kernel
theorem dL_acts_130 : decode cL_acts 130 = .ok (.iload 4, 2) := by decide +kernel
theorem dL_acts_132 : decode cL_acts 132 = .ok (.iload 5, 2) := by decide +kernel
theorem dL_acts_134 : decode cL_acts 134 = .ok (.invokestatic 78, 3) := by decide +kernel
theorem dL_acts_137 : decode cL_acts 137 = .ok (.invokevirtual 106, 3) := by decide +kernel
theorem dL_acts_140 : decode cL_acts 140 = .ok (.iload 6, 2) := by decide +kernel
theorem dL_acts_142 : decode cL_acts 142 = .ok (.ifCond .eq 7, 3) := by decide +kernel
theorem dL_acts_145 : decode cL_acts 145 = .ok (.iconst (-1), 1) := by decide +kernel
theorem dL_acts_146 : decode cL_acts 146 = .ok (.goto 14, 3) := by decide +kernel
theorem dL_acts_149 : decode cL_acts 149 = .ok (.iload 7, 2) := by decide +kernel
theorem dL_acts_151 : decode cL_acts 151 = .ok (.ifCond .eq 8, 3) := by decide +kernel
theorem dL_acts_154 : decode cL_acts 154 = .ok (.bipush (-5), 2) := by decide +kernel
theorem dL_acts_156 : decode cL_acts 156 = .ok (.goto 4, 3) := by decide +kernel
theorem dL_acts_159 : decode cL_acts 159 = .ok (.iconst 1, 1) := by decide +kernel
theorem dL_acts_160 : decode cL_acts 160 = .ok (.if_icmp .ne 28, 3) := by decide +kernel
theorem dL_acts_163 : decode cL_acts 163 = .ok (.iload 6, 2) := by decide +kernel
theorem dL_acts_165 : decode cL_acts 165 = .ok (.ifCond .ne 19, 3) := by decide +kernel
theorem dL_acts_168 : decode cL_acts 168 = .ok (.aload_n 0, 1) := by decide +kernel
theorem dL_acts_169 : decode cL_acts 169 = .ok (.iload_n 3, 1) := by decide +kernel
theorem dL_acts_170 : decode cL_acts 170 = .ok (.iload 4, 2) := by decide +kernel
theorem dL_acts_172 : decode cL_acts 172 = .ok (.invokevirtual 87, 3) := by decide +kernel
theorem dL_acts_175 : decode cL_acts 175 = .ok (.iload 5, 2) := by decide +kernel
theorem dL_acts_177 : decode cL_acts 177 = .ok (.invokestatic 72, 3) := by decide +kernel
theorem dL_acts_180 : decode cL_acts 180 = .ok (.fcmp .l, 1) := by decide +kernel
theorem dL_acts_181 : decode cL_acts 181 = .ok (.ifCond .ne 7, 3) := by decide +kernel
theorem dL_acts_184 : decode cL_acts 184 = .ok (.iconst 1, 1) := by decide +kernel
theorem dL_acts_185 : decode cL_acts 185 = .ok (.goto 4, 3) := by decide +kernel
theorem dL_acts_188 : decode cL_acts 188 = .ok (.iconst 0, 1) := by decide +kernel
theorem dL_acts_189 : decode cL_acts 189 = .ok (.ireturn, 1) := by decide +kernel
theorem dL_acts_190 : decode cL_acts 190 = .ok (.iload_n 2, 1) := by decide +kernel
theorem dL_acts_191 : decode cL_acts 191 = .ok (.iconst 4, 1) := by decide +kernel
theorem dL_acts_192 : decode cL_acts 192 = .ok (.invokestatic 103, 3) := by decide +kernel
theorem dL_acts_195 : decode cL_acts 195 = .ok (.istore_n 3, 1) := by decide +kernel
theorem dL_acts_196 : decode cL_acts 196 = .ok (.iload_n 3, 1) := by decide +kernel
theorem dL_acts_197 : decode cL_acts 197 = .ok (.ifCond .ne 16, 3) := by decide +kernel
theorem dL_acts_200 : decode cL_acts 200 = .ok (.iconst 2, 1) := by decide +kernel
theorem dL_acts_201 : decode cL_acts 201 = .ok (.iload_n 2, 1) := by decide +kernel
theorem dL_acts_202 : decode cL_acts 202 = .ok (.iconst 2, 1) := by decide +kernel
theorem dL_acts_203 : decode cL_acts 203 = .ok (.ishr, 1) := by decide +kernel
theorem dL_acts_204 : decode cL_acts 204 = .ok (.bipush 8, 2) := by decide +kernel
theorem dL_acts_206 : decode cL_acts 206 = .ok (.invokestatic 103, 3) := by decide +kernel
theorem dL_acts_209 : decode cL_acts 209 = .ok (.iadd, 1) := by decide +kernel
theorem dL_acts_210 : decode cL_acts 210 = .ok (.goto 28, 3) := by decide +kernel
theorem dL_acts_213 : decode cL_acts 213 = .ok (.iload_n 3, 1) := by decide +kernel
theorem dL_acts_214 : decode cL_acts 214 = .ok (.iconst 1, 1) := by decide +kernel
theorem dL_acts_215 : decode cL_acts 215 = .ok (.if_icmp .ne 13, 3) := by decide +kernel
theorem dL_acts_218 : decode cL_acts 218 = .ok (.iload_n 2, 1) := by decide +kernel
theorem dL_acts_219 : decode cL_acts 219 = .ok (.iconst 2, 1) := by decide +kernel
theorem dL_acts_220 : decode cL_acts 220 = .ok (.ishr, 1) := by decide +kernel
theorem dL_acts_221 : decode cL_acts 221 = .ok (.iconst 4, 1) := by decide +kernel
theorem dL_acts_222 : decode cL_acts 222 = .ok (.invokestatic 103, 3) := by decide +kernel
theorem dL_acts_225 : decode cL_acts 225 = .ok (.goto 13, 3) := by decide +kernel
theorem dL_acts_228 : decode cL_acts 228 = .ok (.iconst 1, 1) := by decide +kernel
theorem dL_acts_229 : decode cL_acts 229 = .ok (.iload_n 2, 1) := by decide +kernel
theorem dL_acts_230 : decode cL_acts 230 = .ok (.iconst 2, 1) := by decide +kernel
theorem dL_acts_231 : decode cL_acts 231 = .ok (.ishr, 1) := by decide +kernel
theorem dL_acts_232 : decode cL_acts 232 = .ok (.bipush 100, 2) := by decide +kernel
theorem dL_acts_234 : decode cL_acts 234 = .ok (.invokestatic 103, 3) := by decide +kernel
theorem dL_acts_237 : decode cL_acts 237 = .ok (.iadd, 1) := by decide +kernel
theorem dL_acts_238 : decode cL_acts 238 = .ok (.istore 4, 2) := by decide +kernel
theorem dL_acts_240 : decode cL_acts 240 = .ok (.aload_n 0, 1) := by decide +kernel
theorem dL_acts_241 : decode cL_acts 241 = .ok (.iload_n 3, 1) := by decide +kernel
theorem dL_acts_242 : decode cL_acts 242 = .ok (.invokevirtual 44, 3) := by decide +kernel
theorem dL_acts_245 : decode cL_acts 245 = .ok (.istore 5, 2) := by decide +kernel
theorem dL_acts_247 : decode cL_acts 247 = .ok (.iload_n 3, 1) := by decide +kernel
theorem dL_acts_248 : decode cL_acts 248 = .ok (.ifCond .ne 13, 3) := by decide +kernel
theorem dL_acts_251 : decode cL_acts 251 = .ok (.iload 4, 2) := by decide +kernel
theorem dL_acts_253 : decode cL_acts 253 = .ok (.aload_n 0, 1) := by decide +kernel
theorem dL_acts_254 : decode cL_acts 254 = .ok (.iconst 1, 1) := by decide +kernel
theorem dL_acts_255 : decode cL_acts 255 = .ok (.invokevirtual 44, 3) := by decide +kernel
theorem dL_acts_258 : decode cL_acts 258 = .ok (.if_icmp .le 18, 3) := by decide +kernel
theorem dL_acts_261 : decode cL_acts 261 = .ok (.iload_n 3, 1) := by decide +kernel
theorem dL_acts_262 : decode cL_acts 262 = .ok (.iconst 1, 1) := by decide +kernel
theorem dL_acts_263 : decode cL_acts 263 = .ok (.if_icmp .ne 17, 3) := by decide +kernel
theorem dL_acts_266 : decode cL_acts 266 = .ok (.iload 4, 2) := by decide +kernel
theorem dL_acts_268 : decode cL_acts 268 = .ok (.aload_n 0, 1) := by decide +kernel
theorem dL_acts_269 : decode cL_acts 269 = .ok (.iconst 0, 1) := by decide +kernel
theorem dL_acts_270 : decode cL_acts 270 = .ok (.invokevirtual 44, 3) := by decide +kernel
theorem dL_acts_273 : decode cL_acts 273 = .ok (.if_icmp .lt 7, 3) := by decide +kernel
theorem dL_acts_276 : decode cL_acts 276 = .ok (.iconst 1, 1) := by decide +kernel
theorem dL_acts_277 : decode cL_acts 277 = .ok (.goto 4, 3) := by decide +kernel
theorem dL_acts_280 : decode cL_acts 280 = .ok (.iconst 0, 1) := by decide +kernel
theorem dL_acts_281 : decode cL_acts 281 = .ok (.istore 6, 2) := by decide +kernel
theorem dL_acts_283 : decode cL_acts 283 = .ok (.iload_n 3, 1) := by decide +kernel
theorem dL_acts_284 : decode cL_acts 284 = .ok (.iconst 2, 1) := by decide +kernel
theorem dL_acts_285 : decode cL_acts 285 = .ok (.if_icmp .ge 17, 3) := by decide +kernel
theorem dL_acts_288 : decode cL_acts 288 = .ok (.aload_n 0, 1) := by decide +kernel
theorem dL_acts_289 : decode cL_acts 289 = .ok (.iconst 1, 1) := by decide +kernel
theorem dL_acts_290 : decode cL_acts 290 = .ok (.invokevirtual 38, 3) := by decide +kernel
theorem dL_acts_293 : decode cL_acts 293 = .ok (.bipush (-5), 2) := by decide +kernel
theorem dL_acts_295 : decode cL_acts 295 = .ok (.if_icmp .eq 7, 3) := by decide +kernel
theorem dL_acts_298 : decode cL_acts 298 = .ok (.iconst 1, 1) := by decide +kernel
theorem dL_acts_299 : decode cL_acts 299 = .ok (.goto 4, 3) := by decide +kernel
theorem dL_acts_302 : decode cL_acts 302 = .ok (.iconst 0, 1) := by decide +kernel
theorem dL_acts_303 : decode cL_acts 303 = .ok (.istore 7, 2) := by decide +kernel
theorem dL_acts_305 : decode cL_acts 305 = .ok (.aload_n 0, 1) := by decide +kernel
theorem dL_acts_306 : decode cL_acts 306 = .ok (.iload_n 3, 1) := by decide +kernel
theorem dL_acts_307 : decode cL_acts 307 = .ok (.iload 4, 2) := by decide +kernel
theorem dL_acts_309 : decode cL_acts 309 = .ok (.invokevirtual 109, 3) := by decide +kernel
theorem dL_acts_312 : decode cL_acts 312 = .ok (.iload 6, 2) := by decide +kernel
theorem dL_acts_314 : decode cL_acts 314 = .ok (.ifCond .eq 8, 3) := by decide +kernel
theorem dL_acts_317 : decode cL_acts 317 = .ok (.bipush (-2), 2) := by decide +kernel
theorem dL_acts_319 : decode cL_acts 319 = .ok (.goto 27, 3) := by decide +kernel
theorem dL_acts_322 : decode cL_acts 322 = .ok (.iload 7, 2) := by decide +kernel
theorem dL_acts_324 : decode cL_acts 324 = .ok (.ifCond .eq 8, 3) := by decide +kernel
theorem dL_acts_327 : decode cL_acts 327 = .ok (.bipush (-4), 2) := by decide +kernel
theorem dL_acts_329 : decode cL_acts 329 = .ok (.goto 17, 3) := by decide +kernel
theorem dL_acts_332 : decode cL_acts 332 = .ok (.iload 5, 2) := by decide +kernel
theorem dL_acts_334 : decode cL_acts 334 = .ok (.iload 4, 2) := by decide +kernel
theorem dL_acts_336 : decode cL_acts 336 = .ok (.if_icmp .ne 8, 3) := by decide +kernel
theorem dL_acts_339 : decode cL_acts 339 = .ok (.bipush (-5), 2) := by decide +kernel
theorem dL_acts_341 : decode cL_acts 341 = .ok (.goto 5, 3) := by decide +kernel
theorem dL_acts_344 : decode cL_acts 344 = .ok (.iload 5, 2) := by decide +kernel
theorem dL_acts_346 : decode cL_acts 346 = .ok (.if_icmp .ne 7, 3) := by decide +kernel
theorem dL_acts_349 : decode cL_acts 349 = .ok (.iconst 1, 1) := by decide +kernel
theorem dL_acts_350 : decode cL_acts 350 = .ok (.goto 4, 3) := by decide +kernel
theorem dL_acts_353 : decode cL_acts 353 = .ok (.iconst 0, 1) := by decide +kernel
theorem dL_acts_354 : decode cL_acts 354 = .ok (.ireturn, 1) := by decide +kernel
theorem dL_acts_355 : decode cL_acts 355 = .ok (.iload_n 2, 1) := by decide +kernel
theorem dL_acts_356 : decode cL_acts 356 = .ok (.iconst 3, 1) := by decide +kernel
theorem dL_acts_357 : decode cL_acts 357 = .ok (.invokestatic 103, 3) := by decide +kernel
theorem dL_acts_360 : decode cL_acts 360 = .ok (.ifCond .ne 7, 3) := by decide +kernel
theorem dL_acts_363 : decode cL_acts 363 = .ok (.iconst 1, 1) := by decide +kernel
theorem dL_acts_364 : decode cL_acts 364 = .ok (.goto 4, 3) := by decide +kernel
theorem dL_acts_367 : decode cL_acts 367 = .ok (.iconst 0, 1) := by decide +kernel
theorem dL_acts_368 : decode cL_acts 368 = .ok (.istore_n 3, 1) := by decide +kernel
theorem dL_acts_369 : decode cL_acts 369 = .ok (.aload_n 0, 1) := by decide +kernel
theorem dL_acts_370 : decode cL_acts 370 = .ok (.iconst 4, 1) := by decide +kernel
theorem dL_acts_371 : decode cL_acts 371 = .ok (.invokevirtual 38, 3) := by decide +kernel
theorem dL_acts_374 : decode cL_acts 374 = .ok (.istore 4, 2) := by decide +kernel
theorem dL_acts_376 : decode cL_acts 376 = .ok (.aload_n 0, 1) := by decide +kernel
theorem dL_acts_377 : decode cL_acts 377 = .ok (.iload_n 3, 1) := by decide +kernel
theorem dL_acts_378 : decode cL_acts 378 = .ok (.invokevirtual 112, 3) := by decide +kernel
theorem dL_acts_381 : decode cL_acts 381 = .ok (.iload 4, 2) := by decide +kernel
theorem dL_acts_383 : decode cL_acts 383 = .ok (.iconst 1, 1) := by decide +kernel
theorem dL_acts_384 : decode cL_acts 384 = .ok (.if_icmp .ne 7, 3) := by decide +kernel
theorem dL_acts_387 : decode cL_acts 387 = .ok (.iconst 1, 1) := by decide +kernel
theorem dL_acts_388 : decode cL_acts 388 = .ok (.goto 4, 3) := by decide +kernel
theorem dL_acts_391 : decode cL_acts 391 = .ok (.iconst 0, 1) := by decide +kernel
theorem dL_acts_392 : decode cL_acts 392 = .ok (.iload_n 3, 1) := by decide +kernel
theorem dL_acts_393 : decode cL_acts 393 = .ok (.if_icmp .ne 8, 3) := by decide +kernel
theorem dL_acts_396 : decode cL_acts 396 = .ok (.bipush (-5), 2) := by decide +kernel
theorem dL_acts_398 : decode cL_acts 398 = .ok (.goto 8, 3) := by decide +kernel
theorem dL_acts_401 : decode cL_acts 401 = .ok (.aload_n 0, 1) := by decide +kernel
theorem dL_acts_402 : decode cL_acts 402 = .ok (.iconst 0, 1) := by decide +kernel
theorem dL_acts_403 : decode cL_acts 403 = .ok (.invokevirtual 38, 3) := by decide +kernel
theorem dL_acts_406 : decode cL_acts 406 = .ok (.if_icmp .ne 24, 3) := by decide +kernel
theorem dL_acts_409 : decode cL_acts 409 = .ok (.aload_n 0, 1) := by decide +kernel
theorem dL_acts_410 : decode cL_acts 410 = .ok (.iconst 4, 1) := by decide +kernel
theorem dL_acts_411 : decode cL_acts 411 = .ok (.invokevirtual 38, 3) := by decide +kernel
theorem dL_acts_414 : decode cL_acts 414 = .ok (.iload_n 3, 1) := by decide +kernel
theorem dL_acts_415 : decode cL_acts 415 = .ok (.ifCond .eq 7, 3) := by decide +kernel
theorem dL_acts_418 : decode cL_acts 418 = .ok (.iconst 1, 1) := by decide +kernel
theorem dL_acts_419 : decode cL_acts 419 = .ok (.goto 4, 3) := by decide +kernel
theorem dL_acts_422 : decode cL_acts 422 = .ok (.iconst 0, 1) := by decide +kernel
theorem dL_acts_423 : decode cL_acts 423 = .ok (.if_icmp .ne 7, 3) := by decide +kernel
theorem dL_acts_426 : decode cL_acts 426 = .ok (.iconst 1, 1) := by decide +kernel
theorem dL_acts_427 : decode cL_acts 427 = .ok (.goto 4, 3) := by decide +kernel
theorem dL_acts_430 : decode cL_acts 430 = .ok (.iconst 0, 1) := by decide +kernel
theorem dL_acts_431 : decode cL_acts 431 = .ok (.ireturn, 1) := by decide +kernel
theorem dL_acts_432 : decode cL_acts 432 = .ok (.iload_n 2, 1) := by decide +kernel
theorem dL_acts_433 : decode cL_acts 433 = .ok (.iconst 2, 1) := by decide +kernel
theorem dL_acts_434 : decode cL_acts 434 = .ok (.invokestatic 103, 3) := by decide +kernel
theorem dL_acts_437 : decode cL_acts 437 = .ok (.ifCond .ne 7, 3) := by decide +kernel
theorem dL_acts_440 : decode cL_acts 440 = .ok (.iconst 1, 1) := by decide +kernel
theorem dL_acts_441 : decode cL_acts 441 = .ok (.goto 4, 3) := by decide +kernel
theorem dL_acts_444 : decode cL_acts 444 = .ok (.iconst 0, 1) := by decide +kernel
theorem dL_acts_445 : decode cL_acts 445 = .ok (.istore_n 3, 1) := by decide +kernel
theorem dL_acts_446 : decode cL_acts 446 = .ok (.aload_n 0, 1) := by decide +kernel
theorem dL_acts_447 : decode cL_acts 447 = .ok (.iconst 0, 1) := by decide +kernel
theorem dL_acts_448 : decode cL_acts 448 = .ok (.invokevirtual 38, 3) := by decide +kernel
theorem dL_acts_451 : decode cL_acts 451 = .ok (.iload_n 3, 1) := by decide +kernel
theorem dL_acts_452 : decode cL_acts 452 = .ok (.ifCond .eq 7, 3) := by decide +kernel
theorem dL_acts_455 : decode cL_acts 455 = .ok (.iconst 1, 1) := by decide +kernel
theorem dL_acts_456 : decode cL_acts 456 = .ok (.goto 4, 3) := by decide +kernel
theorem dL_acts_459 : decode cL_acts 459 = .ok (.iconst (-1), 1) := by decide +kernel
theorem dL_acts_460 : decode cL_acts 460 = .ok (.iadd, 1) := by decide +kernel
theorem dL_acts_461 : decode cL_acts 461 = .ok (.istore 4, 2) := by decide +kernel
theorem dL_acts_463 : decode cL_acts 463 = .ok (.aload_n 0, 1) := by decide +kernel
theorem dL_acts_464 : decode cL_acts 464 = .ok (.iconst 4, 1) := by decide +kernel
theorem dL_acts_465 : decode cL_acts 465 = .ok (.invokevirtual 38, 3) := by decide +kernel
theorem dL_acts_468 : decode cL_acts 468 = .ok (.iconst 1, 1) := by decide +kernel
theorem dL_acts_469 : decode cL_acts 469 = .ok (.if_icmp .ne 29, 3) := by decide +kernel
theorem dL_acts_472 : decode cL_acts 472 = .ok (.aload_n 0, 1) := by decide +kernel
theorem dL_acts_473 : decode cL_acts 473 = .ok (.iconst 1, 1) := by decide +kernel
theorem dL_acts_474 : decode cL_acts 474 = .ok (.invokevirtual 38, 3) := by decide +kernel
theorem dL_acts_477 : decode cL_acts 477 = .ok (.bipush (-5), 2) := by decide +kernel
theorem dL_acts_479 : decode cL_acts 479 = .ok (.if_icmp .ne 19, 3) := by decide +kernel
theorem dL_acts_482 : decode cL_acts 482 = .ok (.iload 4, 2) := by decide +kernel
theorem dL_acts_484 : decode cL_acts 484 = .ok (.ifCond .le 14, 3) := by decide +kernel
theorem dL_acts_487 : decode cL_acts 487 = .ok (.iload 4, 2) := by decide +kernel
theorem dL_acts_489 : decode cL_acts 489 = .ok (.bipush 6, 2) := by decide +kernel
theorem dL_acts_491 : decode cL_acts 491 = .ok (.if_icmp .ge 7, 3) := by decide +kernel
theorem dL_acts_494 : decode cL_acts 494 = .ok (.iconst 1, 1) := by decide +kernel
theorem dL_acts_495 : decode cL_acts 495 = .ok (.goto 4, 3) := by decide +kernel
theorem dL_acts_498 : decode cL_acts 498 = .ok (.iconst 0, 1) := by decide +kernel
theorem dL_acts_499 : decode cL_acts 499 = .ok (.istore 5, 2) := by decide +kernel
theorem dL_acts_501 : decode cL_acts 501 = .ok (.aload_n 0, 1) := by decide +kernel
theorem dL_acts_502 : decode cL_acts 502 = .ok (.iconst 4, 1) := by decide +kernel
theorem dL_acts_503 : decode cL_acts 503 = .ok (.invokevirtual 57, 3) := by decide +kernel
theorem dL_acts_506 : decode cL_acts 506 = .ok (.istore 6, 2) := by decide +kernel
theorem dL_acts_508 : decode cL_acts 508 = .ok (.aload_n 0, 1) := by decide +kernel
theorem dL_acts_509 : decode cL_acts 509 = .ok (.iload_n 3, 1) := by decide +kernel
theorem dL_acts_510 : decode cL_acts 510 = .ok (.invokevirtual 116, 3) := by decide +kernel
theorem dL_acts_513 : decode cL_acts 513 = .ok (.istore 7, 2) := by decide +kernel
theorem dL_acts_515 : decode cL_acts 515 = .ok (.iload 5, 2) := by decide +kernel
theorem dL_acts_517 : decode cL_acts 517 = .ok (.ifCond .eq 67, 3) := by decide +kernel
theorem dL_acts_520 : decode cL_acts 520 = .ok (.iload 7, 2) := by decide +kernel
theorem dL_acts_522 : decode cL_acts 522 = .ok (.iload 4, 2) := by decide +kernel
theorem dL_acts_524 : decode cL_acts 524 = .ok (.if_icmp .ne 35, 3) := by decide +kernel
theorem dL_acts_527 : decode cL_acts 527 = .ok (.aload_n 0, 1) := by decide +kernel
theorem dL_acts_528 : decode cL_acts 528 = .ok (.iconst 1, 1) := by decide +kernel
theorem dL_acts_529 : decode cL_acts 529 = .ok (.invokevirtual 38, 3) := by decide +kernel
theorem dL_acts_532 : decode cL_acts 532 = .ok (.iload 4, 2) := by decide +kernel
theorem dL_acts_534 : decode cL_acts 534 = .ok (.if_icmp .ne 25, 3) := by decide +kernel
theorem dL_acts_537 : decode cL_acts 537 = .ok (.aload_n 0, 1) := by decide +kernel
theorem dL_acts_538 : decode cL_acts 538 = .ok (.iconst 4, 1) := by decide +kernel
theorem dL_acts_539 : decode cL_acts 539 = .ok (.invokevirtual 57, 3) := by decide +kernel
theorem dL_acts_542 : decode cL_acts 542 = .ok (.iload 6, 2) := by decide +kernel
theorem dL_acts_544 : decode cL_acts 544 = .ok (.iconst 1, 1) := by decide +kernel
theorem dL_acts_545 : decode cL_acts 545 = .ok (.iadd, 1) := by decide +kernel
theorem dL_acts_546 : decode cL_acts 546 = .ok (.if_icmp .ne 13, 3) := by decide +kernel
theorem dL_acts_549 : decode cL_acts 549 = .ok (.aload_n 0, 1) := by decide +kernel
theorem dL_acts_550 : decode cL_acts 550 = .ok (.iconst 0, 1) := by decide +kernel
theorem dL_acts_551 : decode cL_acts 551 = .ok (.iconst 3, 1) := by decide +kernel
theorem dL_acts_552 : decode cL_acts 552 = .ok (.invokevirtual 68, 3) := by decide +kernel
theorem dL_acts_555 : decode cL_acts 555 = .ok (.iconst 3, 1) := by decide +kernel
theorem dL_acts_556 : decode cL_acts 556 = .ok (.if_icmp .eq 20, 3) := by decide +kernel
theorem dL_acts_559 : decode cL_acts 559 = .ok (.iload 7, 2) := by decide +kernel
theorem dL_acts_561 : decode cL_acts 561 = .ok (.bipush (-4), 2) := by decide +kernel
theorem dL_acts_563 : decode cL_acts 563 = .ok (.if_icmp .ne 17, 3) := by decide +kernel
theorem dL_acts_566 : decode cL_acts 566 = .ok (.aload_n 0, 1) := by decide +kernel
theorem dL_acts_567 : decode cL_acts 567 = .ok (.iconst 4, 1) := by decide +kernel
theorem dL_acts_568 : decode cL_acts 568 = .ok (.invokevirtual 57, 3) := by decide +kernel
theorem dL_acts_571 : decode cL_acts 571 = .ok (.iload 6, 2) := by decide +kernel
theorem dL_acts_573 : decode cL_acts 573 = .ok (.if_icmp .ne 7, 3) := by decide +kernel
theorem dL_acts_576 : decode cL_acts 576 = .ok (.iconst 1, 1) := by decide +kernel
theorem dL_acts_577 : decode cL_acts 577 = .ok (.goto 19, 3) := by decide +kernel
theorem dL_acts_580 : decode cL_acts 580 = .ok (.iconst 0, 1) := by decide +kernel
theorem dL_acts_581 : decode cL_acts 581 = .ok (.goto 15, 3) := by decide +kernel
theorem dL_acts_584 : decode cL_acts 584 = .ok (.iload 7, 2) := by decide +kernel
theorem dL_acts_586 : decode cL_acts 586 = .ok (.bipush (-4), 2) := by decide +kernel
theorem dL_acts_588 : decode cL_acts 588 = .ok (.if_icmp .ne 7, 3) := by decide +kernel
theorem dL_acts_591 : decode cL_acts 591 = .ok (.iconst 1, 1) := by decide +kernel
theorem dL_acts_592 : decode cL_acts 592 = .ok (.goto 4, 3) := by decide +kernel
theorem dL_acts_595 : decode cL_acts 595 = .ok (.iconst 0, 1) := by decide +kernel
theorem dL_acts_596 : decode cL_acts 596 = .ok (.ireturn, 1) := by decide +kernel
theorem dL_acts_597 : decode cL_acts 597 = .ok (.iload_n 2, 1) := by decide +kernel
theorem dL_acts_598 : decode cL_acts 598 = .ok (.bipush 12, 2) := by decide +kernel
theorem dL_acts_600 : decode cL_acts 600 = .ok (.invokestatic 103, 3) := by decide +kernel
theorem dL_acts_603 : decode cL_acts 603 = .ok (.istore_n 3, 1) := by decide +kernel
theorem dL_acts_604 : decode cL_acts 604 = .ok (.iload_n 2, 1) := by decide +kernel
theorem dL_acts_605 : decode cL_acts 605 = .ok (.iconst 4, 1) := by decide +kernel
theorem dL_acts_606 : decode cL_acts 606 = .ok (.ishr, 1) := by decide +kernel
theorem dL_acts_607 : decode cL_acts 607 = .ok (.iconst 5, 1) := by decide +kernel
theorem dL_acts_608 : decode cL_acts 608 = .ok (.invokestatic 103, 3) := by decide +kernel
theorem dL_acts_611 : decode cL_acts 611 = .ok (.istore 4, 2) := by decide +kernel
theorem dL_acts_613 : decode cL_acts 613 = .ok (.iconst 1, 1) := by decide +kernel
theorem dL_acts_614 : decode cL_acts 614 = .ok (.iload_n 2, 1) := by decide +kernel
theorem dL_acts_615 : decode cL_acts 615 = .ok (.bipush 7, 2) := by decide +kernel
theorem dL_acts_617 : decode cL_acts 617 = .ok (.ishr, 1) := by decide +kernel
theorem dL_acts_618 : decode cL_acts 618 = .ok (.bipush 30, 2) := by decide +kernel
theorem dL_acts_620 : decode cL_acts 620 = .ok (.invokestatic 103, 3) := by decide +kernel
theorem dL_acts_623 : decode cL_acts 623 = .ok (.iadd, 1) := by decide +kernel
theorem dL_acts_624 : decode cL_acts 624 = .ok (.istore 5, 2) := by decide +kernel
theorem dL_acts_626 : decode cL_acts 626 = .ok (.aload_n 0, 1) := by decide +kernel
theorem dL_acts_627 : decode cL_acts 627 = .ok (.iconst 0, 1) := by decide +kernel
theorem dL_acts_628 : decode cL_acts 628 = .ok (.invokevirtual 57, 3) := by decide +kernel
theorem dL_acts_631 : decode cL_acts 631 = .ok (.istore 6, 2) := by decide +kernel
theorem dL_acts_633 : decode cL_acts 633 = .ok (.aload_n 0, 1) := by decide +kernel
theorem dL_acts_634 : decode cL_acts 634 = .ok (.iconst 1, 1) := by decide +kernel
theorem dL_acts_635 : decode cL_acts 635 = .ok (.invokevirtual 57, 3) := by decide +kernel
theorem dL_acts_638 : decode cL_acts 638 = .ok (.aload_n 0, 1) := by decide +kernel
theorem dL_acts_639 : decode cL_acts 639 = .ok (.iconst 2, 1) := by decide +kernel
theorem dL_acts_640 : decode cL_acts 640 = .ok (.invokevirtual 57, 3) := by decide +kernel
theorem dL_acts_643 : decode cL_acts 643 = .ok (.iadd, 1) := by decide +kernel
theorem dL_acts_644 : decode cL_acts 644 = .ok (.aload_n 0, 1) := by decide +kernel
theorem dL_acts_645 : decode cL_acts 645 = .ok (.iconst 3, 1) := by decide +kernel
theorem dL_acts_646 : decode cL_acts 646 = .ok (.invokevirtual 57, 3) := by decide +kernel
theorem dL_acts_649 : decode cL_acts 649 = .ok (.iadd, 1) := by decide +kernel
theorem dL_acts_650 : decode cL_acts 650 = .ok (.aload_n 0, 1) := by decide +kernel
theorem dL_acts_651 : decode cL_acts 651 = .ok (.iconst 5, 1) := by decide +kernel
theorem dL_acts_652 : decode cL_acts 652 = .ok (.invokevirtual 57, 3) := by decide +kernel
theorem dL_acts_655 : decode cL_acts 655 = .ok (.iadd, 1) := by decide +kernel
theorem dL_acts_656 : decode cL_acts 656 = .ok (.istore 7, 2) := by decide +kernel
theorem dL_acts_658 : decode cL_acts 658 = .ok (.aload_n 0, 1) := by decide +kernel
theorem dL_acts_659 : decode cL_acts 659 = .ok (.iload_n 3, 1) := by decide +kernel
theorem dL_acts_660 : decode cL_acts 660 = .ok (.invokestatic 78, 3) := by decide +kernel
theorem dL_acts_663 : decode cL_acts 663 = .ok (.iload 4, 2) := by decide +kernel
theorem dL_acts_665 : decode cL_acts 665 = .ok (.invokestatic 81, 3) := by decide +kernel
theorem dL_acts_668 : decode cL_acts 668 = .ok (.iload 5, 2) := by decide +kernel
theorem dL_acts_670 : decode cL_acts 670 = .ok (.invokevirtual 95, 3) := by decide +kernel
theorem dL_acts_673 : decode cL_acts 673 = .ok (.istore 8, 2) := by decide +kernel
theorem dL_acts_675 : decode cL_acts 675 = .ok (.aload_n 0, 1) := by decide +kernel
theorem dL_acts_676 : decode cL_acts 676 = .ok (.iconst 0, 1) := by decide +kernel
theorem dL_acts_677 : decode cL_acts 677 = .ok (.invokevirtual 57, 3) := by decide +kernel
theorem dL_acts_680 : decode cL_acts 680 = .ok (.iload 6, 2) := by decide +kernel
theorem dL_acts_682 : decode cL_acts 682 = .ok (.iload 5, 2) := by decide +kernel
theorem dL_acts_684 : decode cL_acts 684 = .ok (.iadd, 1) := by decide +kernel
theorem dL_acts_685 : decode cL_acts 685 = .ok (.if_icmp .ne 38, 3) := by decide +kernel
theorem dL_acts_688 : decode cL_acts 688 = .ok (.aload_n 0, 1) := by decide +kernel
theorem dL_acts_689 : decode cL_acts 689 = .ok (.iconst 1, 1) := by decide +kernel
theorem dL_acts_690 : decode cL_acts 690 = .ok (.invokevirtual 57, 3) := by decide +kernel
theorem dL_acts_693 : decode cL_acts 693 = .ok (.aload_n 0, 1) := by decide +kernel
theorem dL_acts_694 : decode cL_acts 694 = .ok (.iconst 2, 1) := by decide +kernel
theorem dL_acts_695 : decode cL_acts 695 = .ok (.invokevirtual 57, 3) := by decide +kernel
theorem dL_acts_698 : decode cL_acts 698 = .ok (.iadd, 1) := by decide +kernel
theorem dL_acts_699 : decode cL_acts 699 = .ok (.aload_n 0, 1) := by decide +kernel
theorem dL_acts_700 : decode cL_acts 700 = .ok (.iconst 3, 1) := by decide +kernel
theorem dL_acts_701 : decode cL_acts 701 = .ok (.invokevirtual 57, 3) := by decide +kernel
theorem dL_acts_704 : decode cL_acts 704 = .ok (.iadd, 1) := by decide +kernel
theorem dL_acts_705 : decode cL_acts 705 = .ok (.aload_n 0, 1) := by decide +kernel
theorem dL_acts_706 : decode cL_acts 706 = .ok (.iconst 5, 1) := by decide +kernel
theorem dL_acts_707 : decode cL_acts 707 = .ok (.invokevirtual 57, 3) := by decide +kernel
theorem dL_acts_710 : decode cL_acts 710 = .ok (.iadd, 1) := by decide +kernel
theorem dL_acts_711 : decode cL_acts 711 = .ok (.iload 7, 2) := by decide +kernel
theorem dL_acts_713 : decode cL_acts 713 = .ok (.iload 8, 2) := by decide +kernel
theorem dL_acts_715 : decode cL_acts 715 = .ok (.iadd, 1) := by decide +kernel
theorem dL_acts_716 : decode cL_acts 716 = .ok (.if_icmp .ne 7, 3) := by decide +kernel
theorem dL_acts_719 : decode cL_acts 719 = .ok (.iconst 1, 1) := by decide +kernel
theorem dL_acts_720 : decode cL_acts 720 = .ok (.goto 4, 3) := by decide +kernel
theorem dL_acts_723 : decode cL_acts 723 = .ok (.iconst 0, 1) := by decide +kernel
theorem dL_acts_724 : decode cL_acts 724 = .ok (.ireturn, 1) := by decide +kernel
theorem dL_acts_725 : decode cL_acts 725 = .ok (.iload_n 2, 1) := by decide +kernel
theorem dL_acts_726 : decode cL_acts 726 = .ok (.iconst 3, 1) := by decide +kernel
theorem dL_acts_727 : decode cL_acts 727 = .ok (.invokestatic 103, 3) := by decide +kernel
theorem dL_acts_730 : decode cL_acts 730 = .ok (.ifCond .gt 26, 3) := by decide +kernel
theorem dL_acts_733 : decode cL_acts 733 = .ok (.aload_n 0, 1) := by decide +kernel
theorem dL_acts_734 : decode cL_acts 734 = .ok (.iload_n 2, 1) := by decide +kernel
theorem dL_acts_735 : decode cL_acts 735 = .ok (.iconst 2, 1) := by decide +kernel
theorem dL_acts_736 : decode cL_acts 736 = .ok (.ishr, 1) := by decide +kernel
theorem dL_acts_737 : decode cL_acts 737 = .ok (.bipush 12, 2) := by decide +kernel
theorem dL_acts_739 : decode cL_acts 739 = .ok (.invokestatic 103, 3) := by decide +kernel
theorem dL_acts_742 : decode cL_acts 742 = .ok (.iload_n 2, 1) := by decide +kernel
theorem dL_acts_743 : decode cL_acts 743 = .ok (.bipush 6, 2) := by decide +kernel
theorem dL_acts_745 : decode cL_acts 745 = .ok (.ishr, 1) := by decide +kernel
theorem dL_acts_746 : decode cL_acts 746 = .ok (.iconst 5, 1) := by decide +kernel
theorem dL_acts_747 : decode cL_acts 747 = .ok (.invokestatic 103, 3) := by decide +kernel
theorem dL_acts_750 : decode cL_acts 750 = .ok (.invokestatic 119, 3) := by decide +kernel
theorem dL_acts_753 : decode cL_acts 753 = .ok (.ifCond .eq 7, 3) := by decide +kernel
theorem dL_acts_756 : decode cL_acts 756 = .ok (.iconst 1, 1) := by decide +kernel
theorem dL_acts_757 : decode cL_acts 757 = .ok (.goto 4, 3) := by decide +kernel
theorem dL_acts_760 : decode cL_acts 760 = .ok (.iconst 0, 1) := by decide +kernel
theorem dL_acts_761 : decode cL_acts 761 = .ok (.ireturn, 1) := by decide +kernel
theorem dL_acts_762 : decode cL_acts 762 = .ok (.aload_n 0, 1) := by decide +kernel
end
section
theorem dL_acts_763 : decode cL_acts 763 = .ok (.iload_n 2, 1) := by decide +kernel
theorem dL_acts_764 : decode cL_acts 764 = .ok (.bipush 12, 2) := by decide +kernel
theorem dL_acts_766 : decode cL_acts 766 = .ok (.invokestatic 103, 3) := by decide +kernel
theorem dL_acts_769 : decode cL_acts 769 = .ok (.iload_n 2, 1) := by decide +kernel
theorem dL_acts_770 : decode cL_acts 770 = .ok (.iconst 4, 1) := by decide +kernel
theorem dL_acts_771 : decode cL_acts 771 = .ok (.ishr, 1) := by decide +kernel
theorem dL_acts_772 : decode cL_acts 772 = .ok (.iconst 5, 1) := by decide +kernel
theorem dL_acts_773 : decode cL_acts 773 = .ok (.invokestatic 103, 3) := by decide +kernel
theorem dL_acts_776 : decode cL_acts 776 = .ok (.invokestatic 123, 3) := by decide +kernel
theorem dL_acts_779 : decode cL_acts 779 = .ok (.ireturn, 1) := by decide +kernel
set_option maxRecDepth 20000 in
theorem ggL_settles_L_speed : GoodIn wsL_settles wsL_speed := goodIn_r _ [4, 5, 6, 7, 8, 9, 10, 11, 12, 13, 14, 15] (by decide +kernel) (by decide +kernel)
set_option maxRecDepth 20000 in
theorem gL_settles_L_speed : GoodIn wsL_settles (va_wsS RL 78 yL_speed wsL_speed) := goodIn_app (goodIn_of _ (by decide +kernel)) ggL_settles_L_speed
set_option maxRecDepth 20000 in
theorem ggL_settles_L_pedal : GoodIn wsL_settles wsL_pedal := goodIn_r _ [18, 19, 20, 21, 22] (by decide +kernel) (by decide +kernel)
set_option maxRecDepth 20000 in
theorem gL_settles_L_pedal : GoodIn wsL_settles (va_wsS RL 81 yL_pedal wsL_pedal) := goodIn_app (goodIn_of _ (by decide +kernel)) ggL_settles_L_pedal
set_option maxRecDepth 20000 in
theorem ggL_settles_X5_settles : GoodIn wsL_settles wsX5_settles := goodIn_r _ [27, 28, 29, 30, 31, 26, 32, 33, 34, 35, 36, 37, 38, 39, 40, 41, 42, 43, 44, 45, 46, 47, 48, 49, 50, 51, 52, 53, 54, 55, 56, 57, 58, 59, 60, 61, 62, 63, 64, 65, 66, 67, 68, 69, 70, 71, 72, 73, 74, 75, 76, 77, 78, 79, 80, 81, 82, 83, 84, 85, 86, 87, 88, 89, 90, 91, 92, 93, 94, 95, 96, 97, 98, 99, 100, 101, 102, 103, 104, 105, 106, 107, 108, 109, 110, 111, 112, 113, 114, 115, 116, 117, 118, 119, 120, 121, 122, 123, 124, 125, 126, 127, 128, 129, 130, 131, 132, 133, 134, 135, 136, 137, 138, 139, 140, 141, 142, 143, 144, 145, 146, 147, 148, 149, 150, 151, 152, 153, 154, 155, 156, 157, 158, 159, 160, 161, 162, 163, 164, 165, 166, 167, 194, 195, 196, 197, 198, 199, 200, 201, 202, 203, 204, 205, 206, 207, 208, 209, 210, 211, 212, 213, 214] (by decide +kernel) (by decide +kernel)
set_option maxRecDepth 20000 in
theorem gL_settles_X5_settles : GoodIn wsL_settles (wsV RL 126 RX5 yX5_settles wsX5_settles) := goodIn_app (goodIn_of _ (by decide +kernel)) ggL_settles_X5_settles
set_option maxRecDepth 20000 in
theorem ggL_settles_X5_drive : GoodIn wsL_settles wsX5_drive := goodIn_r _ [171, 29, 172, 173, 30, 31, 26, 32, 33, 34, 35, 36, 37, 174, 146, 147, 41, 148, 149, 150, 151, 152, 45, 175, 176, 177, 178, 179, 180, 181, 182, 158, 118, 159, 183, 184, 185, 186, 187, 188, 39, 40, 42, 43, 44, 46, 47, 48, 49, 50, 51, 52, 53, 54, 55, 56, 57, 58, 59, 60, 61, 62, 63, 64, 65, 66, 67, 68, 69, 70, 71, 72, 73, 74, 75, 76, 77, 78, 79, 189, 190, 191, 192, 193, 81, 82, 83, 84, 85, 86, 87, 88, 89, 90, 91, 92, 93, 94, 95, 96, 97, 98, 99, 100, 101, 102, 103, 104, 105, 106, 107, 108, 109, 110, 111, 112, 113, 114, 115, 116, 117, 119, 120, 121, 122, 123, 124, 125, 126, 127, 128, 129, 130, 131, 132, 133, 134, 135, 136, 137, 138, 139, 140, 141, 142, 143, 144, 145, 153, 154, 155, 156, 157, 160, 161, 162, 163, 164, 165, 166, 167, 194, 195, 196, 197, 198, 199, 200, 201, 202, 203, 204, 205, 206, 207, 208, 209, 210, 215, 216, 217, 211, 212, 213, 214] (by decide +kernel) (by decide +kernel)
set_option maxRecDepth 20000 in
theorem gL_settles_X5_drive : GoodIn wsL_settles (wsV RL 95 RX5 yX5_drive wsX5_drive) := goodIn_app (goodIn_of _ (by decide +kernel)) ggL_settles_X5_drive
theorem dL_settles_0 : decode cL_settles 0 = .ok (.aload_n 0, 1) := by decide +kernel
theorem dL_settles_1 : decode cL_settles 1 = .ok (.iload_n 1, 1) := by decide +kernel
theorem dL_settles_2 : decode cL_settles 2 = .ok (.invokestatic 78, 3) := by decide +kernel
theorem dL_settles_5 : decode cL_settles 5 = .ok (.iload_n 2, 1) := by decide +kernel
theorem dL_settles_6 : decode cL_settles 6 = .ok (.invokestatic 81, 3) := by decide +kernel
theorem dL_settles_9 : decode cL_settles 9 = .ok (.invokevirtual 126, 3) := by decide +kernel
theorem dL_settles_12 : decode cL_settles 12 = .ok (.istore_n 3, 1) := by decide +kernel
theorem dL_settles_13 : decode cL_settles 13 = .ok (.iload_n 3, 1) := by decide +kernel
theorem dL_settles_14 : decode cL_settles 14 = .ok (.iconst 1, 1) := by decide +kernel
theorem dL_settles_15 : decode cL_settles 15 = .ok (.if_icmp .lt 9, 3) := by decide +kernel
theorem dL_settles_18 : decode cL_settles 18 = .ok (.iload_n 3, 1) := by decide +kernel
theorem dL_settles_19 : decode cL_settles 19 = .ok (.bipush 99, 2) := by decide +kernel
theorem dL_settles_21 : decode cL_settles 21 = .ok (.if_icmp .le 30, 3) := by decide +kernel
theorem dL_settles_24 : decode cL_settles 24 = .ok (.iload_n 3, 1) := by decide +kernel
theorem dL_settles_25 : decode cL_settles 25 = .ok (.ifCond .ne 20, 3) := by decide +kernel
theorem dL_settles_28 : decode cL_settles 28 = .ok (.aload_n 0, 1) := by decide +kernel
theorem dL_settles_29 : decode cL_settles 29 = .ok (.iload_n 1, 1) := by decide +kernel
theorem dL_settles_30 : decode cL_settles 30 = .ok (.invokestatic 78, 3) := by decide +kernel
theorem dL_settles_33 : decode cL_settles 33 = .ok (.iload_n 2, 1) := by decide +kernel
theorem dL_settles_34 : decode cL_settles 34 = .ok (.invokestatic 81, 3) := by decide +kernel
theorem dL_settles_37 : decode cL_settles 37 = .ok (.bipush 99, 2) := by decide +kernel
theorem dL_settles_39 : decode cL_settles 39 = .ok (.invokevirtual 95, 3) := by decide +kernel
theorem dL_settles_42 : decode cL_settles 42 = .ok (.ifCond .ne 7, 3) := by decide +kernel
theorem dL_settles_45 : decode cL_settles 45 = .ok (.iconst 1, 1) := by decide +kernel
theorem dL_settles_46 : decode cL_settles 46 = .ok (.goto 4, 3) := by decide +kernel
theorem dL_settles_49 : decode cL_settles 49 = .ok (.iconst 0, 1) := by decide +kernel
theorem dL_settles_50 : decode cL_settles 50 = .ok (.ireturn, 1) := by decide +kernel
theorem dL_settles_51 : decode cL_settles 51 = .ok (.iload_n 3, 1) := by decide +kernel
theorem dL_settles_52 : decode cL_settles 52 = .ok (.iconst 1, 1) := by decide +kernel
theorem dL_settles_53 : decode cL_settles 53 = .ok (.if_icmp .le 21, 3) := by decide +kernel
theorem dL_settles_56 : decode cL_settles 56 = .ok (.aload_n 0, 1) := by decide +kernel
theorem dL_settles_57 : decode cL_settles 57 = .ok (.iload_n 1, 1) := by decide +kernel
theorem dL_settles_58 : decode cL_settles 58 = .ok (.invokestatic 78, 3) := by decide +kernel
theorem dL_settles_61 : decode cL_settles 61 = .ok (.iload_n 2, 1) := by decide +kernel
theorem dL_settles_62 : decode cL_settles 62 = .ok (.invokestatic 81, 3) := by decide +kernel
theorem dL_settles_65 : decode cL_settles 65 = .ok (.iload_n 3, 1) := by decide +kernel
theorem dL_settles_66 : decode cL_settles 66 = .ok (.iconst 1, 1) := by decide +kernel
theorem dL_settles_67 : decode cL_settles 67 = .ok (.isub, 1) := by decide +kernel
theorem dL_settles_68 : decode cL_settles 68 = .ok (.invokevirtual 95, 3) := by decide +kernel
theorem dL_settles_71 : decode cL_settles 71 = .ok (.goto 4, 3) := by decide +kernel
theorem dL_settles_74 : decode cL_settles 74 = .ok (.iconst 0, 1) := by decide +kernel
theorem dL_settles_75 : decode cL_settles 75 = .ok (.istore 4, 2) := by decide +kernel
theorem dL_settles_77 : decode cL_settles 77 = .ok (.iload 4, 2) := by decide +kernel
theorem dL_settles_79 : decode cL_settles 79 = .ok (.ifCond .lt 41, 3) := by decide +kernel
theorem dL_settles_82 : decode cL_settles 82 = .ok (.aload_n 0, 1) := by decide +kernel
theorem dL_settles_83 : decode cL_settles 83 = .ok (.iload_n 1, 1) := by decide +kernel
theorem dL_settles_84 : decode cL_settles 84 = .ok (.invokestatic 78, 3) := by decide +kernel
theorem dL_settles_87 : decode cL_settles 87 = .ok (.iload_n 2, 1) := by decide +kernel
theorem dL_settles_88 : decode cL_settles 88 = .ok (.invokestatic 81, 3) := by decide +kernel
theorem dL_settles_91 : decode cL_settles 91 = .ok (.iconst 1, 1) := by decide +kernel
theorem dL_settles_92 : decode cL_settles 92 = .ok (.invokevirtual 95, 3) := by decide +kernel
theorem dL_settles_95 : decode cL_settles 95 = .ok (.iconst 1, 1) := by decide +kernel
theorem dL_settles_96 : decode cL_settles 96 = .ok (.if_icmp .ne 24, 3) := by decide +kernel
theorem dL_settles_99 : decode cL_settles 99 = .ok (.aload_n 0, 1) := by decide +kernel
theorem dL_settles_100 : decode cL_settles 100 = .ok (.iload_n 1, 1) := by decide +kernel
theorem dL_settles_101 : decode cL_settles 101 = .ok (.invokestatic 78, 3) := by decide +kernel
theorem dL_settles_104 : decode cL_settles 104 = .ok (.iload_n 2, 1) := by decide +kernel
theorem dL_settles_105 : decode cL_settles 105 = .ok (.invokestatic 81, 3) := by decide +kernel
theorem dL_settles_108 : decode cL_settles 108 = .ok (.bipush 99, 2) := by decide +kernel
theorem dL_settles_110 : decode cL_settles 110 = .ok (.invokevirtual 95, 3) := by decide +kernel
theorem dL_settles_113 : decode cL_settles 113 = .ok (.ifCond .ne 7, 3) := by decide +kernel
theorem dL_settles_116 : decode cL_settles 116 = .ok (.iconst 1, 1) := by decide +kernel
theorem dL_settles_117 : decode cL_settles 117 = .ok (.goto 4, 3) := by decide +kernel
theorem dL_settles_120 : decode cL_settles 120 = .ok (.iconst 0, 1) := by decide +kernel
theorem dL_settles_121 : decode cL_settles 121 = .ok (.ireturn, 1) := by decide +kernel
set_option maxRecDepth 20000 in
theorem ggL_errors_X5_setMap : GoodIn wsL_errors wsX5_setMap := goodIn_r _ [9, 10, 11, 12, 13, 14, 15, 16, 17, 8, 18, 19, 20, 21, 22, 23, 24, 25, 26, 27, 28, 29, 30, 31, 32, 33, 34, 35, 36, 37, 38, 39, 40, 41, 42, 43, 44, 45, 46, 47, 48, 49, 50, 51, 52, 53, 54, 55, 56, 57, 58, 59, 60, 61, 62, 63, 64, 65, 66, 67, 68, 69, 70, 71, 72, 73, 74, 75, 76, 77, 78, 79, 80, 81, 82, 83, 84, 85, 334, 335, 336, 337, 338, 339, 340, 341, 342, 343, 344, 345, 346, 347, 348, 349, 350, 351, 352, 353, 354, 355, 356, 357] (by decide +kernel) (by decide +kernel)
set_option maxRecDepth 20000 in
theorem gL_errors_X5_setMap : GoodIn wsL_errors (wsV RL 106 RX5 yX5_setMap wsX5_setMap) := goodIn_app (goodIn_of _ (by decide +kernel)) ggL_errors_X5_setMap
set_option maxRecDepth 20000 in
theorem ggL_errors_X5_setNumber : GoodIn wsL_errors wsX5_setNumber := goodIn_r _ [89, 10, 11, 90, 91, 92, 50, 93, 94, 95, 96, 97, 59, 98, 99, 100, 101, 61, 102, 31, 32, 33, 34, 35, 36, 37, 38, 39, 40, 41, 42, 43, 44, 45, 46, 47, 48, 49, 51, 52, 53, 54, 55, 56, 57, 58, 60, 62, 63, 64, 65, 66, 67, 68, 69, 14, 70, 30, 71, 72, 73, 74, 75, 76, 77, 78, 79, 80, 103, 104, 105, 106, 334, 335, 336, 337, 338, 339, 340, 341, 342, 343, 344, 345, 346, 347, 348, 349, 350, 352, 353, 354, 351, 355, 356, 357] (by decide +kernel) (by decide +kernel)
set_option maxRecDepth 20000 in
theorem gL_errors_X5_setNumber : GoodIn wsL_errors (wsV RL 109 RX5 yX5_setNumber wsX5_setNumber) := goodIn_app (goodIn_of _ (by decide +kernel)) ggL_errors_X5_setNumber
set_option maxRecDepth 20000 in
theorem ggL_errors_X5_drive : GoodIn wsL_errors wsX5_drive := goodIn_r _ [110, 10, 111, 11, 16, 17, 8, 18, 19, 112, 113, 114, 115, 116, 117, 118, 50, 119, 120, 121, 122, 123, 54, 31, 32, 33, 34, 35, 36, 37, 38, 39, 40, 41, 42, 43, 44, 45, 46, 47, 48, 49, 51, 52, 53, 55, 56, 57, 58, 59, 60, 61, 62, 63, 64, 65, 66, 67, 68, 69, 14, 70, 30, 71, 72, 73, 74, 75, 76, 77, 78, 79, 80, 20, 21, 22, 23, 24, 25, 124, 125, 126, 127, 128, 129, 130, 131, 132, 133, 134, 135, 136, 99, 100, 101, 94, 95, 96, 97, 137, 138, 139, 140, 141, 142, 143, 144, 145, 27, 28, 29, 146, 147, 148, 149, 150, 151, 152, 153, 154, 155, 156, 157, 158, 159, 160, 161, 162, 163, 164, 165, 166, 167, 168, 169, 170, 171, 172, 173, 174, 175, 176, 177, 178, 179, 180, 181, 182, 183, 184, 185, 186, 187, 188, 189, 190, 191, 192, 193, 194, 195, 334, 335, 336, 337, 338, 339, 340, 341, 342, 343, 344, 345, 346, 347, 348, 349, 350, 352, 353, 354, 351, 355, 356, 357] (by decide +kernel) (by decide +kernel)
set_option maxRecDepth 20000 in
theorem gL_errors_X5_drive : GoodIn wsL_errors (wsV RL 95 RX5 yX5_drive wsX5_drive) := goodIn_app (goodIn_of _ (by decide +kernel)) ggL_errors_X5_drive
set_option maxRecDepth 20000 in
theorem ggL_errors_X5_wouldChoose : GoodIn wsL_errors wsX5_wouldChoose := goodIn_r _ [199, 200, 10, 16, 17, 8, 18, 19, 112, 113, 114, 115, 201, 48, 49, 50, 51, 52, 53, 54, 55, 56, 57, 58, 59, 60, 61, 62, 63, 64, 65, 66, 67, 68, 69, 14, 70, 30, 71, 72, 73, 74, 75, 76, 77, 78, 79, 80, 20, 21, 22, 23, 24, 25, 202, 129, 130, 131, 132, 133, 134, 135, 136, 99, 100, 101, 94, 95, 96, 97, 137, 138, 139, 140, 141, 142, 143, 144, 145, 27, 28, 29, 146, 147, 148, 149, 150, 151, 152, 153, 154, 155, 40, 156, 157, 158, 159, 160, 161, 162, 163, 164, 165, 166, 167, 168, 169, 170, 171, 172, 173, 174, 175, 176, 177, 178, 179, 180, 181, 182, 117, 118, 119, 120, 121, 122, 123, 183, 184, 185, 186, 187, 39, 41, 188, 189, 190, 191, 192, 193, 194, 195, 334, 335, 336, 337, 338, 339, 340, 341, 342, 343, 344, 345, 346, 347, 348, 349, 350, 351, 355, 356, 357] (by decide +kernel) (by decide +kernel)
set_option maxRecDepth 20000 in
theorem gL_errors_X5_wouldChoose : GoodIn wsL_errors (wsV RL 84 RX5 yX5_wouldChoose wsX5_wouldChoose) := goodIn_app (goodIn_of _ (by decide +kernel)) ggL_errors_X5_wouldChoose
set_option maxRecDepth 20000 in
theorem ggL_errors_X5_settles : GoodIn wsL_errors wsX5_settles := goodIn_r _ [206, 200, 10, 16, 17, 8, 18, 19, 112, 113, 114, 115, 201, 48, 49, 50, 51, 52, 53, 54, 55, 56, 57, 58, 59, 60, 61, 62, 63, 64, 65, 66, 67, 68, 69, 14, 70, 30, 71, 72, 73, 74, 75, 76, 77, 78, 79, 80, 20, 21, 22, 23, 24, 25, 202, 129, 130, 131, 132, 133, 134, 135, 136, 99, 100, 101, 94, 95, 96, 97, 137, 138, 139, 140, 141, 142, 143, 144, 145, 27, 28, 29, 146, 147, 148, 149, 150, 151, 152, 153, 154, 155, 40, 156, 157, 158, 159, 160, 161, 162, 163, 164, 165, 166, 167, 168, 169, 170, 171, 172, 173, 174, 175, 176, 177, 178, 179, 180, 181, 182, 117, 118, 119, 120, 121, 122, 123, 183, 184, 185, 186, 187, 39, 41, 188, 189, 190, 191, 192, 193, 194, 195, 334, 335, 336, 337, 338, 339, 340, 341, 342, 343, 344, 345, 346, 347, 348, 349, 350, 351, 355, 356, 357] (by decide +kernel) (by decide +kernel)
set_option maxRecDepth 20000 in
theorem gL_errors_X5_settles : GoodIn wsL_errors (wsV RL 126 RX5 yX5_settles wsX5_settles) := goodIn_app (goodIn_of _ (by decide +kernel)) ggL_errors_X5_settles
set_option maxRecDepth 20000 in
theorem ggL_errors_X5_map : GoodIn wsL_errors wsX5_map := goodIn_r _ [210, 10, 12, 13, 14, 15, 26, 27, 28, 29, 30, 211, 212, 8, 213, 214, 334, 335, 336, 337, 338, 339, 340, 341, 342, 343, 344, 345, 346, 347, 348, 349, 350, 351] (by decide +kernel) (by decide +kernel)
set_option maxRecDepth 20000 in
theorem gL_errors_X5_map : GoodIn wsL_errors (wsV RL 87 RX5 yX5_map wsX5_map) := goodIn_app (goodIn_of _ (by decide +kernel)) ggL_errors_X5_map
set_option maxRecDepth 20000 in
theorem ggL_errors_L_isNone : GoodIn wsL_errors wsL_isNone := goodIn_r _ [218] (by decide +kernel) (by decide +kernel)
set_option maxRecDepth 20000 in
theorem gL_errors_L_isNone : GoodIn wsL_errors (va_wsS RL 64 yL_isNone wsL_isNone) := goodIn_app (goodIn_of _ (by decide +kernel)) ggL_errors_L_isNone
set_option maxRecDepth 20000 in
theorem ggL_errors_X5_border : GoodIn wsL_errors wsX5_border := goodIn_r _ [222, 10, 12, 13, 14, 15, 112, 113, 8, 114, 115, 211, 212, 213, 214, 20, 21, 22, 23, 24, 25, 223, 158, 159, 160, 145, 27, 28, 29, 30, 224, 162, 163, 164, 165, 334, 335, 336, 337, 338, 339, 340, 341, 342, 343, 344, 345, 346, 347, 348, 349, 350, 351] (by decide +kernel) (by decide +kernel)
set_option maxRecDepth 20000 in
theorem gL_errors_X5_border : GoodIn wsL_errors (wsV RL 91 RX5 yX5_border wsX5_border) := goodIn_app (goodIn_of _ (by decide +kernel)) ggL_errors_X5_border
set_option maxRecDepth 20000 in
theorem ggL_errors_X5_number : GoodIn wsL_errors wsX5_number := goodIn_r _ [228, 10, 102, 95, 96, 50, 97, 59, 334, 335, 336, 337, 338, 339, 340, 341, 342, 343, 344, 345, 346, 347, 348, 349, 350] (by decide +kernel) (by decide +kernel)
set_option maxRecDepth 20000 in
theorem gL_errors_X5_number : GoodIn wsL_errors (wsV RL 44 RX5 yX5_number wsX5_number) := goodIn_app (goodIn_of _ (by decide +kernel)) ggL_errors_X5_number
set_option maxRecDepth 20000 in
theorem ggL_errors_X5_count : GoodIn wsL_errors wsX5_count := goodIn_r _ [232, 11, 233, 10, 234, 235, 236, 34, 237, 37, 238, 239, 240, 241, 242, 243, 244, 121, 122, 50, 123, 54, 334, 335, 336, 337, 338, 339, 352, 353, 354, 358, 359, 360, 361, 362, 363, 364, 340, 341, 342, 343, 344, 345, 346, 347, 348, 349, 350] (by decide +kernel) (by decide +kernel)
set_option maxRecDepth 20000 in
theorem gL_errors_X5_count : GoodIn wsL_errors (wsV RL 57 RX5 yX5_count wsX5_count) := goodIn_app (goodIn_of _ (by decide +kernel)) ggL_errors_X5_count
set_option maxRecDepth 20000 in
theorem ggL_errors_X5_clearText : GoodIn wsL_errors wsX5_clearText := goodIn_r _ [248, 233, 238, 239, 240, 241, 242, 243, 249, 250, 251, 252, 334, 335, 336, 337, 338, 339, 358, 359, 360, 361, 362, 363, 364] (by decide +kernel) (by decide +kernel)
set_option maxRecDepth 20000 in
theorem gL_errors_X5_clearText : GoodIn wsL_errors (wsV RL 132 RX5 yX5_clearText wsX5_clearText) := goodIn_app (goodIn_of _ (by decide +kernel)) ggL_errors_X5_clearText
set_option maxRecDepth 20000 in
theorem ggL_errors_X5_readDrive : GoodIn wsL_errors wsX5_readDrive := goodIn_r _ [256, 233, 10, 111, 11, 257, 258, 259, 260, 241, 261, 262, 243, 263, 264, 265, 266, 267, 268, 269, 270, 271, 272, 273, 274, 275, 276, 277, 278, 279, 280, 281, 282, 283, 284, 285, 286, 287, 288, 289, 290, 291, 292, 116, 117, 118, 50, 119, 120, 121, 122, 123, 54, 293, 294, 295, 296, 297, 298, 299, 300, 301, 302, 303, 304, 31, 32, 33, 34, 35, 36, 37, 38, 39, 40, 41, 42, 43, 44, 45, 46, 47, 48, 49, 51, 52, 53, 55, 56, 57, 58, 59, 60, 61, 62, 63, 64, 65, 66, 67, 68, 69, 14, 70, 30, 71, 72, 73, 74, 75, 76, 77, 78, 79, 80, 305, 306, 307, 308, 309, 310, 311, 312, 313, 314, 315, 316, 317, 124, 125, 126, 127, 128, 129, 130, 131, 132, 133, 134, 135, 136, 99, 100, 101, 94, 95, 96, 97, 137, 138, 139, 140, 141, 142, 143, 144, 145, 27, 28, 29, 146, 147, 148, 149, 150, 151, 152, 153, 154, 155, 156, 157, 158, 159, 160, 161, 162, 163, 164, 165, 166, 167, 168, 169, 170, 171, 172, 173, 174, 175, 176, 177, 178, 179, 180, 181, 182, 183, 184, 185, 186, 187, 188, 189, 190, 191, 192, 193, 194, 195, 334, 335, 336, 337, 338, 339, 358, 359, 360, 361, 362, 363, 364, 340, 341, 342, 343, 344, 345, 346, 347, 348, 349, 350, 352, 353, 354, 351, 355, 356, 357] (by decide +kernel) (by decide +kernel)
set_option maxRecDepth 20000 in
theorem gL_errors_X5_readDrive : GoodIn wsL_errors (wsV RL 136 RX5 yX5_readDrive wsX5_readDrive) := goodIn_app (goodIn_of _ (by decide +kernel)) ggL_errors_X5_readDrive
set_option maxRecDepth 20000 in
theorem ggL_errors_X5_type : GoodIn wsL_errors wsX5_type := goodIn_r _ [321, 233, 322, 323, 324, 241, 325, 243, 263, 238, 239, 240, 242, 334, 335, 336, 337, 338, 339, 358, 359, 360, 361, 362, 363, 364] (by decide +kernel) (by decide +kernel)
set_option maxRecDepth 20000 in
theorem gL_errors_X5_type : GoodIn wsL_errors (wsV RL 139 RX5 yX5_type wsX5_type) := goodIn_app (goodIn_of _ (by decide +kernel)) ggL_errors_X5_type
set_option maxRecDepth 20000 in
theorem ggL_errors_X5_undo : GoodIn wsL_errors wsX5_undo := goodIn_r _ [329, 11, 10, 330, 331, 332, 34, 333, 36, 37, 42, 43, 44, 45, 46, 47, 48, 49, 50, 51, 52, 53, 54, 55, 56, 57, 58, 59, 60, 61, 62, 63, 64, 65, 66, 67, 68, 69, 14, 70, 30, 71, 72, 73, 74, 75, 76, 77, 78, 79, 80, 234, 235, 236, 237, 334, 335, 336, 337, 338, 339, 352, 353, 354, 340, 341, 342, 343, 344, 345, 346, 347, 348, 349, 350, 351, 355, 356, 357] (by decide +kernel) (by decide +kernel)
set_option maxRecDepth 20000 in
theorem gL_errors_X5_undo : GoodIn wsL_errors (wsV RL 143 RX5 yX5_undo wsX5_undo) := goodIn_app (goodIn_of _ (by decide +kernel)) ggL_errors_X5_undo
theorem dL_errors_0 : decode cL_errors 0 = .ok (.aload_n 0, 1) := by decide +kernel
theorem dL_errors_1 : decode cL_errors 1 = .ok (.iconst 0, 1) := by decide +kernel
theorem dL_errors_2 : decode cL_errors 2 = .ok (.iconst 4, 1) := by decide +kernel
theorem dL_errors_3 : decode cL_errors 3 = .ok (.iconst 0, 1) := by decide +kernel
theorem dL_errors_4 : decode cL_errors 4 = .ok (.invokevirtual 106, 3) := by decide +kernel
theorem dL_errors_7 : decode cL_errors 7 = .ok (.bipush (-2), 2) := by decide +kernel
theorem dL_errors_9 : decode cL_errors 9 = .ok (.if_icmp .ne 246, 3) := by decide +kernel
theorem dL_errors_12 : decode cL_errors 12 = .ok (.aload_n 0, 1) := by decide +kernel
theorem dL_errors_13 : decode cL_errors 13 = .ok (.iconst 0, 1) := by decide +kernel
theorem dL_errors_14 : decode cL_errors 14 = .ok (.iconst 0, 1) := by decide +kernel
theorem dL_errors_15 : decode cL_errors 15 = .ok (.iconst 0, 1) := by decide +kernel
theorem dL_errors_16 : decode cL_errors 16 = .ok (.invokevirtual 106, 3) := by decide +kernel
theorem dL_errors_19 : decode cL_errors 19 = .ok (.iconst (-1), 1) := by decide +kernel
theorem dL_errors_20 : decode cL_errors 20 = .ok (.if_icmp .ne 235, 3) := by decide +kernel
theorem dL_errors_23 : decode cL_errors 23 = .ok (.aload_n 0, 1) := by decide +kernel
theorem dL_errors_24 : decode cL_errors 24 = .ok (.iconst 5, 1) := by decide +kernel
theorem dL_errors_25 : decode cL_errors 25 = .ok (.iconst 2, 1) := by decide +kernel
theorem dL_errors_26 : decode cL_errors 26 = .ok (.iconst 0, 1) := by decide +kernel
theorem dL_errors_27 : decode cL_errors 27 = .ok (.invokevirtual 106, 3) := by decide +kernel
theorem dL_errors_30 : decode cL_errors 30 = .ok (.iconst (-1), 1) := by decide +kernel
theorem dL_errors_31 : decode cL_errors 31 = .ok (.if_icmp .ne 224, 3) := by decide +kernel
theorem dL_errors_34 : decode cL_errors 34 = .ok (.aload_n 0, 1) := by decide +kernel
theorem dL_errors_35 : decode cL_errors 35 = .ok (.bipush 6, 2) := by decide +kernel
theorem dL_errors_37 : decode cL_errors 37 = .ok (.iconst 3, 1) := by decide +kernel
theorem dL_errors_38 : decode cL_errors 38 = .ok (.iconst 0, 1) := by decide +kernel
theorem dL_errors_39 : decode cL_errors 39 = .ok (.invokevirtual 106, 3) := by decide +kernel
theorem dL_errors_42 : decode cL_errors 42 = .ok (.iconst (-1), 1) := by decide +kernel
theorem dL_errors_43 : decode cL_errors 43 = .ok (.if_icmp .ne 212, 3) := by decide +kernel
theorem dL_errors_46 : decode cL_errors 46 = .ok (.aload_n 0, 1) := by decide +kernel
theorem dL_errors_47 : decode cL_errors 47 = .ok (.iconst 1, 1) := by decide +kernel
theorem dL_errors_48 : decode cL_errors 48 = .ok (.iconst 0, 1) := by decide +kernel
theorem dL_errors_49 : decode cL_errors 49 = .ok (.ldc 128, 2) := by decide +kernel
theorem dL_errors_51 : decode cL_errors 51 = .ok (.invokevirtual 106, 3) := by decide +kernel
theorem dL_errors_54 : decode cL_errors 54 = .ok (.bipush (-2), 2) := by decide +kernel
theorem dL_errors_56 : decode cL_errors 56 = .ok (.if_icmp .ne 199, 3) := by decide +kernel
theorem dL_errors_59 : decode cL_errors 59 = .ok (.aload_n 0, 1) := by decide +kernel
theorem dL_errors_60 : decode cL_errors 60 = .ok (.iconst 1, 1) := by decide +kernel
theorem dL_errors_61 : decode cL_errors 61 = .ok (.iconst 0, 1) := by decide +kernel
theorem dL_errors_62 : decode cL_errors 62 = .ok (.ldc 129, 2) := by decide +kernel
theorem dL_errors_64 : decode cL_errors 64 = .ok (.invokevirtual 106, 3) := by decide +kernel
theorem dL_errors_67 : decode cL_errors 67 = .ok (.bipush (-2), 2) := by decide +kernel
theorem dL_errors_69 : decode cL_errors 69 = .ok (.if_icmp .ne 186, 3) := by decide +kernel
theorem dL_errors_72 : decode cL_errors 72 = .ok (.aload_n 0, 1) := by decide +kernel
theorem dL_errors_73 : decode cL_errors 73 = .ok (.iconst 1, 1) := by decide +kernel
theorem dL_errors_74 : decode cL_errors 74 = .ok (.iconst 0, 1) := by decide +kernel
theorem dL_errors_75 : decode cL_errors 75 = .ok (.ldc 130, 2) := by decide +kernel
theorem dL_errors_77 : decode cL_errors 77 = .ok (.invokevirtual 106, 3) := by decide +kernel
theorem dL_errors_80 : decode cL_errors 80 = .ok (.bipush (-2), 2) := by decide +kernel
theorem dL_errors_82 : decode cL_errors 82 = .ok (.if_icmp .ne 173, 3) := by decide +kernel
theorem dL_errors_85 : decode cL_errors 85 = .ok (.aload_n 0, 1) := by decide +kernel
theorem dL_errors_86 : decode cL_errors 86 = .ok (.iconst 4, 1) := by decide +kernel
theorem dL_errors_87 : decode cL_errors 87 = .ok (.iconst 1, 1) := by decide +kernel
theorem dL_errors_88 : decode cL_errors 88 = .ok (.invokevirtual 109, 3) := by decide +kernel
theorem dL_errors_91 : decode cL_errors 91 = .ok (.iconst (-1), 1) := by decide +kernel
theorem dL_errors_92 : decode cL_errors 92 = .ok (.if_icmp .ne 163, 3) := by decide +kernel
theorem dL_errors_95 : decode cL_errors 95 = .ok (.aload_n 0, 1) := by decide +kernel
theorem dL_errors_96 : decode cL_errors 96 = .ok (.iconst 2, 1) := by decide +kernel
theorem dL_errors_97 : decode cL_errors 97 = .ok (.iconst 0, 1) := by decide +kernel
theorem dL_errors_98 : decode cL_errors 98 = .ok (.invokevirtual 109, 3) := by decide +kernel
theorem dL_errors_101 : decode cL_errors 101 = .ok (.bipush (-2), 2) := by decide +kernel
theorem dL_errors_103 : decode cL_errors 103 = .ok (.if_icmp .ne 152, 3) := by decide +kernel
theorem dL_errors_106 : decode cL_errors 106 = .ok (.aload_n 0, 1) := by decide +kernel
theorem dL_errors_107 : decode cL_errors 107 = .ok (.iconst 3, 1) := by decide +kernel
theorem dL_errors_108 : decode cL_errors 108 = .ok (.bipush 101, 2) := by decide +kernel
theorem dL_errors_110 : decode cL_errors 110 = .ok (.invokevirtual 109, 3) := by decide +kernel
theorem dL_errors_113 : decode cL_errors 113 = .ok (.bipush (-2), 2) := by decide +kernel
theorem dL_errors_115 : decode cL_errors 115 = .ok (.if_icmp .ne 140, 3) := by decide +kernel
theorem dL_errors_118 : decode cL_errors 118 = .ok (.aload_n 0, 1) := by decide +kernel
theorem dL_errors_119 : decode cL_errors 119 = .ok (.iconst 0, 1) := by decide +kernel
theorem dL_errors_120 : decode cL_errors 120 = .ok (.bipush 21, 2) := by decide +kernel
theorem dL_errors_122 : decode cL_errors 122 = .ok (.invokevirtual 109, 3) := by decide +kernel
theorem dL_errors_125 : decode cL_errors 125 = .ok (.bipush (-2), 2) := by decide +kernel
theorem dL_errors_127 : decode cL_errors 127 = .ok (.if_icmp .ne 128, 3) := by decide +kernel
theorem dL_errors_130 : decode cL_errors 130 = .ok (.aload_n 0, 1) := by decide +kernel
theorem dL_errors_131 : decode cL_errors 131 = .ok (.iconst 0, 1) := by decide +kernel
theorem dL_errors_132 : decode cL_errors 132 = .ok (.iconst 0, 1) := by decide +kernel
theorem dL_errors_133 : decode cL_errors 133 = .ok (.iconst 0, 1) := by decide +kernel
theorem dL_errors_134 : decode cL_errors 134 = .ok (.invokevirtual 95, 3) := by decide +kernel
theorem dL_errors_137 : decode cL_errors 137 = .ok (.bipush (-2), 2) := by decide +kernel
theorem dL_errors_139 : decode cL_errors 139 = .ok (.if_icmp .ne 116, 3) := by decide +kernel
theorem dL_errors_142 : decode cL_errors 142 = .ok (.aload_n 0, 1) := by decide +kernel
theorem dL_errors_143 : decode cL_errors 143 = .ok (.iconst 0, 1) := by decide +kernel
theorem dL_errors_144 : decode cL_errors 144 = .ok (.iconst 0, 1) := by decide +kernel
theorem dL_errors_145 : decode cL_errors 145 = .ok (.bipush 100, 2) := by decide +kernel
theorem dL_errors_147 : decode cL_errors 147 = .ok (.invokevirtual 95, 3) := by decide +kernel
theorem dL_errors_150 : decode cL_errors 150 = .ok (.bipush (-2), 2) := by decide +kernel
theorem dL_errors_152 : decode cL_errors 152 = .ok (.if_icmp .ne 103, 3) := by decide +kernel
theorem dL_errors_155 : decode cL_errors 155 = .ok (.aload_n 0, 1) := by decide +kernel
theorem dL_errors_156 : decode cL_errors 156 = .ok (.iconst 0, 1) := by decide +kernel
theorem dL_errors_157 : decode cL_errors 157 = .ok (.ldc 131, 2) := by decide +kernel
theorem dL_errors_159 : decode cL_errors 159 = .ok (.iconst 1, 1) := by decide +kernel
theorem dL_errors_160 : decode cL_errors 160 = .ok (.invokevirtual 95, 3) := by decide +kernel
theorem dL_errors_163 : decode cL_errors 163 = .ok (.bipush (-2), 2) := by decide +kernel
theorem dL_errors_165 : decode cL_errors 165 = .ok (.if_icmp .ne 90, 3) := by decide +kernel
theorem dL_errors_168 : decode cL_errors 168 = .ok (.aload_n 0, 1) := by decide +kernel
theorem dL_errors_169 : decode cL_errors 169 = .ok (.ldc 129, 2) := by decide +kernel
theorem dL_errors_171 : decode cL_errors 171 = .ok (.iconst 0, 1) := by decide +kernel
theorem dL_errors_172 : decode cL_errors 172 = .ok (.invokevirtual 84, 3) := by decide +kernel
theorem dL_errors_175 : decode cL_errors 175 = .ok (.bipush (-2), 2) := by decide +kernel
theorem dL_errors_177 : decode cL_errors 177 = .ok (.if_icmp .ne 78, 3) := by decide +kernel
theorem dL_errors_180 : decode cL_errors 180 = .ok (.aload_n 0, 1) := by decide +kernel
theorem dL_errors_181 : decode cL_errors 181 = .ok (.iconst 0, 1) := by decide +kernel
theorem dL_errors_182 : decode cL_errors 182 = .ok (.ldc 128, 2) := by decide +kernel
theorem dL_errors_184 : decode cL_errors 184 = .ok (.invokevirtual 126, 3) := by decide +kernel
theorem dL_errors_187 : decode cL_errors 187 = .ok (.bipush (-2), 2) := by decide +kernel
theorem dL_errors_189 : decode cL_errors 189 = .ok (.if_icmp .ne 66, 3) := by decide +kernel
theorem dL_errors_192 : decode cL_errors 192 = .ok (.aload_n 0, 1) := by decide +kernel
theorem dL_errors_193 : decode cL_errors 193 = .ok (.iconst 5, 1) := by decide +kernel
theorem dL_errors_194 : decode cL_errors 194 = .ok (.iconst 0, 1) := by decide +kernel
theorem dL_errors_195 : decode cL_errors 195 = .ok (.invokevirtual 87, 3) := by decide +kernel
theorem dL_errors_198 : decode cL_errors 198 = .ok (.invokestatic 64, 3) := by decide +kernel
theorem dL_errors_201 : decode cL_errors 201 = .ok (.ifCond .eq 54, 3) := by decide +kernel
theorem dL_errors_204 : decode cL_errors 204 = .ok (.aload_n 0, 1) := by decide +kernel
theorem dL_errors_205 : decode cL_errors 205 = .ok (.iconst 5, 1) := by decide +kernel
theorem dL_errors_206 : decode cL_errors 206 = .ok (.iconst 0, 1) := by decide +kernel
theorem dL_errors_207 : decode cL_errors 207 = .ok (.iconst 1, 1) := by decide +kernel
theorem dL_errors_208 : decode cL_errors 208 = .ok (.invokevirtual 91, 3) := by decide +kernel
theorem dL_errors_211 : decode cL_errors 211 = .ok (.invokestatic 64, 3) := by decide +kernel
theorem dL_errors_214 : decode cL_errors 214 = .ok (.ifCond .eq 41, 3) := by decide +kernel
theorem dL_errors_217 : decode cL_errors 217 = .ok (.aload_n 0, 1) := by decide +kernel
theorem dL_errors_218 : decode cL_errors 218 = .ok (.iconst 1, 1) := by decide +kernel
theorem dL_errors_219 : decode cL_errors 219 = .ok (.ldc 131, 2) := by decide +kernel
theorem dL_errors_221 : decode cL_errors 221 = .ok (.iconst 1, 1) := by decide +kernel
theorem dL_errors_222 : decode cL_errors 222 = .ok (.invokevirtual 91, 3) := by decide +kernel
theorem dL_errors_225 : decode cL_errors 225 = .ok (.invokestatic 64, 3) := by decide +kernel
theorem dL_errors_228 : decode cL_errors 228 = .ok (.ifCond .eq 27, 3) := by decide +kernel
theorem dL_errors_231 : decode cL_errors 231 = .ok (.aload_n 0, 1) := by decide +kernel
theorem dL_errors_232 : decode cL_errors 232 = .ok (.iconst 4, 1) := by decide +kernel
theorem dL_errors_233 : decode cL_errors 233 = .ok (.invokevirtual 44, 3) := by decide +kernel
theorem dL_errors_236 : decode cL_errors 236 = .ok (.iconst (-1), 1) := by decide +kernel
theorem dL_errors_237 : decode cL_errors 237 = .ok (.if_icmp .ne 18, 3) := by decide +kernel
theorem dL_errors_240 : decode cL_errors 240 = .ok (.aload_n 0, 1) := by decide +kernel
theorem dL_errors_241 : decode cL_errors 241 = .ok (.bipush 15, 2) := by decide +kernel
theorem dL_errors_243 : decode cL_errors 243 = .ok (.invokevirtual 57, 3) := by decide +kernel
theorem dL_errors_246 : decode cL_errors 246 = .ok (.bipush (-2), 2) := by decide +kernel
theorem dL_errors_248 : decode cL_errors 248 = .ok (.if_icmp .ne 7, 3) := by decide +kernel
theorem dL_errors_251 : decode cL_errors 251 = .ok (.iconst 1, 1) := by decide +kernel
theorem dL_errors_252 : decode cL_errors 252 = .ok (.goto 4, 3) := by decide +kernel
theorem dL_errors_255 : decode cL_errors 255 = .ok (.iconst 0, 1) := by decide +kernel
theorem dL_errors_256 : decode cL_errors 256 = .ok (.istore_n 1, 1) := by decide +kernel
theorem dL_errors_257 : decode cL_errors 257 = .ok (.aload_n 0, 1) := by decide +kernel
theorem dL_errors_258 : decode cL_errors 258 = .ok (.invokevirtual 132, 3) := by decide +kernel
theorem dL_errors_261 : decode cL_errors 261 = .ok (.pop, 1) := by decide +kernel
theorem dL_errors_262 : decode cL_errors 262 = .ok (.iload_n 1, 1) := by decide +kernel
theorem dL_errors_263 : decode cL_errors 263 = .ok (.ifCond .eq 16, 3) := by decide +kernel
theorem dL_errors_266 : decode cL_errors 266 = .ok (.aload_n 0, 1) := by decide +kernel
theorem dL_errors_267 : decode cL_errors 267 = .ok (.invokevirtual 136, 3) := by decide +kernel
theorem dL_errors_270 : decode cL_errors 270 = .ok (.bipush (-100), 2) := by decide +kernel
theorem dL_errors_272 : decode cL_errors 272 = .ok (.if_icmp .ne 7, 3) := by decide +kernel
theorem dL_errors_275 : decode cL_errors 275 = .ok (.iconst 1, 1) := by decide +kernel
theorem dL_errors_276 : decode cL_errors 276 = .ok (.goto 4, 3) := by decide +kernel
theorem dL_errors_279 : decode cL_errors 279 = .ok (.iconst 0, 1) := by decide +kernel
theorem dL_errors_280 : decode cL_errors 280 = .ok (.istore_n 1, 1) := by decide +kernel
theorem dL_errors_281 : decode cL_errors 281 = .ok (.aload_n 0, 1) := by decide +kernel
theorem dL_errors_282 : decode cL_errors 282 = .ok (.bipush 51, 2) := by decide +kernel
theorem dL_errors_284 : decode cL_errors 284 = .ok (.invokevirtual 139, 3) := by decide +kernel
theorem dL_errors_287 : decode cL_errors 287 = .ok (.pop, 1) := by decide +kernel
theorem dL_errors_288 : decode cL_errors 288 = .ok (.aload_n 0, 1) := by decide +kernel
theorem dL_errors_289 : decode cL_errors 289 = .ok (.bipush 48, 2) := by decide +kernel
theorem dL_errors_291 : decode cL_errors 291 = .ok (.invokevirtual 139, 3) := by decide +kernel
theorem dL_errors_294 : decode cL_errors 294 = .ok (.pop, 1) := by decide +kernel
theorem dL_errors_295 : decode cL_errors 295 = .ok (.aload_n 0, 1) := by decide +kernel
theorem dL_errors_296 : decode cL_errors 296 = .ok (.bipush 49, 2) := by decide +kernel
theorem dL_errors_298 : decode cL_errors 298 = .ok (.invokevirtual 139, 3) := by decide +kernel
theorem dL_errors_301 : decode cL_errors 301 = .ok (.pop, 1) := by decide +kernel
theorem dL_errors_302 : decode cL_errors 302 = .ok (.iload_n 1, 1) := by decide +kernel
theorem dL_errors_303 : decode cL_errors 303 = .ok (.ifCond .eq 24, 3) := by decide +kernel
theorem dL_errors_306 : decode cL_errors 306 = .ok (.aload_n 0, 1) := by decide +kernel
theorem dL_errors_307 : decode cL_errors 307 = .ok (.invokevirtual 136, 3) := by decide +kernel
theorem dL_errors_310 : decode cL_errors 310 = .ok (.bipush (-102), 2) := by decide +kernel
theorem dL_errors_312 : decode cL_errors 312 = .ok (.if_icmp .ne 15, 3) := by decide +kernel
theorem dL_errors_315 : decode cL_errors 315 = .ok (.aload_n 0, 1) := by decide +kernel
theorem dL_errors_316 : decode cL_errors 316 = .ok (.invokevirtual 132, 3) := by decide +kernel
theorem dL_errors_319 : decode cL_errors 319 = .ok (.iconst 3, 1) := by decide +kernel
theorem dL_errors_320 : decode cL_errors 320 = .ok (.if_icmp .ne 7, 3) := by decide +kernel
theorem dL_errors_323 : decode cL_errors 323 = .ok (.iconst 1, 1) := by decide +kernel
theorem dL_errors_324 : decode cL_errors 324 = .ok (.goto 4, 3) := by decide +kernel
theorem dL_errors_327 : decode cL_errors 327 = .ok (.iconst 0, 1) := by decide +kernel
theorem dL_errors_328 : decode cL_errors 328 = .ok (.istore_n 1, 1) := by decide +kernel
theorem dL_errors_329 : decode cL_errors 329 = .ok (.aload_n 0, 1) := by decide +kernel
theorem dL_errors_330 : decode cL_errors 330 = .ok (.bipush 53, 2) := by decide +kernel
theorem dL_errors_332 : decode cL_errors 332 = .ok (.invokevirtual 139, 3) := by decide +kernel
theorem dL_errors_335 : decode cL_errors 335 = .ok (.pop, 1) := by decide +kernel
theorem dL_errors_336 : decode cL_errors 336 = .ok (.aload_n 0, 1) := by decide +kernel
theorem dL_errors_337 : decode cL_errors 337 = .ok (.bipush 44, 2) := by decide +kernel
theorem dL_errors_339 : decode cL_errors 339 = .ok (.invokevirtual 139, 3) := by decide +kernel
theorem dL_errors_342 : decode cL_errors 342 = .ok (.pop, 1) := by decide +kernel
theorem dL_errors_343 : decode cL_errors 343 = .ok (.aload_n 0, 1) := by decide +kernel
theorem dL_errors_344 : decode cL_errors 344 = .ok (.bipush 53, 2) := by decide +kernel
theorem dL_errors_346 : decode cL_errors 346 = .ok (.invokevirtual 139, 3) := by decide +kernel
theorem dL_errors_349 : decode cL_errors 349 = .ok (.pop, 1) := by decide +kernel
theorem dL_errors_350 : decode cL_errors 350 = .ok (.aload_n 0, 1) := by decide +kernel
theorem dL_errors_351 : decode cL_errors 351 = .ok (.bipush 42, 2) := by decide +kernel
theorem dL_errors_353 : decode cL_errors 353 = .ok (.invokevirtual 139, 3) := by decide +kernel
theorem dL_errors_356 : decode cL_errors 356 = .ok (.pop, 1) := by decide +kernel
theorem dL_errors_357 : decode cL_errors 357 = .ok (.iload_n 1, 1) := by decide +kernel
theorem dL_errors_358 : decode cL_errors 358 = .ok (.ifCond .eq 26, 3) := by decide +kernel
theorem dL_errors_361 : decode cL_errors 361 = .ok (.aload_n 0, 1) := by decide +kernel
theorem dL_errors_362 : decode cL_errors 362 = .ok (.invokevirtual 136, 3) := by decide +kernel
theorem dL_errors_365 : decode cL_errors 365 = .ok (.bipush (-104), 2) := by decide +kernel
theorem dL_errors_367 : decode cL_errors 367 = .ok (.if_icmp .ne 17, 3) := by decide +kernel
theorem dL_errors_370 : decode cL_errors 370 = .ok (.aload_n 0, 1) := by decide +kernel
theorem dL_errors_371 : decode cL_errors 371 = .ok (.bipush 14, 2) := by decide +kernel
theorem dL_errors_373 : decode cL_errors 373 = .ok (.invokevirtual 57, 3) := by decide +kernel
theorem dL_errors_376 : decode cL_errors 376 = .ok (.iconst 4, 1) := by decide +kernel
theorem dL_errors_377 : decode cL_errors 377 = .ok (.if_icmp .ne 7, 3) := by decide +kernel
theorem dL_errors_380 : decode cL_errors 380 = .ok (.iconst 1, 1) := by decide +kernel
theorem dL_errors_381 : decode cL_errors 381 = .ok (.goto 4, 3) := by decide +kernel
theorem dL_errors_384 : decode cL_errors 384 = .ok (.iconst 0, 1) := by decide +kernel
theorem dL_errors_385 : decode cL_errors 385 = .ok (.istore_n 1, 1) := by decide +kernel
theorem dL_errors_386 : decode cL_errors 386 = .ok (.aload_n 0, 1) := by decide +kernel
theorem dL_errors_387 : decode cL_errors 387 = .ok (.bipush 13, 2) := by decide +kernel
theorem dL_errors_389 : decode cL_errors 389 = .ok (.invokevirtual 57, 3) := by decide +kernel
theorem dL_errors_392 : decode cL_errors 392 = .ok (.istore_n 2, 1) := by decide +kernel
theorem dL_errors_393 : decode cL_errors 393 = .ok (.iload_n 1, 1) := by decide +kernel
theorem dL_errors_394 : decode cL_errors 394 = .ok (.ifCond .eq 26, 3) := by decide +kernel
theorem dL_errors_397 : decode cL_errors 397 = .ok (.aload_n 0, 1) := by decide +kernel
theorem dL_errors_398 : decode cL_errors 398 = .ok (.invokevirtual 143, 3) := by decide +kernel
theorem dL_errors_401 : decode cL_errors 401 = .ok (.iload_n 2, 1) := by decide +kernel
theorem dL_errors_402 : decode cL_errors 402 = .ok (.ifCond .le 9, 3) := by decide +kernel
theorem dL_errors_405 : decode cL_errors 405 = .ok (.iload_n 2, 1) := by decide +kernel
theorem dL_errors_406 : decode cL_errors 406 = .ok (.iconst 1, 1) := by decide +kernel
theorem dL_errors_407 : decode cL_errors 407 = .ok (.isub, 1) := by decide +kernel
theorem dL_errors_408 : decode cL_errors 408 = .ok (.goto 5, 3) := by decide +kernel
theorem dL_errors_411 : decode cL_errors 411 = .ok (.bipush (-5), 2) := by decide +kernel
theorem dL_errors_413 : decode cL_errors 413 = .ok (.if_icmp .ne 7, 3) := by decide +kernel
theorem dL_errors_416 : decode cL_errors 416 = .ok (.iconst 1, 1) := by decide +kernel
theorem dL_errors_417 : decode cL_errors 417 = .ok (.goto 4, 3) := by decide +kernel
theorem dL_errors_420 : decode cL_errors 420 = .ok (.iconst 0, 1) := by decide +kernel
theorem dL_errors_421 : decode cL_errors 421 = .ok (.ireturn, 1) := by decide +kernel
set_option maxRecDepth 20000 in
theorem ggL_law_X5_init : GoodIn wsL_law wsX5_init := goodIn_r _ [5, 6, 7, 8, 9, 10, 11, 12, 13, 14, 15, 16, 17, 18, 19, 20, 21, 22, 23, 24, 25, 26, 27, 28, 29, 30, 31, 32, 33, 34, 35, 36, 37, 38, 39, 40, 41, 42, 43, 44, 45, 46, 47, 48, 49, 50, 51, 52, 53, 54, 55, 56, 57, 58, 59, 60, 61, 62, 63, 64, 65, 66, 67, 68, 69, 70, 71, 72, 73, 74, 75, 76, 77, 78, 79, 80, 81, 82, 83, 518, 519, 520, 521, 522, 523, 524, 525, 526, 527, 528, 512, 513, 514, 515, 516, 517, 529, 530, 531, 532, 533, 534, 535, 536, 537, 538, 539, 540, 541, 542] (by decide +kernel) (by decide +kernel)
set_option maxRecDepth 20000 in
theorem gL_law_X5_init : GoodIn wsL_law (wsX5_init) := ggL_law_X5_init
set_option maxRecDepth 20000 in
theorem ggL_law_L_cell : GoodIn wsL_law wsL_cell := goodIn_r _ [87, 88] (by decide +kernel) (by decide +kernel)
set_option maxRecDepth 20000 in
theorem gL_law_L_cell : GoodIn wsL_law (va_wsS RL 147 yL_cell wsL_cell) := goodIn_app (goodIn_of _ (by decide +kernel)) ggL_law_L_cell
set_option maxRecDepth 20000 in
set_option maxRecDepth 20000 in
theorem m_ggL_law_L_acts_wsL_acts_r1 : ∀ w ∈ wsL_acts_r1, w ∈ wsL_law := (List.forall_mem_cons.mpr ⟨List.mem_of_getElem? (i := 92) rfl, (List.forall_mem_cons.mpr ⟨List.mem_of_getElem? (i := 93) rfl, (List.forall_mem_cons.mpr ⟨List.mem_of_getElem? (i := 86) rfl, (List.forall_mem_cons.mpr ⟨List.mem_of_getElem? (i := 94) rfl, (List.forall_mem_cons.mpr ⟨List.mem_of_getElem? (i := 95) rfl, (List.forall_mem_cons.mpr ⟨List.mem_of_getElem? (i := 96) rfl, (List.forall_mem_cons.mpr ⟨List.mem_of_getElem? (i := 97) rfl, (List.forall_mem_cons.mpr ⟨List.mem_of_getElem? (i := 98) rfl, (List.forall_mem_cons.mpr ⟨List.mem_of_getElem? (i := 2) rfl, (List.forall_mem_cons.mpr ⟨List.mem_of_getElem? (i := 99) rfl, (List.forall_mem_cons.mpr ⟨List.mem_of_getElem? (i := 12) rfl, (List.forall_mem_cons.mpr ⟨List.mem_of_getElem? (i := 100) rfl, (List.forall_mem_cons.mpr ⟨List.mem_of_getElem? (i := 101) rfl, (List.forall_mem_cons.mpr ⟨List.mem_of_getElem? (i := 30) rfl, (List.forall_mem_cons.mpr ⟨List.mem_of_getElem? (i := 102) rfl, (List.forall_mem_cons.mpr ⟨List.mem_of_getElem? (i := 103) rfl, (List.forall_mem_cons.mpr ⟨List.mem_of_getElem? (i := 104) rfl, (List.forall_mem_cons.mpr ⟨List.mem_of_getElem? (i := 105) rfl, (List.forall_mem_cons.mpr ⟨List.mem_of_getElem? (i := 106) rfl, (List.forall_mem_cons.mpr ⟨List.mem_of_getElem? (i := 57) rfl, (List.forall_mem_cons.mpr ⟨List.mem_of_getElem? (i := 107) rfl, (List.forall_mem_cons.mpr ⟨List.mem_of_getElem? (i := 108) rfl, (List.forall_mem_cons.mpr ⟨List.mem_of_getElem? (i := 109) rfl, (List.forall_mem_cons.mpr ⟨List.mem_of_getElem? (i := 110) rfl, (fun _ h => absurd h List.not_mem_nil)⟩)⟩)⟩)⟩)⟩)⟩)⟩)⟩)⟩)⟩)⟩)⟩)⟩)⟩)⟩)⟩)⟩)⟩)⟩)⟩)⟩)⟩)⟩)⟩)
set_option maxRecDepth 20000 in
theorem m_ggL_law_L_acts_wsL_acts_r2 : ∀ w ∈ wsL_acts_r2, w ∈ wsL_law := (List.forall_mem_cons.mpr ⟨List.mem_of_getElem? (i := 111) rfl, (List.forall_mem_cons.mpr ⟨List.mem_of_getElem? (i := 112) rfl, (List.forall_mem_cons.mpr ⟨List.mem_of_getElem? (i := 113) rfl, (List.forall_mem_cons.mpr ⟨List.mem_of_getElem? (i := 114) rfl, (List.forall_mem_cons.mpr ⟨List.mem_of_getElem? (i := 115) rfl, (List.forall_mem_cons.mpr ⟨List.mem_of_getElem? (i := 116) rfl, (List.forall_mem_cons.mpr ⟨List.mem_of_getElem? (i := 117) rfl, (List.forall_mem_cons.mpr ⟨List.mem_of_getElem? (i := 118) rfl, (List.forall_mem_cons.mpr ⟨List.mem_of_getElem? (i := 119) rfl, (List.forall_mem_cons.mpr ⟨List.mem_of_getElem? (i := 120) rfl, (List.forall_mem_cons.mpr ⟨List.mem_of_getElem? (i := 121) rfl, (List.forall_mem_cons.mpr ⟨List.mem_of_getElem? (i := 122) rfl, (List.forall_mem_cons.mpr ⟨List.mem_of_getElem? (i := 123) rfl, (List.forall_mem_cons.mpr ⟨List.mem_of_getElem? (i := 124) rfl, (List.forall_mem_cons.mpr ⟨List.mem_of_getElem? (i := 125) rfl, (List.forall_mem_cons.mpr ⟨List.mem_of_getElem? (i := 126) rfl, (List.forall_mem_cons.mpr ⟨List.mem_of_getElem? (i := 127) rfl, (List.forall_mem_cons.mpr ⟨List.mem_of_getElem? (i := 128) rfl, (List.forall_mem_cons.mpr ⟨List.mem_of_getElem? (i := 129) rfl, (List.forall_mem_cons.mpr ⟨List.mem_of_getElem? (i := 130) rfl, (List.forall_mem_cons.mpr ⟨List.mem_of_getElem? (i := 131) rfl, (List.forall_mem_cons.mpr ⟨List.mem_of_getElem? (i := 132) rfl, (List.forall_mem_cons.mpr ⟨List.mem_of_getElem? (i := 133) rfl, (List.forall_mem_cons.mpr ⟨List.mem_of_getElem? (i := 134) rfl, (fun _ h => absurd h List.not_mem_nil)⟩)⟩)⟩)⟩)⟩)⟩)⟩)⟩)⟩)⟩)⟩)⟩)⟩)⟩)⟩)⟩)⟩)⟩)⟩)⟩)⟩)⟩)⟩)⟩)
set_option maxRecDepth 20000 in
theorem m_ggL_law_L_acts_wsL_acts_r3 : ∀ w ∈ wsL_acts_r3, w ∈ wsL_law := (List.forall_mem_cons.mpr ⟨List.mem_of_getElem? (i := 135) rfl, (List.forall_mem_cons.mpr ⟨List.mem_of_getElem? (i := 136) rfl, (List.forall_mem_cons.mpr ⟨List.mem_of_getElem? (i := 137) rfl, (List.forall_mem_cons.mpr ⟨List.mem_of_getElem? (i := 138) rfl, (List.forall_mem_cons.mpr ⟨List.mem_of_getElem? (i := 139) rfl, (List.forall_mem_cons.mpr ⟨List.mem_of_getElem? (i := 140) rfl, (List.forall_mem_cons.mpr ⟨List.mem_of_getElem? (i := 141) rfl, (List.forall_mem_cons.mpr ⟨List.mem_of_getElem? (i := 142) rfl, (List.forall_mem_cons.mpr ⟨List.mem_of_getElem? (i := 18) rfl, (List.forall_mem_cons.mpr ⟨List.mem_of_getElem? (i := 143) rfl, (List.forall_mem_cons.mpr ⟨List.mem_of_getElem? (i := 144) rfl, (List.forall_mem_cons.mpr ⟨List.mem_of_getElem? (i := 145) rfl, (List.forall_mem_cons.mpr ⟨List.mem_of_getElem? (i := 146) rfl, (List.forall_mem_cons.mpr ⟨List.mem_of_getElem? (i := 147) rfl, (List.forall_mem_cons.mpr ⟨List.mem_of_getElem? (i := 148) rfl, (List.forall_mem_cons.mpr ⟨List.mem_of_getElem? (i := 149) rfl, (List.forall_mem_cons.mpr ⟨List.mem_of_getElem? (i := 150) rfl, (List.forall_mem_cons.mpr ⟨List.mem_of_getElem? (i := 151) rfl, (List.forall_mem_cons.mpr ⟨List.mem_of_getElem? (i := 152) rfl, (List.forall_mem_cons.mpr ⟨List.mem_of_getElem? (i := 153) rfl, (List.forall_mem_cons.mpr ⟨List.mem_of_getElem? (i := 154) rfl, (List.forall_mem_cons.mpr ⟨List.mem_of_getElem? (i := 155) rfl, (List.forall_mem_cons.mpr ⟨List.mem_of_getElem? (i := 17) rfl, (List.forall_mem_cons.mpr ⟨List.mem_of_getElem? (i := 156) rfl, (fun _ h => absurd h List.not_mem_nil)⟩)⟩)⟩)⟩)⟩)⟩)⟩)⟩)⟩)⟩)⟩)⟩)⟩)⟩)⟩)⟩)⟩)⟩)⟩)⟩)⟩)⟩)⟩)⟩)
set_option maxRecDepth 20000 in
theorem m_ggL_law_L_acts_wsL_acts_r4 : ∀ w ∈ wsL_acts_r4, w ∈ wsL_law := (List.forall_mem_cons.mpr ⟨List.mem_of_getElem? (i := 70) rfl, (List.forall_mem_cons.mpr ⟨List.mem_of_getElem? (i := 71) rfl, (List.forall_mem_cons.mpr ⟨List.mem_of_getElem? (i := 157) rfl, (List.forall_mem_cons.mpr ⟨List.mem_of_getElem? (i := 158) rfl, (List.forall_mem_cons.mpr ⟨List.mem_of_getElem? (i := 159) rfl, (List.forall_mem_cons.mpr ⟨List.mem_of_getElem? (i := 160) rfl, (List.forall_mem_cons.mpr ⟨List.mem_of_getElem? (i := 161) rfl, (List.forall_mem_cons.mpr ⟨List.mem_of_getElem? (i := 162) rfl, (List.forall_mem_cons.mpr ⟨List.mem_of_getElem? (i := 163) rfl, (List.forall_mem_cons.mpr ⟨List.mem_of_getElem? (i := 164) rfl, (List.forall_mem_cons.mpr ⟨List.mem_of_getElem? (i := 69) rfl, (List.forall_mem_cons.mpr ⟨List.mem_of_getElem? (i := 165) rfl, (List.forall_mem_cons.mpr ⟨List.mem_of_getElem? (i := 166) rfl, (List.forall_mem_cons.mpr ⟨List.mem_of_getElem? (i := 167) rfl, (List.forall_mem_cons.mpr ⟨List.mem_of_getElem? (i := 11) rfl, (List.forall_mem_cons.mpr ⟨List.mem_of_getElem? (i := 168) rfl, (List.forall_mem_cons.mpr ⟨List.mem_of_getElem? (i := 31) rfl, (List.forall_mem_cons.mpr ⟨List.mem_of_getElem? (i := 35) rfl, (List.forall_mem_cons.mpr ⟨List.mem_of_getElem? (i := 37) rfl, (List.forall_mem_cons.mpr ⟨List.mem_of_getElem? (i := 47) rfl, (List.forall_mem_cons.mpr ⟨List.mem_of_getElem? (i := 48) rfl, (List.forall_mem_cons.mpr ⟨List.mem_of_getElem? (i := 49) rfl, (List.forall_mem_cons.mpr ⟨List.mem_of_getElem? (i := 50) rfl, (List.forall_mem_cons.mpr ⟨List.mem_of_getElem? (i := 39) rfl, (fun _ h => absurd h List.not_mem_nil)⟩)⟩)⟩)⟩)⟩)⟩)⟩)⟩)⟩)⟩)⟩)⟩)⟩)⟩)⟩)⟩)⟩)⟩)⟩)⟩)⟩)⟩)⟩)⟩)
set_option maxRecDepth 20000 in
theorem m_ggL_law_L_acts_wsL_acts_r5 : ∀ w ∈ wsL_acts_r5, w ∈ wsL_law := (List.forall_mem_cons.mpr ⟨List.mem_of_getElem? (i := 40) rfl, (List.forall_mem_cons.mpr ⟨List.mem_of_getElem? (i := 41) rfl, (List.forall_mem_cons.mpr ⟨List.mem_of_getElem? (i := 42) rfl, (List.forall_mem_cons.mpr ⟨List.mem_of_getElem? (i := 43) rfl, (List.forall_mem_cons.mpr ⟨List.mem_of_getElem? (i := 44) rfl, (List.forall_mem_cons.mpr ⟨List.mem_of_getElem? (i := 45) rfl, (List.forall_mem_cons.mpr ⟨List.mem_of_getElem? (i := 46) rfl, (List.forall_mem_cons.mpr ⟨List.mem_of_getElem? (i := 169) rfl, (List.forall_mem_cons.mpr ⟨List.mem_of_getElem? (i := 170) rfl, (List.forall_mem_cons.mpr ⟨List.mem_of_getElem? (i := 171) rfl, (List.forall_mem_cons.mpr ⟨List.mem_of_getElem? (i := 172) rfl, (List.forall_mem_cons.mpr ⟨List.mem_of_getElem? (i := 173) rfl, (List.forall_mem_cons.mpr ⟨List.mem_of_getElem? (i := 174) rfl, (List.forall_mem_cons.mpr ⟨List.mem_of_getElem? (i := 175) rfl, (List.forall_mem_cons.mpr ⟨List.mem_of_getElem? (i := 176) rfl, (List.forall_mem_cons.mpr ⟨List.mem_of_getElem? (i := 34) rfl, (List.forall_mem_cons.mpr ⟨List.mem_of_getElem? (i := 177) rfl, (List.forall_mem_cons.mpr ⟨List.mem_of_getElem? (i := 61) rfl, (List.forall_mem_cons.mpr ⟨List.mem_of_getElem? (i := 178) rfl, (List.forall_mem_cons.mpr ⟨List.mem_of_getElem? (i := 62) rfl, (List.forall_mem_cons.mpr ⟨List.mem_of_getElem? (i := 63) rfl, (List.forall_mem_cons.mpr ⟨List.mem_of_getElem? (i := 179) rfl, (List.forall_mem_cons.mpr ⟨List.mem_of_getElem? (i := 180) rfl, (List.forall_mem_cons.mpr ⟨List.mem_of_getElem? (i := 181) rfl, (fun _ h => absurd h List.not_mem_nil)⟩)⟩)⟩)⟩)⟩)⟩)⟩)⟩)⟩)⟩)⟩)⟩)⟩)⟩)⟩)⟩)⟩)⟩)⟩)⟩)⟩)⟩)⟩)⟩)
set_option maxRecDepth 20000 in
theorem m_ggL_law_L_acts_wsL_acts_r6 : ∀ w ∈ wsL_acts_r6, w ∈ wsL_law := (List.forall_mem_cons.mpr ⟨List.mem_of_getElem? (i := 182) rfl, (List.forall_mem_cons.mpr ⟨List.mem_of_getElem? (i := 183) rfl, (List.forall_mem_cons.mpr ⟨List.mem_of_getElem? (i := 184) rfl, (List.forall_mem_cons.mpr ⟨List.mem_of_getElem? (i := 185) rfl, (List.forall_mem_cons.mpr ⟨List.mem_of_getElem? (i := 186) rfl, (List.forall_mem_cons.mpr ⟨List.mem_of_getElem? (i := 187) rfl, (List.forall_mem_cons.mpr ⟨List.mem_of_getElem? (i := 188) rfl, (List.forall_mem_cons.mpr ⟨List.mem_of_getElem? (i := 189) rfl, (List.forall_mem_cons.mpr ⟨List.mem_of_getElem? (i := 190) rfl, (List.forall_mem_cons.mpr ⟨List.mem_of_getElem? (i := 191) rfl, (List.forall_mem_cons.mpr ⟨List.mem_of_getElem? (i := 192) rfl, (List.forall_mem_cons.mpr ⟨List.mem_of_getElem? (i := 193) rfl, (List.forall_mem_cons.mpr ⟨List.mem_of_getElem? (i := 194) rfl, (List.forall_mem_cons.mpr ⟨List.mem_of_getElem? (i := 195) rfl, (List.forall_mem_cons.mpr ⟨List.mem_of_getElem? (i := 196) rfl, (List.forall_mem_cons.mpr ⟨List.mem_of_getElem? (i := 197) rfl, (List.forall_mem_cons.mpr ⟨List.mem_of_getElem? (i := 198) rfl, (List.forall_mem_cons.mpr ⟨List.mem_of_getElem? (i := 199) rfl, (List.forall_mem_cons.mpr ⟨List.mem_of_getElem? (i := 200) rfl, (List.forall_mem_cons.mpr ⟨List.mem_of_getElem? (i := 201) rfl, (List.forall_mem_cons.mpr ⟨List.mem_of_getElem? (i := 202) rfl, (List.forall_mem_cons.mpr ⟨List.mem_of_getElem? (i := 203) rfl, (List.forall_mem_cons.mpr ⟨List.mem_of_getElem? (i := 204) rfl, (List.forall_mem_cons.mpr ⟨List.mem_of_getElem? (i := 205) rfl, (fun _ h => absurd h List.not_mem_nil)⟩)⟩)⟩)⟩)⟩)⟩)⟩)⟩)⟩)⟩)⟩)⟩)⟩)⟩)⟩)⟩)⟩)⟩)⟩)⟩)⟩)⟩)⟩)⟩)
set_option maxRecDepth 20000 in
theorem m_ggL_law_L_acts_wsL_acts_r7 : ∀ w ∈ wsL_acts_r7, w ∈ wsL_law := (List.forall_mem_cons.mpr ⟨List.mem_of_getElem? (i := 206) rfl, (List.forall_mem_cons.mpr ⟨List.mem_of_getElem? (i := 207) rfl, (List.forall_mem_cons.mpr ⟨List.mem_of_getElem? (i := 208) rfl, (List.forall_mem_cons.mpr ⟨List.mem_of_getElem? (i := 209) rfl, (List.forall_mem_cons.mpr ⟨List.mem_of_getElem? (i := 210) rfl, (List.forall_mem_cons.mpr ⟨List.mem_of_getElem? (i := 211) rfl, (List.forall_mem_cons.mpr ⟨List.mem_of_getElem? (i := 212) rfl, (List.forall_mem_cons.mpr ⟨List.mem_of_getElem? (i := 213) rfl, (List.forall_mem_cons.mpr ⟨List.mem_of_getElem? (i := 214) rfl, (List.forall_mem_cons.mpr ⟨List.mem_of_getElem? (i := 215) rfl, (List.forall_mem_cons.mpr ⟨List.mem_of_getElem? (i := 216) rfl, (List.forall_mem_cons.mpr ⟨List.mem_of_getElem? (i := 217) rfl, (List.forall_mem_cons.mpr ⟨List.mem_of_getElem? (i := 218) rfl, (List.forall_mem_cons.mpr ⟨List.mem_of_getElem? (i := 219) rfl, (List.forall_mem_cons.mpr ⟨List.mem_of_getElem? (i := 220) rfl, (List.forall_mem_cons.mpr ⟨List.mem_of_getElem? (i := 221) rfl, (List.forall_mem_cons.mpr ⟨List.mem_of_getElem? (i := 222) rfl, (List.forall_mem_cons.mpr ⟨List.mem_of_getElem? (i := 223) rfl, (List.forall_mem_cons.mpr ⟨List.mem_of_getElem? (i := 224) rfl, (List.forall_mem_cons.mpr ⟨List.mem_of_getElem? (i := 225) rfl, (List.forall_mem_cons.mpr ⟨List.mem_of_getElem? (i := 226) rfl, (List.forall_mem_cons.mpr ⟨List.mem_of_getElem? (i := 227) rfl, (List.forall_mem_cons.mpr ⟨List.mem_of_getElem? (i := 228) rfl, (List.forall_mem_cons.mpr ⟨List.mem_of_getElem? (i := 229) rfl, (fun _ h => absurd h List.not_mem_nil)⟩)⟩)⟩)⟩)⟩)⟩)⟩)⟩)⟩)⟩)⟩)⟩)⟩)⟩)⟩)⟩)⟩)⟩)⟩)⟩)⟩)⟩)⟩)⟩)
set_option maxRecDepth 20000 in
theorem m_ggL_law_L_acts_wsL_acts_r8 : ∀ w ∈ wsL_acts_r8, w ∈ wsL_law := (List.forall_mem_cons.mpr ⟨List.mem_of_getElem? (i := 230) rfl, (List.forall_mem_cons.mpr ⟨List.mem_of_getElem? (i := 231) rfl, (List.forall_mem_cons.mpr ⟨List.mem_of_getElem? (i := 232) rfl, (List.forall_mem_cons.mpr ⟨List.mem_of_getElem? (i := 233) rfl, (List.forall_mem_cons.mpr ⟨List.mem_of_getElem? (i := 234) rfl, (List.forall_mem_cons.mpr ⟨List.mem_of_getElem? (i := 235) rfl, (List.forall_mem_cons.mpr ⟨List.mem_of_getElem? (i := 236) rfl, (List.forall_mem_cons.mpr ⟨List.mem_of_getElem? (i := 237) rfl, (List.forall_mem_cons.mpr ⟨List.mem_of_getElem? (i := 22) rfl, (List.forall_mem_cons.mpr ⟨List.mem_of_getElem? (i := 238) rfl, (List.forall_mem_cons.mpr ⟨List.mem_of_getElem? (i := 239) rfl, (List.forall_mem_cons.mpr ⟨List.mem_of_getElem? (i := 240) rfl, (List.forall_mem_cons.mpr ⟨List.mem_of_getElem? (i := 241) rfl, (List.forall_mem_cons.mpr ⟨List.mem_of_getElem? (i := 242) rfl, (List.forall_mem_cons.mpr ⟨List.mem_of_getElem? (i := 243) rfl, (List.forall_mem_cons.mpr ⟨List.mem_of_getElem? (i := 244) rfl, (List.forall_mem_cons.mpr ⟨List.mem_of_getElem? (i := 21) rfl, (List.forall_mem_cons.mpr ⟨List.mem_of_getElem? (i := 245) rfl, (List.forall_mem_cons.mpr ⟨List.mem_of_getElem? (i := 78) rfl, (List.forall_mem_cons.mpr ⟨List.mem_of_getElem? (i := 246) rfl, (List.forall_mem_cons.mpr ⟨List.mem_of_getElem? (i := 247) rfl, (List.forall_mem_cons.mpr ⟨List.mem_of_getElem? (i := 248) rfl, (List.forall_mem_cons.mpr ⟨List.mem_of_getElem? (i := 249) rfl, (List.forall_mem_cons.mpr ⟨List.mem_of_getElem? (i := 250) rfl, (fun _ h => absurd h List.not_mem_nil)⟩)⟩)⟩)⟩)⟩)⟩)⟩)⟩)⟩)⟩)⟩)⟩)⟩)⟩)⟩)⟩)⟩)⟩)⟩)⟩)⟩)⟩)⟩)⟩)
set_option maxRecDepth 20000 in
theorem m_ggL_law_L_acts_wsL_acts_r9 : ∀ w ∈ wsL_acts_r9, w ∈ wsL_law := (List.forall_mem_cons.mpr ⟨List.mem_of_getElem? (i := 251) rfl, (List.forall_mem_cons.mpr ⟨List.mem_of_getElem? (i := 252) rfl, (List.forall_mem_cons.mpr ⟨List.mem_of_getElem? (i := 253) rfl, (List.forall_mem_cons.mpr ⟨List.mem_of_getElem? (i := 254) rfl, (List.forall_mem_cons.mpr ⟨List.mem_of_getElem? (i := 255) rfl, (List.forall_mem_cons.mpr ⟨List.mem_of_getElem? (i := 256) rfl, (List.forall_mem_cons.mpr ⟨List.mem_of_getElem? (i := 257) rfl, (List.forall_mem_cons.mpr ⟨List.mem_of_getElem? (i := 258) rfl, (List.forall_mem_cons.mpr ⟨List.mem_of_getElem? (i := 259) rfl, (List.forall_mem_cons.mpr ⟨List.mem_of_getElem? (i := 260) rfl, (List.forall_mem_cons.mpr ⟨List.mem_of_getElem? (i := 261) rfl, (List.forall_mem_cons.mpr ⟨List.mem_of_getElem? (i := 262) rfl, (List.forall_mem_cons.mpr ⟨List.mem_of_getElem? (i := 263) rfl, (List.forall_mem_cons.mpr ⟨List.mem_of_getElem? (i := 264) rfl, (List.forall_mem_cons.mpr ⟨List.mem_of_getElem? (i := 265) rfl, (List.forall_mem_cons.mpr ⟨List.mem_of_getElem? (i := 266) rfl, (List.forall_mem_cons.mpr ⟨List.mem_of_getElem? (i := 267) rfl, (List.forall_mem_cons.mpr ⟨List.mem_of_getElem? (i := 268) rfl, (List.forall_mem_cons.mpr ⟨List.mem_of_getElem? (i := 269) rfl, (List.forall_mem_cons.mpr ⟨List.mem_of_getElem? (i := 270) rfl, (List.forall_mem_cons.mpr ⟨List.mem_of_getElem? (i := 271) rfl, (List.forall_mem_cons.mpr ⟨List.mem_of_getElem? (i := 272) rfl, (List.forall_mem_cons.mpr ⟨List.mem_of_getElem? (i := 273) rfl, (List.forall_mem_cons.mpr ⟨List.mem_of_getElem? (i := 274) rfl, (fun _ h => absurd h List.not_mem_nil)⟩)⟩)⟩)⟩)⟩)⟩)⟩)⟩)⟩)⟩)⟩)⟩)⟩)⟩)⟩)⟩)⟩)⟩)⟩)⟩)⟩)⟩)⟩)⟩)
set_option maxRecDepth 20000 in
theorem m_ggL_law_L_acts_wsL_acts_r10 : ∀ w ∈ wsL_acts_r10, w ∈ wsL_law := (List.forall_mem_cons.mpr ⟨List.mem_of_getElem? (i := 275) rfl, (List.forall_mem_cons.mpr ⟨List.mem_of_getElem? (i := 276) rfl, (List.forall_mem_cons.mpr ⟨List.mem_of_getElem? (i := 277) rfl, (List.forall_mem_cons.mpr ⟨List.mem_of_getElem? (i := 278) rfl, (List.forall_mem_cons.mpr ⟨List.mem_of_getElem? (i := 279) rfl, (List.forall_mem_cons.mpr ⟨List.mem_of_getElem? (i := 280) rfl, (List.forall_mem_cons.mpr ⟨List.mem_of_getElem? (i := 281) rfl, (List.forall_mem_cons.mpr ⟨List.mem_of_getElem? (i := 282) rfl, (List.forall_mem_cons.mpr ⟨List.mem_of_getElem? (i := 283) rfl, (List.forall_mem_cons.mpr ⟨List.mem_of_getElem? (i := 284) rfl, (List.forall_mem_cons.mpr ⟨List.mem_of_getElem? (i := 285) rfl, (List.forall_mem_cons.mpr ⟨List.mem_of_getElem? (i := 286) rfl, (List.forall_mem_cons.mpr ⟨List.mem_of_getElem? (i := 287) rfl, (List.forall_mem_cons.mpr ⟨List.mem_of_getElem? (i := 288) rfl, (List.forall_mem_cons.mpr ⟨List.mem_of_getElem? (i := 289) rfl, (List.forall_mem_cons.mpr ⟨List.mem_of_getElem? (i := 290) rfl, (List.forall_mem_cons.mpr ⟨List.mem_of_getElem? (i := 291) rfl, (List.forall_mem_cons.mpr ⟨List.mem_of_getElem? (i := 292) rfl, (List.forall_mem_cons.mpr ⟨List.mem_of_getElem? (i := 293) rfl, (List.forall_mem_cons.mpr ⟨List.mem_of_getElem? (i := 294) rfl, (List.forall_mem_cons.mpr ⟨List.mem_of_getElem? (i := 295) rfl, (List.forall_mem_cons.mpr ⟨List.mem_of_getElem? (i := 296) rfl, (List.forall_mem_cons.mpr ⟨List.mem_of_getElem? (i := 297) rfl, (List.forall_mem_cons.mpr ⟨List.mem_of_getElem? (i := 298) rfl, (fun _ h => absurd h List.not_mem_nil)⟩)⟩)⟩)⟩)⟩)⟩)⟩)⟩)⟩)⟩)⟩)⟩)⟩)⟩)⟩)⟩)⟩)⟩)⟩)⟩)⟩)⟩)⟩)⟩)
set_option maxRecDepth 20000 in
theorem m_ggL_law_L_acts_wsL_acts_r11 : ∀ w ∈ wsL_acts_r11, w ∈ wsL_law := (List.forall_mem_cons.mpr ⟨List.mem_of_getElem? (i := 299) rfl, (List.forall_mem_cons.mpr ⟨List.mem_of_getElem? (i := 300) rfl, (List.forall_mem_cons.mpr ⟨List.mem_of_getElem? (i := 301) rfl, (List.forall_mem_cons.mpr ⟨List.mem_of_getElem? (i := 302) rfl, (List.forall_mem_cons.mpr ⟨List.mem_of_getElem? (i := 303) rfl, (List.forall_mem_cons.mpr ⟨List.mem_of_getElem? (i := 304) rfl, (List.forall_mem_cons.mpr ⟨List.mem_of_getElem? (i := 305) rfl, (List.forall_mem_cons.mpr ⟨List.mem_of_getElem? (i := 306) rfl, (List.forall_mem_cons.mpr ⟨List.mem_of_getElem? (i := 307) rfl, (List.forall_mem_cons.mpr ⟨List.mem_of_getElem? (i := 308) rfl, (List.forall_mem_cons.mpr ⟨List.mem_of_getElem? (i := 309) rfl, (List.forall_mem_cons.mpr ⟨List.mem_of_getElem? (i := 310) rfl, (List.forall_mem_cons.mpr ⟨List.mem_of_getElem? (i := 311) rfl, (List.forall_mem_cons.mpr ⟨List.mem_of_getElem? (i := 312) rfl, (List.forall_mem_cons.mpr ⟨List.mem_of_getElem? (i := 313) rfl, (List.forall_mem_cons.mpr ⟨List.mem_of_getElem? (i := 314) rfl, (List.forall_mem_cons.mpr ⟨List.mem_of_getElem? (i := 315) rfl, (List.forall_mem_cons.mpr ⟨List.mem_of_getElem? (i := 316) rfl, (List.forall_mem_cons.mpr ⟨List.mem_of_getElem? (i := 317) rfl, (List.forall_mem_cons.mpr ⟨List.mem_of_getElem? (i := 318) rfl, (List.forall_mem_cons.mpr ⟨List.mem_of_getElem? (i := 319) rfl, (List.forall_mem_cons.mpr ⟨List.mem_of_getElem? (i := 320) rfl, (List.forall_mem_cons.mpr ⟨List.mem_of_getElem? (i := 321) rfl, (List.forall_mem_cons.mpr ⟨List.mem_of_getElem? (i := 322) rfl, (fun _ h => absurd h List.not_mem_nil)⟩)⟩)⟩)⟩)⟩)⟩)⟩)⟩)⟩)⟩)⟩)⟩)⟩)⟩)⟩)⟩)⟩)⟩)⟩)⟩)⟩)⟩)⟩)⟩)
set_option maxRecDepth 20000 in
theorem m_ggL_law_L_acts_wsL_acts_r12 : ∀ w ∈ wsL_acts_r12, w ∈ wsL_law := (List.forall_mem_cons.mpr ⟨List.mem_of_getElem? (i := 323) rfl, (List.forall_mem_cons.mpr ⟨List.mem_of_getElem? (i := 324) rfl, (List.forall_mem_cons.mpr ⟨List.mem_of_getElem? (i := 325) rfl, (List.forall_mem_cons.mpr ⟨List.mem_of_getElem? (i := 326) rfl, (List.forall_mem_cons.mpr ⟨List.mem_of_getElem? (i := 327) rfl, (List.forall_mem_cons.mpr ⟨List.mem_of_getElem? (i := 328) rfl, (List.forall_mem_cons.mpr ⟨List.mem_of_getElem? (i := 329) rfl, (List.forall_mem_cons.mpr ⟨List.mem_of_getElem? (i := 330) rfl, (List.forall_mem_cons.mpr ⟨List.mem_of_getElem? (i := 331) rfl, (List.forall_mem_cons.mpr ⟨List.mem_of_getElem? (i := 332) rfl, (List.forall_mem_cons.mpr ⟨List.mem_of_getElem? (i := 333) rfl, (List.forall_mem_cons.mpr ⟨List.mem_of_getElem? (i := 334) rfl, (List.forall_mem_cons.mpr ⟨List.mem_of_getElem? (i := 335) rfl, (List.forall_mem_cons.mpr ⟨List.mem_of_getElem? (i := 336) rfl, (List.forall_mem_cons.mpr ⟨List.mem_of_getElem? (i := 337) rfl, (List.forall_mem_cons.mpr ⟨List.mem_of_getElem? (i := 338) rfl, (List.forall_mem_cons.mpr ⟨List.mem_of_getElem? (i := 339) rfl, (List.forall_mem_cons.mpr ⟨List.mem_of_getElem? (i := 340) rfl, (List.forall_mem_cons.mpr ⟨List.mem_of_getElem? (i := 341) rfl, (List.forall_mem_cons.mpr ⟨List.mem_of_getElem? (i := 342) rfl, (List.forall_mem_cons.mpr ⟨List.mem_of_getElem? (i := 343) rfl, (List.forall_mem_cons.mpr ⟨List.mem_of_getElem? (i := 344) rfl, (List.forall_mem_cons.mpr ⟨List.mem_of_getElem? (i := 345) rfl, (List.forall_mem_cons.mpr ⟨List.mem_of_getElem? (i := 346) rfl, (fun _ h => absurd h List.not_mem_nil)⟩)⟩)⟩)⟩)⟩)⟩)⟩)⟩)⟩)⟩)⟩)⟩)⟩)⟩)⟩)⟩)⟩)⟩)⟩)⟩)⟩)⟩)⟩)⟩)
set_option maxRecDepth 20000 in
theorem m_ggL_law_L_acts_wsL_acts_r13 : ∀ w ∈ wsL_acts_r13, w ∈ wsL_law := (List.forall_mem_cons.mpr ⟨List.mem_of_getElem? (i := 347) rfl, (List.forall_mem_cons.mpr ⟨List.mem_of_getElem? (i := 348) rfl, (List.forall_mem_cons.mpr ⟨List.mem_of_getElem? (i := 349) rfl, (List.forall_mem_cons.mpr ⟨List.mem_of_getElem? (i := 350) rfl, (List.forall_mem_cons.mpr ⟨List.mem_of_getElem? (i := 351) rfl, (List.forall_mem_cons.mpr ⟨List.mem_of_getElem? (i := 352) rfl, (List.forall_mem_cons.mpr ⟨List.mem_of_getElem? (i := 353) rfl, (List.forall_mem_cons.mpr ⟨List.mem_of_getElem? (i := 354) rfl, (List.forall_mem_cons.mpr ⟨List.mem_of_getElem? (i := 355) rfl, (List.forall_mem_cons.mpr ⟨List.mem_of_getElem? (i := 356) rfl, (List.forall_mem_cons.mpr ⟨List.mem_of_getElem? (i := 357) rfl, (List.forall_mem_cons.mpr ⟨List.mem_of_getElem? (i := 358) rfl, (List.forall_mem_cons.mpr ⟨List.mem_of_getElem? (i := 359) rfl, (List.forall_mem_cons.mpr ⟨List.mem_of_getElem? (i := 360) rfl, (List.forall_mem_cons.mpr ⟨List.mem_of_getElem? (i := 361) rfl, (List.forall_mem_cons.mpr ⟨List.mem_of_getElem? (i := 362) rfl, (List.forall_mem_cons.mpr ⟨List.mem_of_getElem? (i := 14) rfl, (List.forall_mem_cons.mpr ⟨List.mem_of_getElem? (i := 363) rfl, (List.forall_mem_cons.mpr ⟨List.mem_of_getElem? (i := 364) rfl, (List.forall_mem_cons.mpr ⟨List.mem_of_getElem? (i := 365) rfl, (List.forall_mem_cons.mpr ⟨List.mem_of_getElem? (i := 366) rfl, (List.forall_mem_cons.mpr ⟨List.mem_of_getElem? (i := 367) rfl, (List.forall_mem_cons.mpr ⟨List.mem_of_getElem? (i := 368) rfl, (List.forall_mem_cons.mpr ⟨List.mem_of_getElem? (i := 369) rfl, (fun _ h => absurd h List.not_mem_nil)⟩)⟩)⟩)⟩)⟩)⟩)⟩)⟩)⟩)⟩)⟩)⟩)⟩)⟩)⟩)⟩)⟩)⟩)⟩)⟩)⟩)⟩)⟩)⟩)
set_option maxRecDepth 20000 in
theorem m_ggL_law_L_acts_wsL_acts_r14 : ∀ w ∈ wsL_acts_r14, w ∈ wsL_law := (List.forall_mem_cons.mpr ⟨List.mem_of_getElem? (i := 370) rfl, (List.forall_mem_cons.mpr ⟨List.mem_of_getElem? (i := 371) rfl, (List.forall_mem_cons.mpr ⟨List.mem_of_getElem? (i := 372) rfl, (List.forall_mem_cons.mpr ⟨List.mem_of_getElem? (i := 373) rfl, (List.forall_mem_cons.mpr ⟨List.mem_of_getElem? (i := 374) rfl, (List.forall_mem_cons.mpr ⟨List.mem_of_getElem? (i := 375) rfl, (List.forall_mem_cons.mpr ⟨List.mem_of_getElem? (i := 376) rfl, (List.forall_mem_cons.mpr ⟨List.mem_of_getElem? (i := 377) rfl, (List.forall_mem_cons.mpr ⟨List.mem_of_getElem? (i := 378) rfl, (List.forall_mem_cons.mpr ⟨List.mem_of_getElem? (i := 379) rfl, (List.forall_mem_cons.mpr ⟨List.mem_of_getElem? (i := 380) rfl, (List.forall_mem_cons.mpr ⟨List.mem_of_getElem? (i := 381) rfl, (List.forall_mem_cons.mpr ⟨List.mem_of_getElem? (i := 382) rfl, (List.forall_mem_cons.mpr ⟨List.mem_of_getElem? (i := 383) rfl, (List.forall_mem_cons.mpr ⟨List.mem_of_getElem? (i := 384) rfl, (List.forall_mem_cons.mpr ⟨List.mem_of_getElem? (i := 385) rfl, (List.forall_mem_cons.mpr ⟨List.mem_of_getElem? (i := 386) rfl, (fun _ h => absurd h List.not_mem_nil)⟩)⟩)⟩)⟩)⟩)⟩)⟩)⟩)⟩)⟩)⟩)⟩)⟩)⟩)⟩)⟩)⟩)
set_option maxRecDepth 20000 in
theorem ggL_law_L_acts : GoodIn wsL_law wsL_acts := goodIn_sub (List.forall_mem_cons.mpr ⟨List.mem_of_getElem? (i := 91) rfl, (List.forall_mem_append.mpr ⟨(List.forall_mem_append.mpr ⟨(List.forall_mem_append.mpr ⟨(List.forall_mem_append.mpr ⟨(List.forall_mem_append.mpr ⟨(List.forall_mem_append.mpr ⟨(List.forall_mem_append.mpr ⟨m_ggL_law_L_acts_wsL_acts_r1, (List.forall_mem_append.mpr ⟨m_ggL_law_L_acts_wsL_acts_r2, (List.forall_mem_append.mpr ⟨m_ggL_law_L_acts_wsL_acts_r3, (List.forall_mem_append.mpr ⟨m_ggL_law_L_acts_wsL_acts_r4, (List.forall_mem_append.mpr ⟨m_ggL_law_L_acts_wsL_acts_r5, (List.forall_mem_append.mpr ⟨m_ggL_law_L_acts_wsL_acts_r6, (List.forall_mem_append.mpr ⟨m_ggL_law_L_acts_wsL_acts_r7, (List.forall_mem_append.mpr ⟨m_ggL_law_L_acts_wsL_acts_r8, (List.forall_mem_append.mpr ⟨m_ggL_law_L_acts_wsL_acts_r9, (List.forall_mem_append.mpr ⟨m_ggL_law_L_acts_wsL_acts_r10, (List.forall_mem_append.mpr ⟨m_ggL_law_L_acts_wsL_acts_r11, (List.forall_mem_append.mpr ⟨m_ggL_law_L_acts_wsL_acts_r12, (List.forall_mem_append.mpr ⟨m_ggL_law_L_acts_wsL_acts_r13, m_ggL_law_L_acts_wsL_acts_r14⟩)⟩)⟩)⟩)⟩)⟩)⟩)⟩)⟩)⟩)⟩)⟩)⟩), (uin_at (us := wsX50) 512 rfl)⟩), (uin_at (us := wsX40) 518 rfl)⟩), (uin_at (us := wsX30) 539 rfl)⟩), (uin_at (us := wsX10) 529 rfl)⟩), (uin_at (us := wsX20) 540 rfl)⟩), (uin_at (us := wsX00) 532 rfl)⟩)⟩) (by decide +kernel)
set_option maxRecDepth 20000 in
theorem gL_law_L_acts : GoodIn wsL_law (va_wsS RL 151 yL_acts wsL_acts) := goodIn_app (goodIn_of _ (by decide +kernel)) ggL_law_L_acts
set_option maxRecDepth 20000 in
set_option maxRecDepth 20000 in
theorem m_ggL_law_L_told_wsL_told_r1 : ∀ w ∈ wsL_told_r1, w ∈ wsL_law := (List.forall_mem_cons.mpr ⟨List.mem_of_getElem? (i := 192) rfl, (List.forall_mem_cons.mpr ⟨List.mem_of_getElem? (i := 193) rfl, (List.forall_mem_cons.mpr ⟨List.mem_of_getElem? (i := 194) rfl, (List.forall_mem_cons.mpr ⟨List.mem_of_getElem? (i := 2) rfl, (List.forall_mem_cons.mpr ⟨List.mem_of_getElem? (i := 195) rfl, (List.forall_mem_cons.mpr ⟨List.mem_of_getElem? (i := 12) rfl, (List.forall_mem_cons.mpr ⟨List.mem_of_getElem? (i := 196) rfl, (List.forall_mem_cons.mpr ⟨List.mem_of_getElem? (i := 197) rfl, (List.forall_mem_cons.mpr ⟨List.mem_of_getElem? (i := 198) rfl, (List.forall_mem_cons.mpr ⟨List.mem_of_getElem? (i := 11) rfl, (List.forall_mem_cons.mpr ⟨List.mem_of_getElem? (i := 199) rfl, (List.forall_mem_cons.mpr ⟨List.mem_of_getElem? (i := 41) rfl, (List.forall_mem_cons.mpr ⟨List.mem_of_getElem? (i := 200) rfl, (List.forall_mem_cons.mpr ⟨List.mem_of_getElem? (i := 201) rfl, (List.forall_mem_cons.mpr ⟨List.mem_of_getElem? (i := 202) rfl, (List.forall_mem_cons.mpr ⟨List.mem_of_getElem? (i := 203) rfl, (List.forall_mem_cons.mpr ⟨List.mem_of_getElem? (i := 40) rfl, (List.forall_mem_cons.mpr ⟨List.mem_of_getElem? (i := 204) rfl, (List.forall_mem_cons.mpr ⟨List.mem_of_getElem? (i := 205) rfl, (List.forall_mem_cons.mpr ⟨List.mem_of_getElem? (i := 206) rfl, (List.forall_mem_cons.mpr ⟨List.mem_of_getElem? (i := 207) rfl, (List.forall_mem_cons.mpr ⟨List.mem_of_getElem? (i := 208) rfl, (List.forall_mem_cons.mpr ⟨List.mem_of_getElem? (i := 209) rfl, (List.forall_mem_cons.mpr ⟨List.mem_of_getElem? (i := 210) rfl, (fun _ h => absurd h List.not_mem_nil)⟩)⟩)⟩)⟩)⟩)⟩)⟩)⟩)⟩)⟩)⟩)⟩)⟩)⟩)⟩)⟩)⟩)⟩)⟩)⟩)⟩)⟩)⟩)⟩)
set_option maxRecDepth 20000 in
theorem m_ggL_law_L_told_wsL_told_r2 : ∀ w ∈ wsL_told_r2, w ∈ wsL_law := (List.forall_mem_cons.mpr ⟨List.mem_of_getElem? (i := 211) rfl, (List.forall_mem_cons.mpr ⟨List.mem_of_getElem? (i := 212) rfl, (List.forall_mem_cons.mpr ⟨List.mem_of_getElem? (i := 213) rfl, (List.forall_mem_cons.mpr ⟨List.mem_of_getElem? (i := 214) rfl, (List.forall_mem_cons.mpr ⟨List.mem_of_getElem? (i := 215) rfl, (List.forall_mem_cons.mpr ⟨List.mem_of_getElem? (i := 216) rfl, (List.forall_mem_cons.mpr ⟨List.mem_of_getElem? (i := 184) rfl, (List.forall_mem_cons.mpr ⟨List.mem_of_getElem? (i := 185) rfl, (List.forall_mem_cons.mpr ⟨List.mem_of_getElem? (i := 186) rfl, (List.forall_mem_cons.mpr ⟨List.mem_of_getElem? (i := 187) rfl, (List.forall_mem_cons.mpr ⟨List.mem_of_getElem? (i := 188) rfl, (List.forall_mem_cons.mpr ⟨List.mem_of_getElem? (i := 189) rfl, (List.forall_mem_cons.mpr ⟨List.mem_of_getElem? (i := 190) rfl, (List.forall_mem_cons.mpr ⟨List.mem_of_getElem? (i := 191) rfl, (List.forall_mem_cons.mpr ⟨List.mem_of_getElem? (i := 39) rfl, (List.forall_mem_cons.mpr ⟨List.mem_of_getElem? (i := 390) rfl, (List.forall_mem_cons.mpr ⟨List.mem_of_getElem? (i := 391) rfl, (List.forall_mem_cons.mpr ⟨List.mem_of_getElem? (i := 86) rfl, (List.forall_mem_cons.mpr ⟨List.mem_of_getElem? (i := 392) rfl, (List.forall_mem_cons.mpr ⟨List.mem_of_getElem? (i := 393) rfl, (List.forall_mem_cons.mpr ⟨List.mem_of_getElem? (i := 394) rfl, (List.forall_mem_cons.mpr ⟨List.mem_of_getElem? (i := 395) rfl, (List.forall_mem_cons.mpr ⟨List.mem_of_getElem? (i := 396) rfl, (List.forall_mem_cons.mpr ⟨List.mem_of_getElem? (i := 397) rfl, (fun _ h => absurd h List.not_mem_nil)⟩)⟩)⟩)⟩)⟩)⟩)⟩)⟩)⟩)⟩)⟩)⟩)⟩)⟩)⟩)⟩)⟩)⟩)⟩)⟩)⟩)⟩)⟩)⟩)
set_option maxRecDepth 20000 in
theorem m_ggL_law_L_told_wsL_told_r3 : ∀ w ∈ wsL_told_r3, w ∈ wsL_law := (List.forall_mem_cons.mpr ⟨List.mem_of_getElem? (i := 398) rfl, (List.forall_mem_cons.mpr ⟨List.mem_of_getElem? (i := 399) rfl, (List.forall_mem_cons.mpr ⟨List.mem_of_getElem? (i := 400) rfl, (List.forall_mem_cons.mpr ⟨List.mem_of_getElem? (i := 401) rfl, (List.forall_mem_cons.mpr ⟨List.mem_of_getElem? (i := 402) rfl, (List.forall_mem_cons.mpr ⟨List.mem_of_getElem? (i := 403) rfl, (List.forall_mem_cons.mpr ⟨List.mem_of_getElem? (i := 404) rfl, (List.forall_mem_cons.mpr ⟨List.mem_of_getElem? (i := 405) rfl, (List.forall_mem_cons.mpr ⟨List.mem_of_getElem? (i := 42) rfl, (List.forall_mem_cons.mpr ⟨List.mem_of_getElem? (i := 225) rfl, (List.forall_mem_cons.mpr ⟨List.mem_of_getElem? (i := 406) rfl, (List.forall_mem_cons.mpr ⟨List.mem_of_getElem? (i := 407) rfl, (List.forall_mem_cons.mpr ⟨List.mem_of_getElem? (i := 408) rfl, (List.forall_mem_cons.mpr ⟨List.mem_of_getElem? (i := 409) rfl, (List.forall_mem_cons.mpr ⟨List.mem_of_getElem? (i := 410) rfl, (List.forall_mem_cons.mpr ⟨List.mem_of_getElem? (i := 107) rfl, (List.forall_mem_cons.mpr ⟨List.mem_of_getElem? (i := 108) rfl, (List.forall_mem_cons.mpr ⟨List.mem_of_getElem? (i := 109) rfl, (List.forall_mem_cons.mpr ⟨List.mem_of_getElem? (i := 110) rfl, (List.forall_mem_cons.mpr ⟨List.mem_of_getElem? (i := 234) rfl, (List.forall_mem_cons.mpr ⟨List.mem_of_getElem? (i := 235) rfl, (List.forall_mem_cons.mpr ⟨List.mem_of_getElem? (i := 236) rfl, (List.forall_mem_cons.mpr ⟨List.mem_of_getElem? (i := 237) rfl, (List.forall_mem_cons.mpr ⟨List.mem_of_getElem? (i := 18) rfl, (fun _ h => absurd h List.not_mem_nil)⟩)⟩)⟩)⟩)⟩)⟩)⟩)⟩)⟩)⟩)⟩)⟩)⟩)⟩)⟩)⟩)⟩)⟩)⟩)⟩)⟩)⟩)⟩)⟩)
set_option maxRecDepth 20000 in
theorem m_ggL_law_L_told_wsL_told_r4 : ∀ w ∈ wsL_told_r4, w ∈ wsL_law := (List.forall_mem_cons.mpr ⟨List.mem_of_getElem? (i := 22) rfl, (List.forall_mem_cons.mpr ⟨List.mem_of_getElem? (i := 238) rfl, (List.forall_mem_cons.mpr ⟨List.mem_of_getElem? (i := 239) rfl, (List.forall_mem_cons.mpr ⟨List.mem_of_getElem? (i := 240) rfl, (List.forall_mem_cons.mpr ⟨List.mem_of_getElem? (i := 17) rfl, (List.forall_mem_cons.mpr ⟨List.mem_of_getElem? (i := 241) rfl, (List.forall_mem_cons.mpr ⟨List.mem_of_getElem? (i := 71) rfl, (List.forall_mem_cons.mpr ⟨List.mem_of_getElem? (i := 242) rfl, (List.forall_mem_cons.mpr ⟨List.mem_of_getElem? (i := 243) rfl, (List.forall_mem_cons.mpr ⟨List.mem_of_getElem? (i := 244) rfl, (List.forall_mem_cons.mpr ⟨List.mem_of_getElem? (i := 21) rfl, (List.forall_mem_cons.mpr ⟨List.mem_of_getElem? (i := 245) rfl, (List.forall_mem_cons.mpr ⟨List.mem_of_getElem? (i := 78) rfl, (List.forall_mem_cons.mpr ⟨List.mem_of_getElem? (i := 246) rfl, (List.forall_mem_cons.mpr ⟨List.mem_of_getElem? (i := 247) rfl, (List.forall_mem_cons.mpr ⟨List.mem_of_getElem? (i := 248) rfl, (List.forall_mem_cons.mpr ⟨List.mem_of_getElem? (i := 249) rfl, (List.forall_mem_cons.mpr ⟨List.mem_of_getElem? (i := 37) rfl, (List.forall_mem_cons.mpr ⟨List.mem_of_getElem? (i := 411) rfl, (List.forall_mem_cons.mpr ⟨List.mem_of_getElem? (i := 412) rfl, (List.forall_mem_cons.mpr ⟨List.mem_of_getElem? (i := 413) rfl, (List.forall_mem_cons.mpr ⟨List.mem_of_getElem? (i := 414) rfl, (List.forall_mem_cons.mpr ⟨List.mem_of_getElem? (i := 415) rfl, (List.forall_mem_cons.mpr ⟨List.mem_of_getElem? (i := 416) rfl, (fun _ h => absurd h List.not_mem_nil)⟩)⟩)⟩)⟩)⟩)⟩)⟩)⟩)⟩)⟩)⟩)⟩)⟩)⟩)⟩)⟩)⟩)⟩)⟩)⟩)⟩)⟩)⟩)⟩)
set_option maxRecDepth 20000 in
theorem m_ggL_law_L_told_wsL_told_r5 : ∀ w ∈ wsL_told_r5, w ∈ wsL_law := (List.forall_mem_cons.mpr ⟨List.mem_of_getElem? (i := 417) rfl, (List.forall_mem_cons.mpr ⟨List.mem_of_getElem? (i := 418) rfl, (List.forall_mem_cons.mpr ⟨List.mem_of_getElem? (i := 419) rfl, (List.forall_mem_cons.mpr ⟨List.mem_of_getElem? (i := 420) rfl, (List.forall_mem_cons.mpr ⟨List.mem_of_getElem? (i := 421) rfl, (List.forall_mem_cons.mpr ⟨List.mem_of_getElem? (i := 289) rfl, (List.forall_mem_cons.mpr ⟨List.mem_of_getElem? (i := 290) rfl, (List.forall_mem_cons.mpr ⟨List.mem_of_getElem? (i := 291) rfl, (List.forall_mem_cons.mpr ⟨List.mem_of_getElem? (i := 292) rfl, (List.forall_mem_cons.mpr ⟨List.mem_of_getElem? (i := 293) rfl, (List.forall_mem_cons.mpr ⟨List.mem_of_getElem? (i := 272) rfl, (List.forall_mem_cons.mpr ⟨List.mem_of_getElem? (i := 273) rfl, (List.forall_mem_cons.mpr ⟨List.mem_of_getElem? (i := 34) rfl, (List.forall_mem_cons.mpr ⟨List.mem_of_getElem? (i := 274) rfl, (List.forall_mem_cons.mpr ⟨List.mem_of_getElem? (i := 63) rfl, (List.forall_mem_cons.mpr ⟨List.mem_of_getElem? (i := 62) rfl, (List.forall_mem_cons.mpr ⟨List.mem_of_getElem? (i := 61) rfl, (fun _ h => absurd h List.not_mem_nil)⟩)⟩)⟩)⟩)⟩)⟩)⟩)⟩)⟩)⟩)⟩)⟩)⟩)⟩)⟩)⟩)⟩)
set_option maxRecDepth 20000 in
theorem ggL_law_L_told : GoodIn wsL_law wsL_told := goodIn_sub (List.forall_mem_cons.mpr ⟨List.mem_of_getElem? (i := 389) rfl, (List.forall_mem_append.mpr ⟨(List.forall_mem_append.mpr ⟨(List.forall_mem_append.mpr ⟨(List.forall_mem_append.mpr ⟨(List.forall_mem_append.mpr ⟨(List.forall_mem_append.mpr ⟨m_ggL_law_L_told_wsL_told_r1, (List.forall_mem_append.mpr ⟨m_ggL_law_L_told_wsL_told_r2, (List.forall_mem_append.mpr ⟨m_ggL_law_L_told_wsL_told_r3, (List.forall_mem_append.mpr ⟨m_ggL_law_L_told_wsL_told_r4, m_ggL_law_L_told_wsL_told_r5⟩)⟩)⟩)⟩), (uin_at (us := wsX50) 512 rfl)⟩), (uin_at (us := wsX40) 518 rfl)⟩), (uin_at (us := wsX10) 529 rfl)⟩), (uin_at (us := wsX00) 532 rfl)⟩), (uin_at (us := wsX20) 540 rfl)⟩)⟩) (by decide +kernel)
set_option maxRecDepth 20000 in
theorem gL_law_L_told : GoodIn wsL_law (va_wsS RL 154 yL_told wsL_told) := goodIn_app (goodIn_of _ (by decide +kernel)) ggL_law_L_told
set_option maxRecDepth 20000 in
set_option maxRecDepth 20000 in
theorem m_ggL_law_L_errors_wsL_errors_r1 : ∀ w ∈ wsL_errors_r1, w ∈ wsL_law := (List.forall_mem_cons.mpr ⟨List.mem_of_getElem? (i := 425) rfl, (List.forall_mem_cons.mpr ⟨List.mem_of_getElem? (i := 426) rfl, (List.forall_mem_cons.mpr ⟨List.mem_of_getElem? (i := 427) rfl, (List.forall_mem_cons.mpr ⟨List.mem_of_getElem? (i := 428) rfl, (List.forall_mem_cons.mpr ⟨List.mem_of_getElem? (i := 139) rfl, (List.forall_mem_cons.mpr ⟨List.mem_of_getElem? (i := 140) rfl, (List.forall_mem_cons.mpr ⟨List.mem_of_getElem? (i := 141) rfl, (List.forall_mem_cons.mpr ⟨List.mem_of_getElem? (i := 2) rfl, (List.forall_mem_cons.mpr ⟨List.mem_of_getElem? (i := 142) rfl, (List.forall_mem_cons.mpr ⟨List.mem_of_getElem? (i := 12) rfl, (List.forall_mem_cons.mpr ⟨List.mem_of_getElem? (i := 18) rfl, (List.forall_mem_cons.mpr ⟨List.mem_of_getElem? (i := 100) rfl, (List.forall_mem_cons.mpr ⟨List.mem_of_getElem? (i := 101) rfl, (List.forall_mem_cons.mpr ⟨List.mem_of_getElem? (i := 30) rfl, (List.forall_mem_cons.mpr ⟨List.mem_of_getElem? (i := 102) rfl, (List.forall_mem_cons.mpr ⟨List.mem_of_getElem? (i := 143) rfl, (List.forall_mem_cons.mpr ⟨List.mem_of_getElem? (i := 144) rfl, (List.forall_mem_cons.mpr ⟨List.mem_of_getElem? (i := 145) rfl, (List.forall_mem_cons.mpr ⟨List.mem_of_getElem? (i := 146) rfl, (List.forall_mem_cons.mpr ⟨List.mem_of_getElem? (i := 147) rfl, (List.forall_mem_cons.mpr ⟨List.mem_of_getElem? (i := 148) rfl, (List.forall_mem_cons.mpr ⟨List.mem_of_getElem? (i := 149) rfl, (List.forall_mem_cons.mpr ⟨List.mem_of_getElem? (i := 150) rfl, (List.forall_mem_cons.mpr ⟨List.mem_of_getElem? (i := 151) rfl, (fun _ h => absurd h List.not_mem_nil)⟩)⟩)⟩)⟩)⟩)⟩)⟩)⟩)⟩)⟩)⟩)⟩)⟩)⟩)⟩)⟩)⟩)⟩)⟩)⟩)⟩)⟩)⟩)⟩)
set_option maxRecDepth 20000 in
theorem m_ggL_law_L_errors_wsL_errors_r2 : ∀ w ∈ wsL_errors_r2, w ∈ wsL_law := (List.forall_mem_cons.mpr ⟨List.mem_of_getElem? (i := 152) rfl, (List.forall_mem_cons.mpr ⟨List.mem_of_getElem? (i := 103) rfl, (List.forall_mem_cons.mpr ⟨List.mem_of_getElem? (i := 104) rfl, (List.forall_mem_cons.mpr ⟨List.mem_of_getElem? (i := 105) rfl, (List.forall_mem_cons.mpr ⟨List.mem_of_getElem? (i := 106) rfl, (List.forall_mem_cons.mpr ⟨List.mem_of_getElem? (i := 57) rfl, (List.forall_mem_cons.mpr ⟨List.mem_of_getElem? (i := 153) rfl, (List.forall_mem_cons.mpr ⟨List.mem_of_getElem? (i := 154) rfl, (List.forall_mem_cons.mpr ⟨List.mem_of_getElem? (i := 155) rfl, (List.forall_mem_cons.mpr ⟨List.mem_of_getElem? (i := 17) rfl, (List.forall_mem_cons.mpr ⟨List.mem_of_getElem? (i := 156) rfl, (List.forall_mem_cons.mpr ⟨List.mem_of_getElem? (i := 70) rfl, (List.forall_mem_cons.mpr ⟨List.mem_of_getElem? (i := 71) rfl, (List.forall_mem_cons.mpr ⟨List.mem_of_getElem? (i := 157) rfl, (List.forall_mem_cons.mpr ⟨List.mem_of_getElem? (i := 158) rfl, (List.forall_mem_cons.mpr ⟨List.mem_of_getElem? (i := 159) rfl, (List.forall_mem_cons.mpr ⟨List.mem_of_getElem? (i := 160) rfl, (List.forall_mem_cons.mpr ⟨List.mem_of_getElem? (i := 161) rfl, (List.forall_mem_cons.mpr ⟨List.mem_of_getElem? (i := 162) rfl, (List.forall_mem_cons.mpr ⟨List.mem_of_getElem? (i := 163) rfl, (List.forall_mem_cons.mpr ⟨List.mem_of_getElem? (i := 164) rfl, (List.forall_mem_cons.mpr ⟨List.mem_of_getElem? (i := 69) rfl, (List.forall_mem_cons.mpr ⟨List.mem_of_getElem? (i := 165) rfl, (List.forall_mem_cons.mpr ⟨List.mem_of_getElem? (i := 166) rfl, (fun _ h => absurd h List.not_mem_nil)⟩)⟩)⟩)⟩)⟩)⟩)⟩)⟩)⟩)⟩)⟩)⟩)⟩)⟩)⟩)⟩)⟩)⟩)⟩)⟩)⟩)⟩)⟩)⟩)
set_option maxRecDepth 20000 in
theorem m_ggL_law_L_errors_wsL_errors_r3 : ∀ w ∈ wsL_errors_r3, w ∈ wsL_law := (List.forall_mem_cons.mpr ⟨List.mem_of_getElem? (i := 167) rfl, (List.forall_mem_cons.mpr ⟨List.mem_of_getElem? (i := 11) rfl, (List.forall_mem_cons.mpr ⟨List.mem_of_getElem? (i := 168) rfl, (List.forall_mem_cons.mpr ⟨List.mem_of_getElem? (i := 31) rfl, (List.forall_mem_cons.mpr ⟨List.mem_of_getElem? (i := 35) rfl, (List.forall_mem_cons.mpr ⟨List.mem_of_getElem? (i := 37) rfl, (List.forall_mem_cons.mpr ⟨List.mem_of_getElem? (i := 47) rfl, (List.forall_mem_cons.mpr ⟨List.mem_of_getElem? (i := 48) rfl, (List.forall_mem_cons.mpr ⟨List.mem_of_getElem? (i := 49) rfl, (List.forall_mem_cons.mpr ⟨List.mem_of_getElem? (i := 50) rfl, (List.forall_mem_cons.mpr ⟨List.mem_of_getElem? (i := 39) rfl, (List.forall_mem_cons.mpr ⟨List.mem_of_getElem? (i := 40) rfl, (List.forall_mem_cons.mpr ⟨List.mem_of_getElem? (i := 41) rfl, (List.forall_mem_cons.mpr ⟨List.mem_of_getElem? (i := 42) rfl, (List.forall_mem_cons.mpr ⟨List.mem_of_getElem? (i := 43) rfl, (List.forall_mem_cons.mpr ⟨List.mem_of_getElem? (i := 44) rfl, (List.forall_mem_cons.mpr ⟨List.mem_of_getElem? (i := 45) rfl, (List.forall_mem_cons.mpr ⟨List.mem_of_getElem? (i := 46) rfl, (List.forall_mem_cons.mpr ⟨List.mem_of_getElem? (i := 169) rfl, (List.forall_mem_cons.mpr ⟨List.mem_of_getElem? (i := 170) rfl, (List.forall_mem_cons.mpr ⟨List.mem_of_getElem? (i := 171) rfl, (List.forall_mem_cons.mpr ⟨List.mem_of_getElem? (i := 172) rfl, (List.forall_mem_cons.mpr ⟨List.mem_of_getElem? (i := 173) rfl, (List.forall_mem_cons.mpr ⟨List.mem_of_getElem? (i := 174) rfl, (fun _ h => absurd h List.not_mem_nil)⟩)⟩)⟩)⟩)⟩)⟩)⟩)⟩)⟩)⟩)⟩)⟩)⟩)⟩)⟩)⟩)⟩)⟩)⟩)⟩)⟩)⟩)⟩)⟩)
set_option maxRecDepth 20000 in
theorem m_ggL_law_L_errors_wsL_errors_r4 : ∀ w ∈ wsL_errors_r4, w ∈ wsL_law := (List.forall_mem_cons.mpr ⟨List.mem_of_getElem? (i := 175) rfl, (List.forall_mem_cons.mpr ⟨List.mem_of_getElem? (i := 176) rfl, (List.forall_mem_cons.mpr ⟨List.mem_of_getElem? (i := 34) rfl, (List.forall_mem_cons.mpr ⟨List.mem_of_getElem? (i := 177) rfl, (List.forall_mem_cons.mpr ⟨List.mem_of_getElem? (i := 61) rfl, (List.forall_mem_cons.mpr ⟨List.mem_of_getElem? (i := 178) rfl, (List.forall_mem_cons.mpr ⟨List.mem_of_getElem? (i := 62) rfl, (List.forall_mem_cons.mpr ⟨List.mem_of_getElem? (i := 63) rfl, (List.forall_mem_cons.mpr ⟨List.mem_of_getElem? (i := 179) rfl, (List.forall_mem_cons.mpr ⟨List.mem_of_getElem? (i := 180) rfl, (List.forall_mem_cons.mpr ⟨List.mem_of_getElem? (i := 181) rfl, (List.forall_mem_cons.mpr ⟨List.mem_of_getElem? (i := 182) rfl, (List.forall_mem_cons.mpr ⟨List.mem_of_getElem? (i := 183) rfl, (List.forall_mem_cons.mpr ⟨List.mem_of_getElem? (i := 217) rfl, (List.forall_mem_cons.mpr ⟨List.mem_of_getElem? (i := 218) rfl, (List.forall_mem_cons.mpr ⟨List.mem_of_getElem? (i := 219) rfl, (List.forall_mem_cons.mpr ⟨List.mem_of_getElem? (i := 220) rfl, (List.forall_mem_cons.mpr ⟨List.mem_of_getElem? (i := 221) rfl, (List.forall_mem_cons.mpr ⟨List.mem_of_getElem? (i := 222) rfl, (List.forall_mem_cons.mpr ⟨List.mem_of_getElem? (i := 223) rfl, (List.forall_mem_cons.mpr ⟨List.mem_of_getElem? (i := 224) rfl, (List.forall_mem_cons.mpr ⟨List.mem_of_getElem? (i := 225) rfl, (List.forall_mem_cons.mpr ⟨List.mem_of_getElem? (i := 189) rfl, (List.forall_mem_cons.mpr ⟨List.mem_of_getElem? (i := 190) rfl, (fun _ h => absurd h List.not_mem_nil)⟩)⟩)⟩)⟩)⟩)⟩)⟩)⟩)⟩)⟩)⟩)⟩)⟩)⟩)⟩)⟩)⟩)⟩)⟩)⟩)⟩)⟩)⟩)⟩)
set_option maxRecDepth 20000 in
theorem m_ggL_law_L_errors_wsL_errors_r5 : ∀ w ∈ wsL_errors_r5, w ∈ wsL_law := (List.forall_mem_cons.mpr ⟨List.mem_of_getElem? (i := 191) rfl, (List.forall_mem_cons.mpr ⟨List.mem_of_getElem? (i := 196) rfl, (List.forall_mem_cons.mpr ⟨List.mem_of_getElem? (i := 197) rfl, (List.forall_mem_cons.mpr ⟨List.mem_of_getElem? (i := 198) rfl, (List.forall_mem_cons.mpr ⟨List.mem_of_getElem? (i := 199) rfl, (List.forall_mem_cons.mpr ⟨List.mem_of_getElem? (i := 188) rfl, (List.forall_mem_cons.mpr ⟨List.mem_of_getElem? (i := 226) rfl, (List.forall_mem_cons.mpr ⟨List.mem_of_getElem? (i := 227) rfl, (List.forall_mem_cons.mpr ⟨List.mem_of_getElem? (i := 228) rfl, (List.forall_mem_cons.mpr ⟨List.mem_of_getElem? (i := 229) rfl, (List.forall_mem_cons.mpr ⟨List.mem_of_getElem? (i := 301) rfl, (List.forall_mem_cons.mpr ⟨List.mem_of_getElem? (i := 302) rfl, (List.forall_mem_cons.mpr ⟨List.mem_of_getElem? (i := 303) rfl, (List.forall_mem_cons.mpr ⟨List.mem_of_getElem? (i := 304) rfl, (List.forall_mem_cons.mpr ⟨List.mem_of_getElem? (i := 305) rfl, (List.forall_mem_cons.mpr ⟨List.mem_of_getElem? (i := 306) rfl, (List.forall_mem_cons.mpr ⟨List.mem_of_getElem? (i := 307) rfl, (List.forall_mem_cons.mpr ⟨List.mem_of_getElem? (i := 308) rfl, (List.forall_mem_cons.mpr ⟨List.mem_of_getElem? (i := 309) rfl, (List.forall_mem_cons.mpr ⟨List.mem_of_getElem? (i := 310) rfl, (List.forall_mem_cons.mpr ⟨List.mem_of_getElem? (i := 276) rfl, (List.forall_mem_cons.mpr ⟨List.mem_of_getElem? (i := 277) rfl, (List.forall_mem_cons.mpr ⟨List.mem_of_getElem? (i := 278) rfl, (List.forall_mem_cons.mpr ⟨List.mem_of_getElem? (i := 279) rfl, (fun _ h => absurd h List.not_mem_nil)⟩)⟩)⟩)⟩)⟩)⟩)⟩)⟩)⟩)⟩)⟩)⟩)⟩)⟩)⟩)⟩)⟩)⟩)⟩)⟩)⟩)⟩)⟩)⟩)
set_option maxRecDepth 20000 in
theorem m_ggL_law_L_errors_wsL_errors_r6 : ∀ w ∈ wsL_errors_r6, w ∈ wsL_law := (List.forall_mem_cons.mpr ⟨List.mem_of_getElem? (i := 247) rfl, (List.forall_mem_cons.mpr ⟨List.mem_of_getElem? (i := 248) rfl, (List.forall_mem_cons.mpr ⟨List.mem_of_getElem? (i := 249) rfl, (List.forall_mem_cons.mpr ⟨List.mem_of_getElem? (i := 311) rfl, (List.forall_mem_cons.mpr ⟨List.mem_of_getElem? (i := 312) rfl, (List.forall_mem_cons.mpr ⟨List.mem_of_getElem? (i := 313) rfl, (List.forall_mem_cons.mpr ⟨List.mem_of_getElem? (i := 314) rfl, (List.forall_mem_cons.mpr ⟨List.mem_of_getElem? (i := 315) rfl, (List.forall_mem_cons.mpr ⟨List.mem_of_getElem? (i := 316) rfl, (List.forall_mem_cons.mpr ⟨List.mem_of_getElem? (i := 317) rfl, (List.forall_mem_cons.mpr ⟨List.mem_of_getElem? (i := 318) rfl, (List.forall_mem_cons.mpr ⟨List.mem_of_getElem? (i := 319) rfl, (List.forall_mem_cons.mpr ⟨List.mem_of_getElem? (i := 320) rfl, (List.forall_mem_cons.mpr ⟨List.mem_of_getElem? (i := 321) rfl, (List.forall_mem_cons.mpr ⟨List.mem_of_getElem? (i := 322) rfl, (List.forall_mem_cons.mpr ⟨List.mem_of_getElem? (i := 204) rfl, (List.forall_mem_cons.mpr ⟨List.mem_of_getElem? (i := 323) rfl, (List.forall_mem_cons.mpr ⟨List.mem_of_getElem? (i := 324) rfl, (List.forall_mem_cons.mpr ⟨List.mem_of_getElem? (i := 325) rfl, (List.forall_mem_cons.mpr ⟨List.mem_of_getElem? (i := 326) rfl, (List.forall_mem_cons.mpr ⟨List.mem_of_getElem? (i := 258) rfl, (List.forall_mem_cons.mpr ⟨List.mem_of_getElem? (i := 259) rfl, (List.forall_mem_cons.mpr ⟨List.mem_of_getElem? (i := 260) rfl, (List.forall_mem_cons.mpr ⟨List.mem_of_getElem? (i := 261) rfl, (fun _ h => absurd h List.not_mem_nil)⟩)⟩)⟩)⟩)⟩)⟩)⟩)⟩)⟩)⟩)⟩)⟩)⟩)⟩)⟩)⟩)⟩)⟩)⟩)⟩)⟩)⟩)⟩)⟩)
set_option maxRecDepth 20000 in
theorem m_ggL_law_L_errors_wsL_errors_r7 : ∀ w ∈ wsL_errors_r7, w ∈ wsL_law := (List.forall_mem_cons.mpr ⟨List.mem_of_getElem? (i := 262) rfl, (List.forall_mem_cons.mpr ⟨List.mem_of_getElem? (i := 327) rfl, (List.forall_mem_cons.mpr ⟨List.mem_of_getElem? (i := 328) rfl, (List.forall_mem_cons.mpr ⟨List.mem_of_getElem? (i := 329) rfl, (List.forall_mem_cons.mpr ⟨List.mem_of_getElem? (i := 330) rfl, (List.forall_mem_cons.mpr ⟨List.mem_of_getElem? (i := 331) rfl, (List.forall_mem_cons.mpr ⟨List.mem_of_getElem? (i := 332) rfl, (List.forall_mem_cons.mpr ⟨List.mem_of_getElem? (i := 333) rfl, (List.forall_mem_cons.mpr ⟨List.mem_of_getElem? (i := 334) rfl, (List.forall_mem_cons.mpr ⟨List.mem_of_getElem? (i := 335) rfl, (List.forall_mem_cons.mpr ⟨List.mem_of_getElem? (i := 336) rfl, (List.forall_mem_cons.mpr ⟨List.mem_of_getElem? (i := 337) rfl, (List.forall_mem_cons.mpr ⟨List.mem_of_getElem? (i := 338) rfl, (List.forall_mem_cons.mpr ⟨List.mem_of_getElem? (i := 339) rfl, (List.forall_mem_cons.mpr ⟨List.mem_of_getElem? (i := 340) rfl, (List.forall_mem_cons.mpr ⟨List.mem_of_getElem? (i := 341) rfl, (List.forall_mem_cons.mpr ⟨List.mem_of_getElem? (i := 342) rfl, (List.forall_mem_cons.mpr ⟨List.mem_of_getElem? (i := 343) rfl, (List.forall_mem_cons.mpr ⟨List.mem_of_getElem? (i := 344) rfl, (List.forall_mem_cons.mpr ⟨List.mem_of_getElem? (i := 345) rfl, (List.forall_mem_cons.mpr ⟨List.mem_of_getElem? (i := 346) rfl, (List.forall_mem_cons.mpr ⟨List.mem_of_getElem? (i := 347) rfl, (List.forall_mem_cons.mpr ⟨List.mem_of_getElem? (i := 348) rfl, (List.forall_mem_cons.mpr ⟨List.mem_of_getElem? (i := 349) rfl, (fun _ h => absurd h List.not_mem_nil)⟩)⟩)⟩)⟩)⟩)⟩)⟩)⟩)⟩)⟩)⟩)⟩)⟩)⟩)⟩)⟩)⟩)⟩)⟩)⟩)⟩)⟩)⟩)⟩)
set_option maxRecDepth 20000 in
theorem m_ggL_law_L_errors_wsL_errors_r8 : ∀ w ∈ wsL_errors_r8, w ∈ wsL_law := (List.forall_mem_cons.mpr ⟨List.mem_of_getElem? (i := 350) rfl, (List.forall_mem_cons.mpr ⟨List.mem_of_getElem? (i := 351) rfl, (List.forall_mem_cons.mpr ⟨List.mem_of_getElem? (i := 264) rfl, (List.forall_mem_cons.mpr ⟨List.mem_of_getElem? (i := 265) rfl, (List.forall_mem_cons.mpr ⟨List.mem_of_getElem? (i := 266) rfl, (List.forall_mem_cons.mpr ⟨List.mem_of_getElem? (i := 267) rfl, (List.forall_mem_cons.mpr ⟨List.mem_of_getElem? (i := 268) rfl, (List.forall_mem_cons.mpr ⟨List.mem_of_getElem? (i := 269) rfl, (List.forall_mem_cons.mpr ⟨List.mem_of_getElem? (i := 270) rfl, (List.forall_mem_cons.mpr ⟨List.mem_of_getElem? (i := 271) rfl, (List.forall_mem_cons.mpr ⟨List.mem_of_getElem? (i := 272) rfl, (List.forall_mem_cons.mpr ⟨List.mem_of_getElem? (i := 273) rfl, (List.forall_mem_cons.mpr ⟨List.mem_of_getElem? (i := 274) rfl, (List.forall_mem_cons.mpr ⟨List.mem_of_getElem? (i := 275) rfl, (List.forall_mem_cons.mpr ⟨List.mem_of_getElem? (i := 280) rfl, (List.forall_mem_cons.mpr ⟨List.mem_of_getElem? (i := 281) rfl, (List.forall_mem_cons.mpr ⟨List.mem_of_getElem? (i := 282) rfl, (List.forall_mem_cons.mpr ⟨List.mem_of_getElem? (i := 283) rfl, (List.forall_mem_cons.mpr ⟨List.mem_of_getElem? (i := 284) rfl, (List.forall_mem_cons.mpr ⟨List.mem_of_getElem? (i := 285) rfl, (List.forall_mem_cons.mpr ⟨List.mem_of_getElem? (i := 286) rfl, (List.forall_mem_cons.mpr ⟨List.mem_of_getElem? (i := 287) rfl, (List.forall_mem_cons.mpr ⟨List.mem_of_getElem? (i := 288) rfl, (List.forall_mem_cons.mpr ⟨List.mem_of_getElem? (i := 352) rfl, (fun _ h => absurd h List.not_mem_nil)⟩)⟩)⟩)⟩)⟩)⟩)⟩)⟩)⟩)⟩)⟩)⟩)⟩)⟩)⟩)⟩)⟩)⟩)⟩)⟩)⟩)⟩)⟩)⟩)
set_option maxRecDepth 20000 in
theorem m_ggL_law_L_errors_wsL_errors_r9 : ∀ w ∈ wsL_errors_r9, w ∈ wsL_law := (List.forall_mem_cons.mpr ⟨List.mem_of_getElem? (i := 353) rfl, (List.forall_mem_cons.mpr ⟨List.mem_of_getElem? (i := 354) rfl, (List.forall_mem_cons.mpr ⟨List.mem_of_getElem? (i := 355) rfl, (List.forall_mem_cons.mpr ⟨List.mem_of_getElem? (i := 374) rfl, (List.forall_mem_cons.mpr ⟨List.mem_of_getElem? (i := 375) rfl, (List.forall_mem_cons.mpr ⟨List.mem_of_getElem? (i := 376) rfl, (List.forall_mem_cons.mpr ⟨List.mem_of_getElem? (i := 377) rfl, (List.forall_mem_cons.mpr ⟨List.mem_of_getElem? (i := 14) rfl, (List.forall_mem_cons.mpr ⟨List.mem_of_getElem? (i := 363) rfl, (List.forall_mem_cons.mpr ⟨List.mem_of_getElem? (i := 364) rfl, (List.forall_mem_cons.mpr ⟨List.mem_of_getElem? (i := 359) rfl, (List.forall_mem_cons.mpr ⟨List.mem_of_getElem? (i := 360) rfl, (List.forall_mem_cons.mpr ⟨List.mem_of_getElem? (i := 361) rfl, (List.forall_mem_cons.mpr ⟨List.mem_of_getElem? (i := 362) rfl, (List.forall_mem_cons.mpr ⟨List.mem_of_getElem? (i := 96) rfl, (List.forall_mem_cons.mpr ⟨List.mem_of_getElem? (i := 97) rfl, (List.forall_mem_cons.mpr ⟨List.mem_of_getElem? (i := 98) rfl, (List.forall_mem_cons.mpr ⟨List.mem_of_getElem? (i := 99) rfl, (List.forall_mem_cons.mpr ⟨List.mem_of_getElem? (i := 107) rfl, (List.forall_mem_cons.mpr ⟨List.mem_of_getElem? (i := 108) rfl, (List.forall_mem_cons.mpr ⟨List.mem_of_getElem? (i := 109) rfl, (List.forall_mem_cons.mpr ⟨List.mem_of_getElem? (i := 110) rfl, (List.forall_mem_cons.mpr ⟨List.mem_of_getElem? (i := 419) rfl, (List.forall_mem_cons.mpr ⟨List.mem_of_getElem? (i := 420) rfl, (fun _ h => absurd h List.not_mem_nil)⟩)⟩)⟩)⟩)⟩)⟩)⟩)⟩)⟩)⟩)⟩)⟩)⟩)⟩)⟩)⟩)⟩)⟩)⟩)⟩)⟩)⟩)⟩)⟩)
set_option maxRecDepth 20000 in
theorem m_ggL_law_L_errors_wsL_errors_r10 : ∀ w ∈ wsL_errors_r10, w ∈ wsL_law := (List.forall_mem_cons.mpr ⟨List.mem_of_getElem? (i := 86) rfl, (List.forall_mem_cons.mpr ⟨List.mem_of_getElem? (i := 421) rfl, (List.forall_mem_cons.mpr ⟨List.mem_of_getElem? (i := 378) rfl, (List.forall_mem_cons.mpr ⟨List.mem_of_getElem? (i := 379) rfl, (List.forall_mem_cons.mpr ⟨List.mem_of_getElem? (i := 380) rfl, (List.forall_mem_cons.mpr ⟨List.mem_of_getElem? (i := 381) rfl, (List.forall_mem_cons.mpr ⟨List.mem_of_getElem? (i := 382) rfl, (List.forall_mem_cons.mpr ⟨List.mem_of_getElem? (i := 383) rfl, (List.forall_mem_cons.mpr ⟨List.mem_of_getElem? (i := 184) rfl, (List.forall_mem_cons.mpr ⟨List.mem_of_getElem? (i := 185) rfl, (List.forall_mem_cons.mpr ⟨List.mem_of_getElem? (i := 186) rfl, (List.forall_mem_cons.mpr ⟨List.mem_of_getElem? (i := 187) rfl, (List.forall_mem_cons.mpr ⟨List.mem_of_getElem? (i := 234) rfl, (List.forall_mem_cons.mpr ⟨List.mem_of_getElem? (i := 235) rfl, (List.forall_mem_cons.mpr ⟨List.mem_of_getElem? (i := 236) rfl, (List.forall_mem_cons.mpr ⟨List.mem_of_getElem? (i := 237) rfl, (List.forall_mem_cons.mpr ⟨List.mem_of_getElem? (i := 22) rfl, (List.forall_mem_cons.mpr ⟨List.mem_of_getElem? (i := 238) rfl, (List.forall_mem_cons.mpr ⟨List.mem_of_getElem? (i := 239) rfl, (List.forall_mem_cons.mpr ⟨List.mem_of_getElem? (i := 240) rfl, (List.forall_mem_cons.mpr ⟨List.mem_of_getElem? (i := 241) rfl, (List.forall_mem_cons.mpr ⟨List.mem_of_getElem? (i := 242) rfl, (List.forall_mem_cons.mpr ⟨List.mem_of_getElem? (i := 243) rfl, (List.forall_mem_cons.mpr ⟨List.mem_of_getElem? (i := 244) rfl, (fun _ h => absurd h List.not_mem_nil)⟩)⟩)⟩)⟩)⟩)⟩)⟩)⟩)⟩)⟩)⟩)⟩)⟩)⟩)⟩)⟩)⟩)⟩)⟩)⟩)⟩)⟩)⟩)⟩)
set_option maxRecDepth 20000 in
theorem m_ggL_law_L_errors_wsL_errors_r11 : ∀ w ∈ wsL_errors_r11, w ∈ wsL_law := (List.forall_mem_cons.mpr ⟨List.mem_of_getElem? (i := 21) rfl, (List.forall_mem_cons.mpr ⟨List.mem_of_getElem? (i := 245) rfl, (List.forall_mem_cons.mpr ⟨List.mem_of_getElem? (i := 78) rfl, (List.forall_mem_cons.mpr ⟨List.mem_of_getElem? (i := 246) rfl, (List.forall_mem_cons.mpr ⟨List.mem_of_getElem? (i := 429) rfl, (List.forall_mem_cons.mpr ⟨List.mem_of_getElem? (i := 430) rfl, (List.forall_mem_cons.mpr ⟨List.mem_of_getElem? (i := 431) rfl, (List.forall_mem_cons.mpr ⟨List.mem_of_getElem? (i := 432) rfl, (List.forall_mem_cons.mpr ⟨List.mem_of_getElem? (i := 433) rfl, (List.forall_mem_cons.mpr ⟨List.mem_of_getElem? (i := 434) rfl, (List.forall_mem_cons.mpr ⟨List.mem_of_getElem? (i := 435) rfl, (List.forall_mem_cons.mpr ⟨List.mem_of_getElem? (i := 436) rfl, (List.forall_mem_cons.mpr ⟨List.mem_of_getElem? (i := 437) rfl, (List.forall_mem_cons.mpr ⟨List.mem_of_getElem? (i := 438) rfl, (List.forall_mem_cons.mpr ⟨List.mem_of_getElem? (i := 439) rfl, (List.forall_mem_cons.mpr ⟨List.mem_of_getElem? (i := 440) rfl, (List.forall_mem_cons.mpr ⟨List.mem_of_getElem? (i := 441) rfl, (List.forall_mem_cons.mpr ⟨List.mem_of_getElem? (i := 442) rfl, (List.forall_mem_cons.mpr ⟨List.mem_of_getElem? (i := 443) rfl, (List.forall_mem_cons.mpr ⟨List.mem_of_getElem? (i := 444) rfl, (List.forall_mem_cons.mpr ⟨List.mem_of_getElem? (i := 445) rfl, (List.forall_mem_cons.mpr ⟨List.mem_of_getElem? (i := 80) rfl, (List.forall_mem_cons.mpr ⟨List.mem_of_getElem? (i := 77) rfl, (List.forall_mem_cons.mpr ⟨List.mem_of_getElem? (i := 446) rfl, (fun _ h => absurd h List.not_mem_nil)⟩)⟩)⟩)⟩)⟩)⟩)⟩)⟩)⟩)⟩)⟩)⟩)⟩)⟩)⟩)⟩)⟩)⟩)⟩)⟩)⟩)⟩)⟩)⟩)
set_option maxRecDepth 20000 in
theorem m_ggL_law_L_errors_wsL_errors_r12 : ∀ w ∈ wsL_errors_r12, w ∈ wsL_law := (List.forall_mem_cons.mpr ⟨List.mem_of_getElem? (i := 447) rfl, (List.forall_mem_cons.mpr ⟨List.mem_of_getElem? (i := 448) rfl, (List.forall_mem_cons.mpr ⟨List.mem_of_getElem? (i := 449) rfl, (List.forall_mem_cons.mpr ⟨List.mem_of_getElem? (i := 81) rfl, (List.forall_mem_cons.mpr ⟨List.mem_of_getElem? (i := 82) rfl, (List.forall_mem_cons.mpr ⟨List.mem_of_getElem? (i := 83) rfl, (List.forall_mem_cons.mpr ⟨List.mem_of_getElem? (i := 450) rfl, (List.forall_mem_cons.mpr ⟨List.mem_of_getElem? (i := 451) rfl, (List.forall_mem_cons.mpr ⟨List.mem_of_getElem? (i := 452) rfl, (List.forall_mem_cons.mpr ⟨List.mem_of_getElem? (i := 453) rfl, (List.forall_mem_cons.mpr ⟨List.mem_of_getElem? (i := 454) rfl, (List.forall_mem_cons.mpr ⟨List.mem_of_getElem? (i := 455) rfl, (List.forall_mem_cons.mpr ⟨List.mem_of_getElem? (i := 456) rfl, (List.forall_mem_cons.mpr ⟨List.mem_of_getElem? (i := 457) rfl, (List.forall_mem_cons.mpr ⟨List.mem_of_getElem? (i := 458) rfl, (List.forall_mem_cons.mpr ⟨List.mem_of_getElem? (i := 459) rfl, (List.forall_mem_cons.mpr ⟨List.mem_of_getElem? (i := 460) rfl, (List.forall_mem_cons.mpr ⟨List.mem_of_getElem? (i := 461) rfl, (List.forall_mem_cons.mpr ⟨List.mem_of_getElem? (i := 79) rfl, (List.forall_mem_cons.mpr ⟨List.mem_of_getElem? (i := 462) rfl, (List.forall_mem_cons.mpr ⟨List.mem_of_getElem? (i := 463) rfl, (List.forall_mem_cons.mpr ⟨List.mem_of_getElem? (i := 464) rfl, (List.forall_mem_cons.mpr ⟨List.mem_of_getElem? (i := 465) rfl, (List.forall_mem_cons.mpr ⟨List.mem_of_getElem? (i := 466) rfl, (fun _ h => absurd h List.not_mem_nil)⟩)⟩)⟩)⟩)⟩)⟩)⟩)⟩)⟩)⟩)⟩)⟩)⟩)⟩)⟩)⟩)⟩)⟩)⟩)⟩)⟩)⟩)⟩)⟩)
set_option maxRecDepth 20000 in
theorem m_ggL_law_L_errors_wsL_errors_r13 : ∀ w ∈ wsL_errors_r13, w ∈ wsL_law := (List.forall_mem_cons.mpr ⟨List.mem_of_getElem? (i := 467) rfl, (List.forall_mem_cons.mpr ⟨List.mem_of_getElem? (i := 468) rfl, (List.forall_mem_cons.mpr ⟨List.mem_of_getElem? (i := 469) rfl, (List.forall_mem_cons.mpr ⟨List.mem_of_getElem? (i := 470) rfl, (List.forall_mem_cons.mpr ⟨List.mem_of_getElem? (i := 471) rfl, (List.forall_mem_cons.mpr ⟨List.mem_of_getElem? (i := 472) rfl, (List.forall_mem_cons.mpr ⟨List.mem_of_getElem? (i := 473) rfl, (List.forall_mem_cons.mpr ⟨List.mem_of_getElem? (i := 474) rfl, (List.forall_mem_cons.mpr ⟨List.mem_of_getElem? (i := 475) rfl, (List.forall_mem_cons.mpr ⟨List.mem_of_getElem? (i := 476) rfl, (List.forall_mem_cons.mpr ⟨List.mem_of_getElem? (i := 477) rfl, (List.forall_mem_cons.mpr ⟨List.mem_of_getElem? (i := 478) rfl, (List.forall_mem_cons.mpr ⟨List.mem_of_getElem? (i := 479) rfl, (List.forall_mem_cons.mpr ⟨List.mem_of_getElem? (i := 480) rfl, (List.forall_mem_cons.mpr ⟨List.mem_of_getElem? (i := 481) rfl, (List.forall_mem_cons.mpr ⟨List.mem_of_getElem? (i := 482) rfl, (List.forall_mem_cons.mpr ⟨List.mem_of_getElem? (i := 483) rfl, (List.forall_mem_cons.mpr ⟨List.mem_of_getElem? (i := 484) rfl, (List.forall_mem_cons.mpr ⟨List.mem_of_getElem? (i := 485) rfl, (List.forall_mem_cons.mpr ⟨List.mem_of_getElem? (i := 486) rfl, (List.forall_mem_cons.mpr ⟨List.mem_of_getElem? (i := 487) rfl, (List.forall_mem_cons.mpr ⟨List.mem_of_getElem? (i := 488) rfl, (List.forall_mem_cons.mpr ⟨List.mem_of_getElem? (i := 489) rfl, (List.forall_mem_cons.mpr ⟨List.mem_of_getElem? (i := 490) rfl, (fun _ h => absurd h List.not_mem_nil)⟩)⟩)⟩)⟩)⟩)⟩)⟩)⟩)⟩)⟩)⟩)⟩)⟩)⟩)⟩)⟩)⟩)⟩)⟩)⟩)⟩)⟩)⟩)⟩)
set_option maxRecDepth 20000 in
theorem m_ggL_law_L_errors_wsL_errors_r14 : ∀ w ∈ wsL_errors_r14, w ∈ wsL_law := (List.forall_mem_cons.mpr ⟨List.mem_of_getElem? (i := 491) rfl, (List.forall_mem_cons.mpr ⟨List.mem_of_getElem? (i := 492) rfl, (List.forall_mem_cons.mpr ⟨List.mem_of_getElem? (i := 493) rfl, (List.forall_mem_cons.mpr ⟨List.mem_of_getElem? (i := 494) rfl, (List.forall_mem_cons.mpr ⟨List.mem_of_getElem? (i := 495) rfl, (List.forall_mem_cons.mpr ⟨List.mem_of_getElem? (i := 496) rfl, (List.forall_mem_cons.mpr ⟨List.mem_of_getElem? (i := 497) rfl, (List.forall_mem_cons.mpr ⟨List.mem_of_getElem? (i := 498) rfl, (List.forall_mem_cons.mpr ⟨List.mem_of_getElem? (i := 499) rfl, (List.forall_mem_cons.mpr ⟨List.mem_of_getElem? (i := 500) rfl, (List.forall_mem_cons.mpr ⟨List.mem_of_getElem? (i := 501) rfl, (List.forall_mem_cons.mpr ⟨List.mem_of_getElem? (i := 502) rfl, (List.forall_mem_cons.mpr ⟨List.mem_of_getElem? (i := 503) rfl, (List.forall_mem_cons.mpr ⟨List.mem_of_getElem? (i := 504) rfl, (List.forall_mem_cons.mpr ⟨List.mem_of_getElem? (i := 505) rfl, (List.forall_mem_cons.mpr ⟨List.mem_of_getElem? (i := 506) rfl, (List.forall_mem_cons.mpr ⟨List.mem_of_getElem? (i := 507) rfl, (List.forall_mem_cons.mpr ⟨List.mem_of_getElem? (i := 508) rfl, (List.forall_mem_cons.mpr ⟨List.mem_of_getElem? (i := 509) rfl, (List.forall_mem_cons.mpr ⟨List.mem_of_getElem? (i := 510) rfl, (List.forall_mem_cons.mpr ⟨List.mem_of_getElem? (i := 511) rfl, (fun _ h => absurd h List.not_mem_nil)⟩)⟩)⟩)⟩)⟩)⟩)⟩)⟩)⟩)⟩)⟩)⟩)⟩)⟩)⟩)⟩)⟩)⟩)⟩)⟩)⟩)
set_option maxRecDepth 20000 in
theorem ggL_law_L_errors : GoodIn wsL_law wsL_errors := goodIn_sub (List.forall_mem_cons.mpr ⟨List.mem_of_getElem? (i := 424) rfl, (List.forall_mem_append.mpr ⟨(List.forall_mem_append.mpr ⟨(List.forall_mem_append.mpr ⟨(List.forall_mem_append.mpr ⟨(List.forall_mem_append.mpr ⟨(List.forall_mem_append.mpr ⟨(List.forall_mem_append.mpr ⟨m_ggL_law_L_errors_wsL_errors_r1, (List.forall_mem_append.mpr ⟨m_ggL_law_L_errors_wsL_errors_r2, (List.forall_mem_append.mpr ⟨m_ggL_law_L_errors_wsL_errors_r3, (List.forall_mem_append.mpr ⟨m_ggL_law_L_errors_wsL_errors_r4, (List.forall_mem_append.mpr ⟨m_ggL_law_L_errors_wsL_errors_r5, (List.forall_mem_append.mpr ⟨m_ggL_law_L_errors_wsL_errors_r6, (List.forall_mem_append.mpr ⟨m_ggL_law_L_errors_wsL_errors_r7, (List.forall_mem_append.mpr ⟨m_ggL_law_L_errors_wsL_errors_r8, (List.forall_mem_append.mpr ⟨m_ggL_law_L_errors_wsL_errors_r9, (List.forall_mem_append.mpr ⟨m_ggL_law_L_errors_wsL_errors_r10, (List.forall_mem_append.mpr ⟨m_ggL_law_L_errors_wsL_errors_r11, (List.forall_mem_append.mpr ⟨m_ggL_law_L_errors_wsL_errors_r12, (List.forall_mem_append.mpr ⟨m_ggL_law_L_errors_wsL_errors_r13, m_ggL_law_L_errors_wsL_errors_r14⟩)⟩)⟩)⟩)⟩)⟩)⟩)⟩)⟩)⟩)⟩)⟩)⟩), (uin_at (us := wsX50) 512 rfl)⟩), (uin_at (us := wsX40) 518 rfl)⟩), (uin_at (us := wsX30) 539 rfl)⟩), (uin_at (us := wsX10) 529 rfl)⟩), (uin_at (us := wsX20) 540 rfl)⟩), (uin_at (us := wsX00) 532 rfl)⟩)⟩) (by decide +kernel)
set_option maxRecDepth 20000 in
theorem gL_law_L_errors : GoodIn wsL_law (va_wsS RL 157 yL_errors wsL_errors) := goodIn_app (goodIn_of _ (by decide +kernel)) ggL_law_L_errors
theorem dL_law_0 : decode cL_law 0 = .ok (.new 39, 3) := by decide +kernel
theorem dL_law_3 : decode cL_law 3 = .ok (.dup, 1) := by decide +kernel
theorem dL_law_4 : decode cL_law 4 = .ok (.invokespecial 146, 3) := by decide +kernel
theorem dL_law_7 : decode cL_law 7 = .ok (.astore_n 1, 1) := by decide +kernel
theorem dL_law_8 : decode cL_law 8 = .ok (.iconst 0, 1) := by decide +kernel
theorem dL_law_9 : decode cL_law 9 = .ok (.istore_n 2, 1) := by decide +kernel
theorem dL_law_10 : decode cL_law 10 = .ok (.iload_n 2, 1) := by decide +kernel
theorem dL_law_11 : decode cL_law 11 = .ok (.bipush 60, 2) := by decide +kernel
theorem dL_law_13 : decode cL_law 13 = .ok (.if_icmp .ge 41, 3) := by decide +kernel
theorem dL_law_16 : decode cL_law 16 = .ok (.aload_n 1, 1) := by decide +kernel
theorem dL_law_17 : decode cL_law 17 = .ok (.aload_n 0, 1) := by decide +kernel
theorem dL_law_18 : decode cL_law 18 = .ok (.iconst 2, 1) := by decide +kernel
theorem dL_law_19 : decode cL_law 19 = .ok (.iload_n 2, 1) := by decide +kernel
theorem dL_law_20 : decode cL_law 20 = .ok (.imul, 1) := by decide +kernel
theorem dL_law_21 : decode cL_law 21 = .ok (.invokestatic 147, 3) := by decide +kernel
theorem dL_law_24 : decode cL_law 24 = .ok (.aload_n 0, 1) := by decide +kernel
theorem dL_law_25 : decode cL_law 25 = .ok (.iconst 2, 1) := by decide +kernel
theorem dL_law_26 : decode cL_law 26 = .ok (.iload_n 2, 1) := by decide +kernel
theorem dL_law_27 : decode cL_law 27 = .ok (.imul, 1) := by decide +kernel
theorem dL_law_28 : decode cL_law 28 = .ok (.iconst 1, 1) := by decide +kernel
theorem dL_law_29 : decode cL_law 29 = .ok (.iadd, 1) := by decide +kernel
theorem dL_law_30 : decode cL_law 30 = .ok (.invokestatic 147, 3) := by decide +kernel
theorem dL_law_33 : decode cL_law 33 = .ok (.invokestatic 151, 3) := by decide +kernel
theorem dL_law_36 : decode cL_law 36 = .ok (.ifCond .eq 10, 3) := by decide +kernel
theorem dL_law_39 : decode cL_law 39 = .ok (.aload_n 1, 1) := by decide +kernel
theorem dL_law_40 : decode cL_law 40 = .ok (.invokestatic 154, 3) := by decide +kernel
theorem dL_law_43 : decode cL_law 43 = .ok (.ifCond .ne 5, 3) := by decide +kernel
theorem dL_law_46 : decode cL_law 46 = .ok (.iconst 0, 1) := by decide +kernel
theorem dL_law_47 : decode cL_law 47 = .ok (.ireturn, 1) := by decide +kernel
theorem dL_law_48 : decode cL_law 48 = .ok (.iinc 2 1, 3) := by decide +kernel
theorem dL_law_51 : decode cL_law 51 = .ok (.goto (-41), 3) := by decide +kernel
theorem dL_law_54 : decode cL_law 54 = .ok (.aload_n 1, 1) := by decide +kernel
theorem dL_law_55 : decode cL_law 55 = .ok (.invokestatic 157, 3) := by decide +kernel
theorem dL_law_58 : decode cL_law 58 = .ok (.ireturn, 1) := by decide +kernel
end
section
/-! own words: the static tables, worlds of methods, calls -/
def tb_lo : Nat → Int32 := fun k => if k = 4 then 1 else 0
def tb_hi : Nat → Int32 := fun k => if k = 0 then 4 else if k = 1 then 3 else if k = 2 then 2 else if k = 3 then 1 else 2
def tb_gr : Nat → Int32 := fun k => if k = 0 then 300 else if k = 1 then 100 else 99
def tb_st : Nat → Int32 := fun k => if k = 0 then 5 else if k = 1 then 1 else if k = 2 then 20 else 30
def tb_mp : Nat → Int32 := fun k => ([15, 30, 45, 60, 0, 40, 75, 110, 150, 0, 5, 8, 10, 12, 0, 50, 90, 130, 180, 300] : List Int32).getD k 0
def sx_T (C n : String) (N : Nat) (f : Nat → Int32) (A : Nat → Prop) (U : State) (H : Heap) : Prop := ∃ t : Nat, va_Z C n "[I" (.ref t) A U H ∧ va_T .int t N (fun j => .int (f j)) A U H
theorem sx_T.moved {C n : String} {N : Nat} {f : Nat → Int32} {A : Nat → Prop} {u U : State} {H : Heap} (hvm : u.vm.Alike U.vm) (h : sx_T C n N f A u H) : sx_T C n N f A U H := by
  obtain ⟨t, h1, h2⟩ := h
  exact ⟨t, va_Z.moved hvm h1, va_T.moved hvm h2⟩
theorem sx_T.kept {C n : String} {N : Nat} {f : Nat → Int32} {A : Nat → Prop} {U : State} {H H1 : Heap} (h : sx_T C n N f A U H) (hq : ∀ a : Nat, a < H.size → ¬ A a → H1[a]? = H[a]?) : sx_T C n N f A U H1 := by
  obtain ⟨t, h1, h2⟩ := h
  exact ⟨t, va_Z.kept h1 hq, va_T.kept h2 hq⟩
theorem sx_T.narrow {C n : String} {N : Nat} {f : Nat → Int32} {A B : Nat → Prop} {U : State} {H : Heap} (h : sx_T C n N f A U H) (hAB : ∀ q, B q → A q) : sx_T C n N f B U H := by
  obtain ⟨t, h1, h2⟩ := h
  exact ⟨t, va_Z.narrow h1 hAB, va_T.narrow h2 hAB⟩
def SZ (A : Nat → Prop) (U : State) (H : Heap) : Prop := sx_T "ShiftMaps$State" "LOWER_CLUTCH" 5 tb_lo A U H ∧ sx_T "ShiftMaps$State" "HIGHER_CLUTCH" 5 tb_hi A U H ∧ sx_T "ShiftMaps$DriveText" "GREATEST" 3 tb_gr A U H ∧ sx_T "ShiftMaps$Maps" "AT_FIRST" 20 tb_mp A U H ∧ sx_T "ShiftMaps$State" "SETTINGS_AT_FIRST" 4 tb_st A U H
theorem SZ.moved {A : Nat → Prop} {u U : State} {H : Heap} (hvm : u.vm.Alike U.vm) (h : SZ A u H) : SZ A U H := ⟨h.1.moved hvm, h.2.1.moved hvm, h.2.2.1.moved hvm, h.2.2.2.1.moved hvm, h.2.2.2.2.moved hvm⟩
theorem SZ.kept {A : Nat → Prop} {U : State} {H H1 : Heap} (h : SZ A U H) (hq : ∀ a : Nat, a < H.size → ¬ A a → H1[a]? = H[a]?) : SZ A U H1 := ⟨h.1.kept hq, h.2.1.kept hq, h.2.2.1.kept hq, h.2.2.2.1.kept hq, h.2.2.2.2.kept hq⟩
theorem SZ.narrow {A B : Nat → Prop} {U : State} {H : Heap} (h : SZ A U H) (hAB : ∀ q, B q → A q) : SZ B U H := ⟨h.1.narrow hAB, h.2.1.narrow hAB, h.2.2.1.narrow hAB, h.2.2.2.1.narrow hAB, h.2.2.2.2.narrow hAB⟩
theorem SZ.F {A : Nat → Prop} {U : State} {H : Heap} (h : SZ A U H) : SZ (fun _ => False) U H := h.narrow (fun _ q => q.elim)
theorem SZ.at {A : Nat → Prop} {s : State} {H : Heap} {locs : List Loc} (h : SZ A s s.heap) (hS : va_S A s.heap H locs) : SZ A s H := h.kept (fun a h1 h2 => hS.2.1 a h1 h2)
/-- a value that gets a name -/
def bnd {α : Type} {β : Type} (x : α) (f : α → β) : β := f x
theorem nmv {α β : Type} {R : β} {T : α → β} {x : α} {G : Prop} (h : R = bnd x T) (k : ∀ v : α, v = x → R = T v → G) : G := k x rfl h
theorem bdv {α β : Type} {R : β} {T : α → Option β} {x : Option α} {G : Prop} (h : some R = x.bind T) (k : ∀ v : α, some v = x → some R = T v → G) : G := by
  cases x with
  | none => exact absurd h (fun q => by simp at q)
  | some v => exact k v rfl h
theorem gdv {β : Type} {R : β} {P : Prop} [Decidable P] {T : Option β} {G : Prop} (h : some R = if P then T else none) (k : P → some R = T → G) : G := by
  by_cases q : P
  · exact k q (h.trans (if_pos q))
  · exact absurd (h.trans (if_neg q)) (fun z => by cases z)
theorem in_of {x y : Int32} {n : Nat} (hy : Int32.ofNat n = y) (hn : n < 2 ^ 31) (h0 : ¬ x < 0) (h1 : ¬ y ≤ x) : vp_in x n := by
  subst hy
  rw [vp_in_iff]
  have e : (Int32.ofNat n).toInt = (n : Int) := nI_toInt hn
  rw [Int32.lt_iff_toInt_lt, Int32.toInt_zero] at h0
  rw [Int32.le_iff_toInt_le, e] at h1
  omega
theorem in_of2 {x y : Int32} {n : Nat} (hy : Int32.ofNat n = y) (hn : n < 2 ^ 31) (h0 : ¬ x < 0) (h1 : x < y) : vp_in x n := by
  subst hy
  rw [vp_in_iff]
  have e : (Int32.ofNat n).toInt = (n : Int) := nI_toInt hn
  rw [Int32.lt_iff_toInt_lt, Int32.toInt_zero] at h0
  rw [Int32.lt_iff_toInt_lt, e] at h1
  omega
theorem in_of3 {x : Int32} {n : Nat} (hn : n < 2 ^ 31) (h : 0 ≤ x.toInt ∧ x.toInt < n) : vp_in x n := vp_in_iff.mpr h
theorem va_D_adr {A : Nat → Prop} {w w' : va_W} (h : va_D A w) (e : w'.map (fun q => q.1) = w.map (fun q => q.1)) : va_D A w' := by
  have key : ∀ (k : Nat) (q : Nat × va_E), w'[k]? = some q → ∃ q0 : Nat × va_E, w[k]? = some q0 ∧ q0.1 = q.1 := by
    intro k q hk
    have h1 : (w'.map (fun q => q.1))[k]? = some q.1 := by rw [List.getElem?_map, hk]; rfl
    rw [e, List.getElem?_map] at h1
    cases h2 : w[k]? with
    | none => rw [h2] at h1; cases h1
    | some q0 => rw [h2] at h1; exact ⟨q0, rfl, Option.some.inj h1⟩
  refine ⟨fun i j x y hi hj hxy => ?_, fun k q hk => ?_⟩
  · obtain ⟨x0, a1, a2⟩ := key i x hi
    obtain ⟨y0, b1, b2⟩ := key j y hj
    exact h.1 i j x0 y0 a1 b1 (a2.trans (hxy.trans b2.symm))
  · obtain ⟨q0, a1, a2⟩ := key k q hk
    rw [← a2]
    exact h.2 k q0 a1
/-- the places that a world's cells are -/
def wA (ws : va_W) : Nat → Prop := fun q => ∃ (k : Nat) (e : va_E), ws[k]? = some (q, e)
theorem wA_in {A : Nat → Prop} {ws : va_W} (h : va_D A ws) : ∀ q, wA ws q → A q := fun q ⟨k, e, hk⟩ => h.2 k (q, e) hk
theorem va_D_own {A : Nat → Prop} {ws : va_W} (h : va_D A ws) : va_D (wA ws) ws := ⟨h.1, fun k q hk => ⟨k, q.2, hk⟩⟩
/-- some cells of a world by others at the same places -/
def spl (js : List (Nat ⊕ Nat)) (W W1 : va_W) : va_W := js.filterMap (fun j => match j with | .inl k => W[k]? | .inr k => W1[k]?)
theorem va_P_spl {D : va_G} {cl : List vw_C} {A : Nat → Prop} {W Wc W1 W' : va_W} {H H1 : Heap} (hP : va_P D cl W H) (hD : va_D A W) (isC : List Nat) (hC : isC.map (fun i => W[i]?) = Wc.map some) (hk : ∀ q : Nat, q < H.size → ¬ wA Wc q → H1[q]? = H[q]?) (hP1 : va_P D cl W1 H1) (js : List (Nat ⊕ Nat)) (hjs : ∀ j ∈ js, ∀ k : Nat, j = .inl k → k ∉ isC) (hs : spl js W W1 = W') : va_P D cl W' H1 := by
  intro k q hq
  subst hs
  obtain ⟨j, hj, hjq⟩ := List.mem_filterMap.mp (List.mem_of_getElem? hq)
  cases j with
  | inr a => exact hP1 a q hjq
  | inl a =>
    have hni := hjs _ hj a rfl
    have hWa : W[a]? = some q := hjq
    refine (hP a q hWa).kept (hk q.1 (hP a q hWa).lt (fun hz => ?_))
    obtain ⟨k2, e, hz⟩ := hz
    have h1 : (isC.map (fun i => W[i]?))[k2]? = some (some (q.1, e)) := by rw [hC, List.getElem?_map, hz]; rfl
    rw [List.getElem?_map] at h1
    cases hi : isC[k2]? with
    | none => rw [hi] at h1; cases h1
    | some i =>
      rw [hi] at h1
      have h2 : W[i]? = some (q.1, e) := Option.some.inj h1
      have hai := hD.1 a i q (q.1, e) hWa h2 rfl
      subst hai
      exact hni (List.mem_of_getElem? hi)
abbrev tyL (Y : Nat → ClassId) : List (ClassId × FieldType) := [(Y 0, .char), (Y 1, .float), (Y 2, .int), (Y 3, .object "ShiftMaps$State")]
/-- the links of nest mates -/
def NZ (U : State) : Prop := va_Nw (.fieldLinkNest RX5 54 RX4 "maps" "LShiftMaps$Maps;" RX5) U ∧ va_Nw (.fieldLinkNest RX5 187 RX4 "log" "LShiftMaps$Log;" RX5) U ∧ va_Nw (.fieldLinkNest RX5 88 RX4 "gear" "I" RX5) U ∧ va_Nw (.fieldLinkNest RX5 149 RX4 "target" "I" RX5) U ∧ va_Nw (.fieldLinkNest RX5 152 RX4 "done" "I" RX5) U ∧ va_Nw (.fieldLinkNest RX5 155 RX4 "held" "I" RX5) U ∧ va_Nw (.fieldLinkNest RX5 85 RX4 "handMode" "Z" RX5) U ∧ va_Nw (.methodLinkNest RX4 20 yX2_init RX5) U ∧ va_Nw (.methodLinkNest RX5 31 yX0_init RX5) U
theorem NZ.warm {s U : State} (hW : s.WarmedH U.vm) (h : NZ s) : NZ U := ⟨va_Nw.warmF hW h.1, va_Nw.warmF hW h.2.1, va_Nw.warmF hW h.2.2.1, va_Nw.warmF hW h.2.2.2.1, va_Nw.warmF hW h.2.2.2.2.1, va_Nw.warmF hW h.2.2.2.2.2.1, va_Nw.warmF hW h.2.2.2.2.2.2.1, va_Nw.warmM hW h.2.2.2.2.2.2.2.1, va_Nw.warmM hW h.2.2.2.2.2.2.2.2⟩
theorem NZ.same {s U : State} (e : s.vm = U.vm) (h : NZ s) : NZ U := ⟨va_Nw.same rfl e h.1, va_Nw.same rfl e h.2.1, va_Nw.same rfl e h.2.2.1, va_Nw.same rfl e h.2.2.2.1, va_Nw.same rfl e h.2.2.2.2.1, va_Nw.same rfl e h.2.2.2.2.2.1, va_Nw.same rfl e h.2.2.2.2.2.2.1, va_Nw.same rfl e h.2.2.2.2.2.2.2.1, va_Nw.same rfl e h.2.2.2.2.2.2.2.2⟩
theorem NZ.n54 {U : State} (h : NZ U) : va_Nw (.fieldLinkNest RX5 54 RX4 "maps" "LShiftMaps$Maps;" RX5) U := h.1
theorem NZ.n187 {U : State} (h : NZ U) : va_Nw (.fieldLinkNest RX5 187 RX4 "log" "LShiftMaps$Log;" RX5) U := h.2.1
theorem NZ.n88 {U : State} (h : NZ U) : va_Nw (.fieldLinkNest RX5 88 RX4 "gear" "I" RX5) U := h.2.2.1
theorem NZ.n149 {U : State} (h : NZ U) : va_Nw (.fieldLinkNest RX5 149 RX4 "target" "I" RX5) U := h.2.2.2.1
theorem NZ.n152 {U : State} (h : NZ U) : va_Nw (.fieldLinkNest RX5 152 RX4 "done" "I" RX5) U := h.2.2.2.2.1
theorem NZ.n155 {U : State} (h : NZ U) : va_Nw (.fieldLinkNest RX5 155 RX4 "held" "I" RX5) U := h.2.2.2.2.2.1
theorem NZ.n85 {U : State} (h : NZ U) : va_Nw (.fieldLinkNest RX5 85 RX4 "handMode" "Z" RX5) U := h.2.2.2.2.2.2.1
theorem NZ.ni2 {U : State} (h : NZ U) : va_Nw (.methodLinkNest RX4 20 yX2_init RX5) U := h.2.2.2.2.2.2.2.1
theorem NZ.ni0 {U : State} (h : NZ U) : va_Nw (.methodLinkNest RX5 31 yX0_init RX5) U := h.2.2.2.2.2.2.2.2
/-- the start of a method that only reads -/
def PR (D : va_G) (Y : Nat → ClassId) (ws : va_W) (U : State) : Prop := va_P D vwCl ws U.heap ∧ va_K D vwCl (tyL Y) U ∧ NZ U ∧ SZ (fun _ => False) U U.heap
/-- the start of a method that writes into its world -/
def PW (D : va_G) (Y : Nat → ClassId) (ws : va_W) (U : State) : Prop := va_P D vwCl ws U.heap ∧ va_K D vwCl (tyL Y) U ∧ NZ U ∧ SZ (wA ws) U U.heap ∧ va_D (wA ws) ws
theorem PR_blind {D : va_G} {Y : Nat → ClassId} {ws : va_W} {av : List Value} : FrameBlind (va_Pc av (PR D Y ws)) := fun a U g mk h => ⟨h.1, h.2.1, va_K.moved (u := U) (U := U.calling g mk a) (Vm.Alike.refl U.vm) h.2.2.1, NZ.same (s := U) (U := U.calling g mk a) rfl h.2.2.2.1, SZ.moved (u := U) (U := U.calling g mk a) (Vm.Alike.refl U.vm) h.2.2.2.2⟩
theorem PW_blind {D : va_G} {Y : Nat → ClassId} {ws : va_W} {av : List Value} : FrameBlind (va_Pc av (PW D Y ws)) := fun a U g mk h => ⟨h.1, h.2.1, va_K.moved (u := U) (U := U.calling g mk a) (Vm.Alike.refl U.vm) h.2.2.1, NZ.same (s := U) (U := U.calling g mk a) rfl h.2.2.2.1, SZ.moved (u := U) (U := U.calling g mk a) (Vm.Alike.refl U.vm) h.2.2.2.2.1, h.2.2.2.2.2⟩
section SXC
variable {p : Program} {l : Launch} {e : Env} {R : Room} {s : State} {m : MethodId} {args : Array Value} {below : List Frame} {meth : Method} {c : Code} {H : Heap} {locs : List Loc} {cells slots : Nat} {Q : State → Prop}
variable {y : MethodName} {bytes cc : ByteArray} {maxL nL n index : Nat} {ret : Option FieldType} {ws : List Cond} {rm : Room} {Ts : List Cond} {own C : String} {b : Addr} {As rest st0 : List Value} {pc : Nat} {ls : Array Slot}
variable {D : va_G} {Y : Nat → ClassId} {W0 Wc W1 W' : va_W} {A : Nat → Prop}
theorem PR_at (hP : va_P D vwCl Wc H) (hK : va_K D vwCl (tyL Y) s) (hN : NZ s) (hZ : SZ (fun _ => False) s H) (U : State) (hU : U.heap = H) (hW : s.WarmedH U.vm) : PR D Y Wc U := ⟨by rw [hU]; exact hP, va_K.moved hW.alike hK, NZ.warm hW hN, by rw [hU]; exact SZ.moved hW.alike hZ⟩
theorem PW_at (hP : va_P D vwCl Wc H) (hK : va_K D vwCl (tyL Y) s) (hN : NZ s) (hZ : SZ (wA Wc) s H) (hD : va_D (wA Wc) Wc) (U : State) (hU : U.heap = H) (hW : s.WarmedH U.vm) : PW D Y Wc U := ⟨by rw [hU]; exact hP, va_K.moved hW.alike hK, NZ.warm hW hN, by rw [hU]; exact SZ.moved hW.alike hZ, hD⟩
/-- calls that only read: of an object's method (V), of a static one (S); the answer is an int (i), a float (f) -/
theorem roV_i {rr : Int32} (S : CallFix p m c cc nL s args Ts own) (hM : Met l y ws rm (va_Pc (.ref b :: As) (PR D Y Wc)) (vp_Si (fun x => x = rr)) 0 0 (fun _ => False)) (cw : CallW R s args own C index y bytes maxL ret ws rm 0 0 n) (hP : va_P D vwCl Wc H) (hK : va_K D vwCl (tyL Y) s) (hN : NZ s) (hZ : SZ (fun _ => False) s H) (q0 ci : Nat) {fs : List Value} {T : u_T} {N : Nat} (he : Wc[q0]? = some (b, .inr (ci, fs))) (hc : vwCl[ci]? = some (C, T, N))
    (hn : As.length = n) (hsz : ls.size = nL) (hst : st0 = As.reverse ++ .ref b :: rest) (hw : (rest.map fun v => v.category).sum ≤ 8) (hdg : decode cc pc = .ok (.invokevirtual index, 3)) (hf : cells ≤ R.cells ∧ slots ≤ R.slots)
    (kk : W p l e R s m args below meth c H locs cells slots Q (F0 m (pc + 3) ls (.int rr :: rest))) : W p l e R s m args below meth c H locs cells slots Q (F0 m pc ls st0) :=
  vp_callSi (W.runV (g := F0 m pc ls st0) S hM cw ⟨PR_blind, va_recv hK hP hc he, fun U hU hW => ⟨rfl, PR_at hP hK hN hZ U hU hW⟩⟩ rfl hn hsz hst (lv_room hw) hdg hf) (fun r hr => by subst hr; exact kk)
theorem roV_f {rr : UInt32} (S : CallFix p m c cc nL s args Ts own) (hM : Met l y ws rm (va_Pc (.ref b :: As) (PR D Y Wc)) (vp_Sf (fun x => x = rr)) 0 0 (fun _ => False)) (cw : CallW R s args own C index y bytes maxL ret ws rm 0 0 n) (hP : va_P D vwCl Wc H) (hK : va_K D vwCl (tyL Y) s) (hN : NZ s) (hZ : SZ (fun _ => False) s H) (q0 ci : Nat) {fs : List Value} {T : u_T} {N : Nat} (he : Wc[q0]? = some (b, .inr (ci, fs))) (hc : vwCl[ci]? = some (C, T, N))
    (hn : As.length = n) (hsz : ls.size = nL) (hst : st0 = As.reverse ++ .ref b :: rest) (hw : (rest.map fun v => v.category).sum ≤ 8) (hdg : decode cc pc = .ok (.invokevirtual index, 3)) (hf : cells ≤ R.cells ∧ slots ≤ R.slots)
    (kk : W p l e R s m args below meth c H locs cells slots Q (F0 m (pc + 3) ls (.float rr :: rest))) : W p l e R s m args below meth c H locs cells slots Q (F0 m pc ls st0) :=
  vp_callSf (W.runV (g := F0 m pc ls st0) S hM cw ⟨PR_blind, va_recv hK hP hc he, fun U hU hW => ⟨rfl, PR_at hP hK hN hZ U hU hW⟩⟩ rfl hn hsz hst (lv_room hw) hdg hf) (fun r hr => by subst hr; exact kk)
theorem roS_i {rr : Int32} (S : CallFix p m c cc nL s args Ts own) (hM : Met l y ws rm (va_Pc As (PR D Y Wc)) (vp_Si (fun x => x = rr)) 0 0 (fun _ => False)) (cw : CallB R s args own index y bytes maxL ret ws rm 0 0 n ∧ (Cond.static y).before args s = true) (hP : va_P D vwCl Wc H) (hK : va_K D vwCl (tyL Y) s) (hN : NZ s) (hZ : SZ (fun _ => False) s H)
    (hn : As.length = n) (hsz : ls.size = nL) (hst : st0 = As.reverse ++ rest) (hw : (rest.map fun v => v.category).sum ≤ 8) (hdg : decode cc pc = .ok (.invokestatic index, 3)) (hf : cells ≤ R.cells ∧ slots ≤ R.slots)
    (kk : W p l e R s m args below meth c H locs cells slots Q (F0 m (pc + 3) ls (.int rr :: rest))) : W p l e R s m args below meth c H locs cells slots Q (F0 m pc ls st0) :=
  vp_callSi (W.runS (g := F0 m pc ls st0) S hM cw ⟨PR_blind, fun U hU hW => ⟨rfl, PR_at hP hK hN hZ U hU hW⟩⟩ rfl hn hsz hst (lv_room hw) hdg hf) (fun r hr => by subst hr; exact kk)
theorem roS_f {rr : UInt32} (S : CallFix p m c cc nL s args Ts own) (hM : Met l y ws rm (va_Pc As (PR D Y Wc)) (vp_Sf (fun x => x = rr)) 0 0 (fun _ => False)) (cw : CallB R s args own index y bytes maxL ret ws rm 0 0 n ∧ (Cond.static y).before args s = true) (hP : va_P D vwCl Wc H) (hK : va_K D vwCl (tyL Y) s) (hN : NZ s) (hZ : SZ (fun _ => False) s H)
    (hn : As.length = n) (hsz : ls.size = nL) (hst : st0 = As.reverse ++ rest) (hw : (rest.map fun v => v.category).sum ≤ 8) (hdg : decode cc pc = .ok (.invokestatic index, 3)) (hf : cells ≤ R.cells ∧ slots ≤ R.slots)
    (kk : W p l e R s m args below meth c H locs cells slots Q (F0 m (pc + 3) ls (.float rr :: rest))) : W p l e R s m args below meth c H locs cells slots Q (F0 m pc ls st0) :=
  vp_callSf (W.runS (g := F0 m pc ls st0) S hM cw ⟨PR_blind, fun U hU hW => ⟨rfl, PR_at hP hK hN hZ U hU hW⟩⟩ rfl hn hsz hst (lv_room hw) hdg hf) (fun r hr => by subst hr; exact kk)
/-- calls that write into a part Wc of the world W0: it is W1 behind them, the whole W' -/
theorem rwV_i {rr : Int32} (S : CallFix p m c cc nL s args Ts own) (hM : Met l y ws rm (va_Pc (.ref b :: As) (PW D Y Wc)) (va_Qi (S := Unit) (fun r _ => r = rr) (fun _ t => va_P D vwCl W1 t.heap) (wA Wc)) 0 0 (wA Wc)) (cw : CallW R s args own C index y bytes maxL ret ws rm 0 0 n) (hP : va_P D vwCl W0 H) (hK : va_K D vwCl (tyL Y) s) (hN : NZ s) (hZ : SZ A s s.heap) (hD : va_D A W0) (hS : va_S A s.heap H locs)
    (isC : List Nat) (hC : isC.map (fun i => W0[i]?) = Wc.map some) (hni : va_nd isC = true) (js : List (Nat ⊕ Nat)) (hjs : ∀ j ∈ js, ∀ k : Nat, j = .inl k → k ∉ isC) (hs : spl js W0 W1 = W') (ha : W'.map (fun q => q.1) = W0.map (fun q => q.1))
    (q0 ci : Nat) {fs : List Value} {T : u_T} {N : Nat} (he : W0[q0]? = some (b, .inr (ci, fs))) (hc : vwCl[ci]? = some (C, T, N))
    (hn : As.length = n) (hsz : ls.size = nL) (hst : st0 = As.reverse ++ .ref b :: rest) (hw : (rest.map fun v => v.category).sum ≤ 8) (hdg : decode cc pc = .ok (.invokevirtual index, 3)) (hf : cells ≤ R.cells ∧ slots ≤ R.slots)
    (kk : ∀ (H1 : Heap) (locs1 : List Loc), va_P D vwCl W' H1 → va_D A W' → va_S A s.heap H1 locs1 → W p l e R s m args below meth c H1 locs1 cells slots Q (F0 m (pc + 3) ls (.int rr :: rest))) : W p l e R s m args below meth c H locs cells slots Q (F0 m pc ls st0) := by
  have hDc : va_D A Wc := hD.sub isC hni hC
  have hPc : va_P D vwCl Wc H := by
    intro k q hk
    have h1 : (isC.map (fun i => W0[i]?))[k]? = some (some q) := by rw [hC, List.getElem?_map, hk]; rfl
    rw [List.getElem?_map] at h1
    cases hi : isC[k]? with
    | none => rw [hi] at h1; cases h1
    | some i => rw [hi] at h1; exact hP i q (Option.some.inj h1)
  refine va_calli (va_runV (g := F0 m pc ls st0) S hM cw ⟨PW_blind, va_recv hK hP hc he, fun U hU hW => ⟨rfl, PW_at hPc hK hN ((hZ.at hS).narrow (wA_in hDc)) (va_D_own hDc) U hU hW⟩⟩ rfl hn hsz hst (lv_room hw) hdg hf) hS (fun q _ h => wA_in hDc q h) (wA_in hDc) (fun r u t H1 locs1 ht hvm hp hB hz hk hS1 => ?_)
  subst hp
  rw [ht] at hB
  exact kk H1 locs1 (va_P_spl hP hD isC hC hk hB js hjs hs) (va_D_adr hD ha) hS1
theorem rwV_v (S : CallFix p m c cc nL s args Ts own) (hM : Met l y ws rm (va_Pc (.ref b :: As) (PW D Y Wc)) (va_Qv (S := Unit) (fun _ => True) (fun _ t => va_P D vwCl W1 t.heap) (wA Wc)) 0 0 (wA Wc)) (cw : CallW R s args own C index y bytes maxL ret ws rm 0 0 n) (hP : va_P D vwCl W0 H) (hK : va_K D vwCl (tyL Y) s) (hN : NZ s) (hZ : SZ A s s.heap) (hD : va_D A W0) (hS : va_S A s.heap H locs)
    (isC : List Nat) (hC : isC.map (fun i => W0[i]?) = Wc.map some) (hni : va_nd isC = true) (js : List (Nat ⊕ Nat)) (hjs : ∀ j ∈ js, ∀ k : Nat, j = .inl k → k ∉ isC) (hs : spl js W0 W1 = W') (ha : W'.map (fun q => q.1) = W0.map (fun q => q.1))
    (q0 ci : Nat) {fs : List Value} {T : u_T} {N : Nat} (he : W0[q0]? = some (b, .inr (ci, fs))) (hc : vwCl[ci]? = some (C, T, N))
    (hn : As.length = n) (hsz : ls.size = nL) (hst : st0 = As.reverse ++ .ref b :: rest) (hw : (rest.map fun v => v.category).sum ≤ 8) (hdg : decode cc pc = .ok (.invokevirtual index, 3)) (hf : cells ≤ R.cells ∧ slots ≤ R.slots)
    (kk : ∀ (H1 : Heap) (locs1 : List Loc), va_P D vwCl W' H1 → va_D A W' → va_S A s.heap H1 locs1 → W p l e R s m args below meth c H1 locs1 cells slots Q (F0 m (pc + 3) ls rest)) : W p l e R s m args below meth c H locs cells slots Q (F0 m pc ls st0) := by
  have hDc : va_D A Wc := hD.sub isC hni hC
  have hPc : va_P D vwCl Wc H := by
    intro k q hk
    have h1 : (isC.map (fun i => W0[i]?))[k]? = some (some q) := by rw [hC, List.getElem?_map, hk]; rfl
    rw [List.getElem?_map] at h1
    cases hi : isC[k]? with
    | none => rw [hi] at h1; cases h1
    | some i => rw [hi] at h1; exact hP i q (Option.some.inj h1)
  refine va_callv (va_runV (g := F0 m pc ls st0) S hM cw ⟨PW_blind, va_recv hK hP hc he, fun U hU hW => ⟨rfl, PW_at hPc hK hN ((hZ.at hS).narrow (wA_in hDc)) (va_D_own hDc) U hU hW⟩⟩ rfl hn hsz hst (lv_room hw) hdg hf) hS (fun q _ h => wA_in hDc q h) (wA_in hDc) (fun u t H1 locs1 ht hvm hp hB hz hk hS1 => ?_)
  rw [ht] at hB
  exact kk H1 locs1 (va_P_spl hP hD isC hC hk hB js hjs hs) (va_D_adr hD ha) hS1
/-- calls over the whole world -/
theorem rwV_iw {rr : Int32} (S : CallFix p m c cc nL s args Ts own) (hM : Met l y ws rm (va_Pc (.ref b :: As) (PW D Y W0)) (va_Qi (S := Unit) (fun r _ => r = rr) (fun _ t => va_P D vwCl W1 t.heap) (wA W0)) 0 0 (wA W0)) (cw : CallW R s args own C index y bytes maxL ret ws rm 0 0 n) (hP : va_P D vwCl W0 H) (hK : va_K D vwCl (tyL Y) s) (hN : NZ s) (hZ : SZ A s s.heap) (hD : va_D A W0) (hS : va_S A s.heap H locs) (ha : W1.map (fun q => q.1) = W0.map (fun q => q.1))
    (q0 ci : Nat) {fs : List Value} {T : u_T} {N : Nat} (he : W0[q0]? = some (b, .inr (ci, fs))) (hc : vwCl[ci]? = some (C, T, N))
    (hn : As.length = n) (hsz : ls.size = nL) (hst : st0 = As.reverse ++ .ref b :: rest) (hw : (rest.map fun v => v.category).sum ≤ 8) (hdg : decode cc pc = .ok (.invokevirtual index, 3)) (hf : cells ≤ R.cells ∧ slots ≤ R.slots)
    (kk : ∀ (H1 : Heap) (locs1 : List Loc), va_P D vwCl W1 H1 → va_D A W1 → va_S A s.heap H1 locs1 → W p l e R s m args below meth c H1 locs1 cells slots Q (F0 m (pc + 3) ls (.int rr :: rest))) : W p l e R s m args below meth c H locs cells slots Q (F0 m pc ls st0) := by
  refine va_calli (va_runV (g := F0 m pc ls st0) S hM cw ⟨PW_blind, va_recv hK hP hc he, fun U hU hW => ⟨rfl, PW_at hP hK hN ((hZ.at hS).narrow (wA_in hD)) (va_D_own hD) U hU hW⟩⟩ rfl hn hsz hst (lv_room hw) hdg hf) hS (fun q _ h => wA_in hD q h) (wA_in hD) (fun r u t H1 locs1 ht hvm hp hB hz hk hS1 => ?_)
  subst hp
  rw [ht] at hB
  exact kk H1 locs1 hB (va_D_adr hD ha) hS1
theorem rwV_vw (S : CallFix p m c cc nL s args Ts own) (hM : Met l y ws rm (va_Pc (.ref b :: As) (PW D Y W0)) (va_Qv (S := Unit) (fun _ => True) (fun _ t => va_P D vwCl W1 t.heap) (wA W0)) 0 0 (wA W0)) (cw : CallW R s args own C index y bytes maxL ret ws rm 0 0 n) (hP : va_P D vwCl W0 H) (hK : va_K D vwCl (tyL Y) s) (hN : NZ s) (hZ : SZ A s s.heap) (hD : va_D A W0) (hS : va_S A s.heap H locs) (ha : W1.map (fun q => q.1) = W0.map (fun q => q.1))
    (q0 ci : Nat) {fs : List Value} {T : u_T} {N : Nat} (he : W0[q0]? = some (b, .inr (ci, fs))) (hc : vwCl[ci]? = some (C, T, N))
    (hn : As.length = n) (hsz : ls.size = nL) (hst : st0 = As.reverse ++ .ref b :: rest) (hw : (rest.map fun v => v.category).sum ≤ 8) (hdg : decode cc pc = .ok (.invokevirtual index, 3)) (hf : cells ≤ R.cells ∧ slots ≤ R.slots)
    (kk : ∀ (H1 : Heap) (locs1 : List Loc), va_P D vwCl W1 H1 → va_D A W1 → va_S A s.heap H1 locs1 → W p l e R s m args below meth c H1 locs1 cells slots Q (F0 m (pc + 3) ls rest)) : W p l e R s m args below meth c H locs cells slots Q (F0 m pc ls st0) := by
  refine va_callv (va_runV (g := F0 m pc ls st0) S hM cw ⟨PW_blind, va_recv hK hP hc he, fun U hU hW => ⟨rfl, PW_at hP hK hN ((hZ.at hS).narrow (wA_in hD)) (va_D_own hD) U hU hW⟩⟩ rfl hn hsz hst (lv_room hw) hdg hf) hS (fun q _ h => wA_in hD q h) (wA_in hD) (fun u t H1 locs1 ht hvm hp hB hz hk hS1 => ?_)
  rw [ht] at hB
  exact kk H1 locs1 hB (va_D_adr hD ha) hS1
theorem rwS_iw {rr : Int32} (S : CallFix p m c cc nL s args Ts own) (hM : Met l y ws rm (va_Pc As (PW D Y W0)) (va_Qi (S := Unit) (fun r _ => r = rr) (fun _ t => va_P D vwCl W1 t.heap) (wA W0)) 0 0 (wA W0)) (cw : CallB R s args own index y bytes maxL ret ws rm 0 0 n ∧ (Cond.static y).before args s = true) (hP : va_P D vwCl W0 H) (hK : va_K D vwCl (tyL Y) s) (hN : NZ s) (hZ : SZ A s s.heap) (hD : va_D A W0) (hS : va_S A s.heap H locs) (ha : W1.map (fun q => q.1) = W0.map (fun q => q.1))
    (hn : As.length = n) (hsz : ls.size = nL) (hst : st0 = As.reverse ++ rest) (hw : (rest.map fun v => v.category).sum ≤ 8) (hdg : decode cc pc = .ok (.invokestatic index, 3)) (hf : cells ≤ R.cells ∧ slots ≤ R.slots)
    (kk : ∀ (H1 : Heap) (locs1 : List Loc), va_P D vwCl W1 H1 → va_D A W1 → va_S A s.heap H1 locs1 → W p l e R s m args below meth c H1 locs1 cells slots Q (F0 m (pc + 3) ls (.int rr :: rest))) : W p l e R s m args below meth c H locs cells slots Q (F0 m pc ls st0) := by
  refine va_calli (va_runS (g := F0 m pc ls st0) S hM cw ⟨PW_blind, fun U hU hW => ⟨rfl, PW_at hP hK hN ((hZ.at hS).narrow (wA_in hD)) (va_D_own hD) U hU hW⟩⟩ rfl hn hsz hst (lv_room hw) hdg hf) hS (fun q _ h => wA_in hD q h) (wA_in hD) (fun r u t H1 locs1 ht hvm hp hB hz hk hS1 => ?_)
  subst hp
  rw [ht] at hB
  exact kk H1 locs1 hB (va_D_adr hD ha) hS1
end SXC
theorem nar_z {x : Int32} (h : x = 0 ∨ x = 1) : narrow .boolean (.int x) = .int x := by
  rcases h with rfl | rfl <;> decide
theorem jk_ok (js : List (Nat ⊕ Nat)) (isC : List Nat) (h : js.all (fun j => match j with | .inl k => decide (k ∉ isC) | .inr _ => true) = true) : ∀ j ∈ js, ∀ k : Nat, j = .inl k → k ∉ isC := by
  intro j hj k hk
  subst hk
  have h1 := List.all_eq_true.mp h _ hj
  exact of_decide_eq_true h1
theorem fit_z {x : Int32} (h : x = 0 ∨ x = 1) : fits .boolean (.int x) = true := by
  rcases h with rfl | rfl <;> decide
section SXP
variable {p : Program} {l : Launch} {e : Env} {R : Room} {s : State} {m : MethodId} {args : Array Value} {below : List Frame} {meth : Method} {c : Code} {H : Heap} {locs : List Loc} {cells slots : Nat} {Q : State → Prop}
variable {cc : ByteArray} {pc : Nat} {ls : Array Slot} {rest : List Value} {A : Nat → Prop} {H0 : Heap} {D : va_G} {cl : List vw_C} {tys : List (ClassId × FieldType)} {ws : va_W} {a : Nat}
theorem set_congr {q1 : Nat} {e1 e2 : va_E} (hP : va_P D cl (ws.set q1 (a, e1)) H) (h : va_at D cl (a, e1) H → va_at D cl (a, e2) H) : va_P D cl (ws.set q1 (a, e2)) H := by
  intro k q hk
  by_cases hl : q1 < ws.length
  · by_cases hkq : k = q1
    · subst hkq
      rw [List.getElem?_set_self hl] at hk
      cases hk
      exact h (hP k (a, e1) (List.getElem?_set_self hl))
    · rw [List.getElem?_set_ne (Ne.symm hkq)] at hk
      exact hP k q (by rw [List.getElem?_set_ne (Ne.symm hkq)]; exact hk)
  · rw [List.set_eq_of_length_le (Nat.le_of_not_lt hl)] at hk
    exact hP k q (by rw [List.set_eq_of_length_le (Nat.le_of_not_lt hl)]; exact hk)
theorem arrV_same {cI : ClassId} {N : Nat} {f g : Nat → Value} (h : ∀ j, j < N → f j = g j) : arrV cI N f = arrV cI N g := by
  unfold arrV
  have : (Array.ofFn (n := N) fun j => f j.val) = Array.ofFn (n := N) fun j => g j.val := by
    congr 1
    funext j
    exact h j.val j.isLt
  rw [this]
theorem cp_i (hexec : p.tables.exec = Jvm.exec) (hb : c.code = cc) (hml : c.maxLocals = ls.size) {own : String} {index : Nat} (hown : s.vm.findClass own = some m.cls) (hlink : (Cond.methodLink own index arraycopyName).before args s = true) (hnat : (Cond.native arraycopyName).before args s = true) (hstat : (Cond.static arraycopyName).before args s = true) (hini : (Cond.initialized "java/lang/System").before args s = true)
    (hK : va_K D cl tys s) (hP : va_P D cl ws H) (hD : va_D A ws) (hS : va_S A H0 H locs) (q0 q1 t0 : Nat) {a0 : Nat} {c0 : ClassId} {n0 : Nat} {f g : Nat → Int32} (ha0 : ws[q0]? = some (a0, .inl (c0, n0, .inl f))) (ha1 : ws[q1]? = some (a, .inl (c0, n0, .inl g))) (ht0 : tys[t0]? = some (c0, .int)) {n : Int32} (hn : Int32.ofNat n0 = n) (hn2 : n0 < 2 ^ 31)
    (hframes : 1 ≤ R.frames) (hlocals : (rest.map fun v => v.category).sum + (nativeFrameWords "java/lang/System" "arraycopy" 5 + 11) ≤ R.locals) (hdg : decode cc pc = .ok (.invokestatic index, 3))
    (kk : ∀ (H1 : Heap) (locs1 : List Loc), va_P D cl (ws.set q1 (a, .inl (c0, n0, .inl f))) H1 → va_D A (ws.set q1 (a, .inl (c0, n0, .inl f))) → va_S A H0 H1 locs1 → W p l e R s m args below meth c H1 locs1 cells slots Q (F0 m (pc + 3) ls rest)) : W p l e R s m args below meth c H locs cells slots Q (F0 m pc ls (.int n :: .int 0 :: .ref a :: .int 0 :: .ref a0 :: rest)) := by
  have e0 : (0 : Int32).toNatClampNeg = 0 := rfl
  have en : n.toNatClampNeg = n0 := by rw [← hn]; exact nI_clamp hn2
  have np : ¬ n < 0 := by rw [← hn]; exact nI_pos hn2
  refine va_copyi hexec hb hml hown hlink hnat hstat hini hK hP hD hS q0 q1 t0 t0 ha0 ha1 ht0 ht0 rfl (by decide) (by decide) np (by rw [e0, en]; omega) (by rw [e0, en]; omega) (fun i _ => rfl) hframes hlocals hdg (fun H1 locs1 hP1 hD1 hS1 => ?_)
  refine kk H1 locs1 (set_congr hP1 (fun hz => ?_)) (va_D_adr hD1 (by rw [List.map_set, List.map_set])) hS1
  have e1 : H1[a]? = some (vp_cell c0 (n0, .inl (va_cpy f g (0 : Int32).toNatClampNeg (0 : Int32).toNatClampNeg n.toNatClampNeg))) := hz
  show H1[a]? = some (vp_cell c0 (n0, .inl f))
  rw [e1, vp_cell_i, vp_cell_i, e0, en]
  congr 1
  exact arrV_same (fun j hj => by rw [sb_cpy0 hj])
theorem cp_f (hexec : p.tables.exec = Jvm.exec) (hb : c.code = cc) (hml : c.maxLocals = ls.size) {own : String} {index : Nat} (hown : s.vm.findClass own = some m.cls) (hlink : (Cond.methodLink own index arraycopyName).before args s = true) (hnat : (Cond.native arraycopyName).before args s = true) (hstat : (Cond.static arraycopyName).before args s = true) (hini : (Cond.initialized "java/lang/System").before args s = true)
    (hK : va_K D cl tys s) (hP : va_P D cl ws H) (hD : va_D A ws) (hS : va_S A H0 H locs) (q0 q1 t0 : Nat) {a0 : Nat} {c0 : ClassId} {n0 : Nat} {f g : Nat → UInt32} (ha0 : ws[q0]? = some (a0, .inl (c0, n0, .inr (.inr (.inl f))))) (ha1 : ws[q1]? = some (a, .inl (c0, n0, .inr (.inr (.inl g))))) (ht0 : tys[t0]? = some (c0, .float)) {n : Int32} (hn : Int32.ofNat n0 = n) (hn2 : n0 < 2 ^ 31)
    (hframes : 1 ≤ R.frames) (hlocals : (rest.map fun v => v.category).sum + (nativeFrameWords "java/lang/System" "arraycopy" 5 + 11) ≤ R.locals) (hdg : decode cc pc = .ok (.invokestatic index, 3))
    (kk : ∀ (H1 : Heap) (locs1 : List Loc), va_P D cl (ws.set q1 (a, .inl (c0, n0, .inr (.inr (.inl f))))) H1 → va_D A (ws.set q1 (a, .inl (c0, n0, .inr (.inr (.inl f))))) → va_S A H0 H1 locs1 → W p l e R s m args below meth c H1 locs1 cells slots Q (F0 m (pc + 3) ls rest)) : W p l e R s m args below meth c H locs cells slots Q (F0 m pc ls (.int n :: .int 0 :: .ref a :: .int 0 :: .ref a0 :: rest)) := by
  have e0 : (0 : Int32).toNatClampNeg = 0 := rfl
  have en : n.toNatClampNeg = n0 := by rw [← hn]; exact nI_clamp hn2
  have np : ¬ n < 0 := by rw [← hn]; exact nI_pos hn2
  refine va_copyf hexec hb hml hown hlink hnat hstat hini hK hP hD hS q0 q1 t0 t0 ha0 ha1 ht0 ht0 rfl (by decide) (by decide) np (by rw [e0, en]; omega) (by rw [e0, en]; omega) (fun i _ => rfl) hframes hlocals hdg (fun H1 locs1 hP1 hD1 hS1 => ?_)
  refine kk H1 locs1 (set_congr hP1 (fun hz => ?_)) (va_D_adr hD1 (by rw [List.map_set, List.map_set])) hS1
  have e1 : H1[a]? = some (vp_cell c0 (n0, .inr (.inr (.inl (va_cpy f g (0 : Int32).toNatClampNeg (0 : Int32).toNatClampNeg n.toNatClampNeg))))) := hz
  show H1[a]? = some (vp_cell c0 (n0, .inr (.inr (.inl f))))
  rw [e1, vp_cell_f, vp_cell_f, e0, en]
  congr 1
  refine arrV_same (fun j hj => ?_)
  have : va_cpy f g 0 0 n0 j = f j := by rw [pk_cpy_in (Nat.zero_le _) (by omega)]; congr 1; omega
  rw [this]
theorem roV_q {y : MethodName} {bytes : ByteArray} {maxL nL n index : Nat} {ret : Option FieldType} {wsy : List Cond} {rm : Room} {Ts : List Cond} {own C : String} {b : Addr} {As st0 : List Value} {Y : Nat → ClassId} {Wc : va_W} {rr : Option Nat} (S : CallFix p m c cc nL s args Ts own) (hM : Met l y wsy rm (va_Pc (.ref b :: As) (PR D Y Wc)) (va_Sq (fun x => x = rr)) 0 0 (fun _ => False)) (cw : CallW R s args own C index y bytes maxL ret wsy rm 0 0 n) (hP : va_P D vwCl Wc H) (hK : va_K D vwCl (tyL Y) s) (hN : NZ s) (hZ : SZ (fun _ => False) s H) (q0 ci : Nat) {fs : List Value} {T : u_T} {N : Nat} (he : Wc[q0]? = some (b, .inr (ci, fs))) (hc : vwCl[ci]? = some (C, T, N))
    (hn : As.length = n) (hsz : ls.size = nL) (hst : st0 = As.reverse ++ .ref b :: rest) (hw : (rest.map fun v => v.category).sum ≤ 8) (hdg : decode cc pc = .ok (.invokevirtual index, 3)) (hf : cells ≤ R.cells ∧ slots ≤ R.slots)
    (kk : W p l e R s m args below meth c H locs cells slots Q (F0 m (pc + 3) ls (va_rf rr :: rest))) : W p l e R s m args below meth c H locs cells slots Q (F0 m pc ls st0) :=
  va_csq (W.runV (g := F0 m pc ls st0) S hM cw ⟨PR_blind, va_recv hK hP hc he, fun U hU hW => ⟨rfl, PR_at hP hK hN hZ U hU hW⟩⟩ rfl hn hsz hst (lv_room hw) hdg hf) (fun r hr => by subst hr; exact kk)
end SXP
end
section
abbrev LgV : Type := (Nat → Int32) × Int32 × Int32
abbrev St : Type := (Nat → UInt32) × LgV × (Nat → Int32) × (Nat → Int32) × Int32 × Int32 × Int32 × Int32 × Int32 × UInt32 × UInt32
abbrev TxV : Type := (Nat → Int32) × Int32 × (Nat → Int32) × Int32 × Int32 × Int32 × Int32
abbrev HiV : Type := (Nat → St) × Int32 × Int32
abbrev CarV : Type := St × St × St × HiV × TxV × Int32
def v2_cells (V : LgV) : (Nat → Int32) := V.1
def v2_next (V : LgV) : Int32 := V.2.1
def v2_size (V : LgV) : Int32 := V.2.2
def u2_cells (V : LgV) (x : (Nat → Int32)) : LgV := (x, v2_next V, v2_size V)
def u2_next (V : LgV) (x : Int32) : LgV := (v2_cells V, x, v2_size V)
def u2_size (V : LgV) (x : Int32) : LgV := (v2_cells V, v2_next V, x)
def v4_maps (V : St) : (Nat → UInt32) := V.1
def v4_log (V : St) : LgV := V.2.1
def v4_counts (V : St) : (Nat → Int32) := V.2.2.1
def v4_settings (V : St) : (Nat → Int32) := V.2.2.2.1
def v4_gear (V : St) : Int32 := V.2.2.2.2.1
def v4_target (V : St) : Int32 := V.2.2.2.2.2.1
def v4_done (V : St) : Int32 := V.2.2.2.2.2.2.1
def v4_held (V : St) : Int32 := V.2.2.2.2.2.2.2.1
def v4_handMode (V : St) : Int32 := V.2.2.2.2.2.2.2.2.1
def v4_latestSpeed (V : St) : UInt32 := V.2.2.2.2.2.2.2.2.2.1
def v4_latestPedal (V : St) : UInt32 := V.2.2.2.2.2.2.2.2.2.2
def u4_maps (V : St) (x : (Nat → UInt32)) : St := (x, v4_log V, v4_counts V, v4_settings V, v4_gear V, v4_target V, v4_done V, v4_held V, v4_handMode V, v4_latestSpeed V, v4_latestPedal V)
def u4_log (V : St) (x : LgV) : St := (v4_maps V, x, v4_counts V, v4_settings V, v4_gear V, v4_target V, v4_done V, v4_held V, v4_handMode V, v4_latestSpeed V, v4_latestPedal V)
def u4_counts (V : St) (x : (Nat → Int32)) : St := (v4_maps V, v4_log V, x, v4_settings V, v4_gear V, v4_target V, v4_done V, v4_held V, v4_handMode V, v4_latestSpeed V, v4_latestPedal V)
def u4_settings (V : St) (x : (Nat → Int32)) : St := (v4_maps V, v4_log V, v4_counts V, x, v4_gear V, v4_target V, v4_done V, v4_held V, v4_handMode V, v4_latestSpeed V, v4_latestPedal V)
def u4_gear (V : St) (x : Int32) : St := (v4_maps V, v4_log V, v4_counts V, v4_settings V, x, v4_target V, v4_done V, v4_held V, v4_handMode V, v4_latestSpeed V, v4_latestPedal V)
def u4_target (V : St) (x : Int32) : St := (v4_maps V, v4_log V, v4_counts V, v4_settings V, v4_gear V, x, v4_done V, v4_held V, v4_handMode V, v4_latestSpeed V, v4_latestPedal V)
def u4_done (V : St) (x : Int32) : St := (v4_maps V, v4_log V, v4_counts V, v4_settings V, v4_gear V, v4_target V, x, v4_held V, v4_handMode V, v4_latestSpeed V, v4_latestPedal V)
def u4_held (V : St) (x : Int32) : St := (v4_maps V, v4_log V, v4_counts V, v4_settings V, v4_gear V, v4_target V, v4_done V, x, v4_handMode V, v4_latestSpeed V, v4_latestPedal V)
def u4_handMode (V : St) (x : Int32) : St := (v4_maps V, v4_log V, v4_counts V, v4_settings V, v4_gear V, v4_target V, v4_done V, v4_held V, x, v4_latestSpeed V, v4_latestPedal V)
def u4_latestSpeed (V : St) (x : UInt32) : St := (v4_maps V, v4_log V, v4_counts V, v4_settings V, v4_gear V, v4_target V, v4_done V, v4_held V, v4_handMode V, x, v4_latestPedal V)
def u4_latestPedal (V : St) (x : UInt32) : St := (v4_maps V, v4_log V, v4_counts V, v4_settings V, v4_gear V, v4_target V, v4_done V, v4_held V, v4_handMode V, v4_latestSpeed V, x)
def v0_characters (V : TxV) : (Nat → Int32) := V.1
def v0_length (V : TxV) : Int32 := V.2.1
def v0_numbers (V : TxV) : (Nat → Int32) := V.2.2.1
def v0_parts (V : TxV) : Int32 := V.2.2.2.1
def v0_place (V : TxV) : Int32 := V.2.2.2.2.1
def v0_value (V : TxV) : Int32 := V.2.2.2.2.2.1
def v0_digits (V : TxV) : Int32 := V.2.2.2.2.2.2
def u0_characters (V : TxV) (x : (Nat → Int32)) : TxV := (x, v0_length V, v0_numbers V, v0_parts V, v0_place V, v0_value V, v0_digits V)
def u0_length (V : TxV) (x : Int32) : TxV := (v0_characters V, x, v0_numbers V, v0_parts V, v0_place V, v0_value V, v0_digits V)
def u0_numbers (V : TxV) (x : (Nat → Int32)) : TxV := (v0_characters V, v0_length V, x, v0_parts V, v0_place V, v0_value V, v0_digits V)
def u0_parts (V : TxV) (x : Int32) : TxV := (v0_characters V, v0_length V, v0_numbers V, x, v0_place V, v0_value V, v0_digits V)
def u0_place (V : TxV) (x : Int32) : TxV := (v0_characters V, v0_length V, v0_numbers V, v0_parts V, x, v0_value V, v0_digits V)
def u0_value (V : TxV) (x : Int32) : TxV := (v0_characters V, v0_length V, v0_numbers V, v0_parts V, v0_place V, x, v0_digits V)
def u0_digits (V : TxV) (x : Int32) : TxV := (v0_characters V, v0_length V, v0_numbers V, v0_parts V, v0_place V, v0_value V, x)
def v1_states (V : HiV) : (Nat → St) := V.1
def v1_next (V : HiV) : Int32 := V.2.1
def v1_size (V : HiV) : Int32 := V.2.2
def u1_states (V : HiV) (x : (Nat → St)) : HiV := (x, v1_next V, v1_size V)
def u1_next (V : HiV) (x : Int32) : HiV := (v1_states V, x, v1_size V)
def u1_size (V : HiV) (x : Int32) : HiV := (v1_states V, v1_next V, x)
def v5_now (V : CarV) : St := V.1
def v5_snapshot (V : CarV) : St := V.2.1
def v5_forecast (V : CarV) : St := V.2.2.1
def v5_history (V : CarV) : HiV := V.2.2.2.1
def v5_text (V : CarV) : TxV := V.2.2.2.2.1
def v5_hasSnapshot (V : CarV) : Int32 := V.2.2.2.2.2
def u5_now (V : CarV) (x : St) : CarV := (x, v5_snapshot V, v5_forecast V, v5_history V, v5_text V, v5_hasSnapshot V)
def u5_snapshot (V : CarV) (x : St) : CarV := (v5_now V, x, v5_forecast V, v5_history V, v5_text V, v5_hasSnapshot V)
def u5_forecast (V : CarV) (x : St) : CarV := (v5_now V, v5_snapshot V, x, v5_history V, v5_text V, v5_hasSnapshot V)
def u5_history (V : CarV) (x : HiV) : CarV := (v5_now V, v5_snapshot V, v5_forecast V, x, v5_text V, v5_hasSnapshot V)
def u5_text (V : CarV) (x : TxV) : CarV := (v5_now V, v5_snapshot V, v5_forecast V, v5_history V, x, v5_hasSnapshot V)
def u5_hasSnapshot (V : CarV) (x : Int32) : CarV := (v5_now V, v5_snapshot V, v5_forecast V, v5_history V, v5_text V, x)
def hiR (ad : Nat → Nat) : Nat → Option Nat := fun i => if i = 0 then some (ad 24) else if i = 1 then some (ad 31) else if i = 2 then some (ad 38) else some (ad 45)
abbrev mpW (Y : Nat → ClassId) (a0 a1 : Nat) (V : (Nat → UInt32)) : va_W := [(a0, .inr (3, [.ref a1])), (a1, .inl (Y 1, 20, .inr (.inr (.inl V))))]
abbrev lgW (Y : Nat → ClassId) (a0 a1 : Nat) (V : LgV) : va_W := [(a0, .inr (2, [.ref a1, .int (v2_next V), .int (v2_size V)])), (a1, .inl (Y 2, 50, .inl (v2_cells V)))]
abbrev stW (Y : Nat → ClassId) (a0 a1 a2 a3 a4 a5 a6 : Nat) (V : St) : va_W := [(a0, .inr (4, [.ref a1, .ref a3, .ref a5, .ref a6, .int (v4_gear V), .int (v4_target V), .int (v4_done V), .int (v4_held V), .int (v4_handMode V), .float (v4_latestSpeed V), .float (v4_latestPedal V)])), (a1, .inr (3, [.ref a2])), (a2, .inl (Y 1, 20, .inr (.inr (.inl (v4_maps V))))), (a3, .inr (2, [.ref a4, .int (v2_next (v4_log V)), .int (v2_size (v4_log V))])), (a4, .inl (Y 2, 50, .inl (v2_cells (v4_log V)))), (a5, .inl (Y 2, 13, .inl (v4_counts V))), (a6, .inl (Y 2, 4, .inl (v4_settings V)))]
abbrev txW (Y : Nat → ClassId) (a0 a1 a2 : Nat) (V : TxV) : va_W := [(a0, .inr (0, [.ref a1, .int (v0_length V), .ref a2, .int (v0_parts V), .int (v0_place V), .int (v0_value V), .int (v0_digits V)])), (a1, .inl (Y 0, 60, .inl (v0_characters V))), (a2, .inl (Y 2, 45, .inl (v0_numbers V)))]
abbrev hiW (Y : Nat → ClassId) (ad : Nat → Nat) (V : HiV) : va_W := [((ad 22), .inr (1, [.ref (ad 23), .int (v1_next V), .int (v1_size V)])), ((ad 23), .inl (Y 3, 4, .inr (.inr (.inr (.inr (hiR ad)))))), ((ad 24), .inr (4, [.ref (ad 25), .ref (ad 27), .ref (ad 29), .ref (ad 30), .int (v4_gear ((v1_states V) 0)), .int (v4_target ((v1_states V) 0)), .int (v4_done ((v1_states V) 0)), .int (v4_held ((v1_states V) 0)), .int (v4_handMode ((v1_states V) 0)), .float (v4_latestSpeed ((v1_states V) 0)), .float (v4_latestPedal ((v1_states V) 0))])), ((ad 25), .inr (3, [.ref (ad 26)])), ((ad 26), .inl (Y 1, 20, .inr (.inr (.inl (v4_maps ((v1_states V) 0)))))), ((ad 27), .inr (2, [.ref (ad 28), .int (v2_next (v4_log ((v1_states V) 0))), .int (v2_size (v4_log ((v1_states V) 0)))])), ((ad 28), .inl (Y 2, 50, .inl (v2_cells (v4_log ((v1_states V) 0))))), ((ad 29), .inl (Y 2, 13, .inl (v4_counts ((v1_states V) 0)))), ((ad 30), .inl (Y 2, 4, .inl (v4_settings ((v1_states V) 0)))), ((ad 31), .inr (4, [.ref (ad 32), .ref (ad 34), .ref (ad 36), .ref (ad 37), .int (v4_gear ((v1_states V) 1)), .int (v4_target ((v1_states V) 1)), .int (v4_done ((v1_states V) 1)), .int (v4_held ((v1_states V) 1)), .int (v4_handMode ((v1_states V) 1)), .float (v4_latestSpeed ((v1_states V) 1)), .float (v4_latestPedal ((v1_states V) 1))])), ((ad 32), .inr (3, [.ref (ad 33)])), ((ad 33), .inl (Y 1, 20, .inr (.inr (.inl (v4_maps ((v1_states V) 1)))))), ((ad 34), .inr (2, [.ref (ad 35), .int (v2_next (v4_log ((v1_states V) 1))), .int (v2_size (v4_log ((v1_states V) 1)))])), ((ad 35), .inl (Y 2, 50, .inl (v2_cells (v4_log ((v1_states V) 1))))), ((ad 36), .inl (Y 2, 13, .inl (v4_counts ((v1_states V) 1)))), ((ad 37), .inl (Y 2, 4, .inl (v4_settings ((v1_states V) 1)))), ((ad 38), .inr (4, [.ref (ad 39), .ref (ad 41), .ref (ad 43), .ref (ad 44), .int (v4_gear ((v1_states V) 2)), .int (v4_target ((v1_states V) 2)), .int (v4_done ((v1_states V) 2)), .int (v4_held ((v1_states V) 2)), .int (v4_handMode ((v1_states V) 2)), .float (v4_latestSpeed ((v1_states V) 2)), .float (v4_latestPedal ((v1_states V) 2))])), ((ad 39), .inr (3, [.ref (ad 40)])), ((ad 40), .inl (Y 1, 20, .inr (.inr (.inl (v4_maps ((v1_states V) 2)))))), ((ad 41), .inr (2, [.ref (ad 42), .int (v2_next (v4_log ((v1_states V) 2))), .int (v2_size (v4_log ((v1_states V) 2)))])), ((ad 42), .inl (Y 2, 50, .inl (v2_cells (v4_log ((v1_states V) 2))))), ((ad 43), .inl (Y 2, 13, .inl (v4_counts ((v1_states V) 2)))), ((ad 44), .inl (Y 2, 4, .inl (v4_settings ((v1_states V) 2)))), ((ad 45), .inr (4, [.ref (ad 46), .ref (ad 48), .ref (ad 50), .ref (ad 51), .int (v4_gear ((v1_states V) 3)), .int (v4_target ((v1_states V) 3)), .int (v4_done ((v1_states V) 3)), .int (v4_held ((v1_states V) 3)), .int (v4_handMode ((v1_states V) 3)), .float (v4_latestSpeed ((v1_states V) 3)), .float (v4_latestPedal ((v1_states V) 3))])), ((ad 46), .inr (3, [.ref (ad 47)])), ((ad 47), .inl (Y 1, 20, .inr (.inr (.inl (v4_maps ((v1_states V) 3)))))), ((ad 48), .inr (2, [.ref (ad 49), .int (v2_next (v4_log ((v1_states V) 3))), .int (v2_size (v4_log ((v1_states V) 3)))])), ((ad 49), .inl (Y 2, 50, .inl (v2_cells (v4_log ((v1_states V) 3))))), ((ad 50), .inl (Y 2, 13, .inl (v4_counts ((v1_states V) 3)))), ((ad 51), .inl (Y 2, 4, .inl (v4_settings ((v1_states V) 3))))]
def carW (Y : Nat → ClassId) (ad : Nat → Nat) (V : CarV) : va_W := [((ad 0), .inr (5, [.ref (ad 1), .ref (ad 8), .ref (ad 15), .ref (ad 22), .ref (ad 52), .int (v5_hasSnapshot V)])), ((ad 1), .inr (4, [.ref (ad 2), .ref (ad 4), .ref (ad 6), .ref (ad 7), .int (v4_gear (v5_now V)), .int (v4_target (v5_now V)), .int (v4_done (v5_now V)), .int (v4_held (v5_now V)), .int (v4_handMode (v5_now V)), .float (v4_latestSpeed (v5_now V)), .float (v4_latestPedal (v5_now V))])), ((ad 2), .inr (3, [.ref (ad 3)])), ((ad 3), .inl (Y 1, 20, .inr (.inr (.inl (v4_maps (v5_now V)))))), ((ad 4), .inr (2, [.ref (ad 5), .int (v2_next (v4_log (v5_now V))), .int (v2_size (v4_log (v5_now V)))])), ((ad 5), .inl (Y 2, 50, .inl (v2_cells (v4_log (v5_now V))))), ((ad 6), .inl (Y 2, 13, .inl (v4_counts (v5_now V)))), ((ad 7), .inl (Y 2, 4, .inl (v4_settings (v5_now V)))), ((ad 8), .inr (4, [.ref (ad 9), .ref (ad 11), .ref (ad 13), .ref (ad 14), .int (v4_gear (v5_snapshot V)), .int (v4_target (v5_snapshot V)), .int (v4_done (v5_snapshot V)), .int (v4_held (v5_snapshot V)), .int (v4_handMode (v5_snapshot V)), .float (v4_latestSpeed (v5_snapshot V)), .float (v4_latestPedal (v5_snapshot V))])), ((ad 9), .inr (3, [.ref (ad 10)])), ((ad 10), .inl (Y 1, 20, .inr (.inr (.inl (v4_maps (v5_snapshot V)))))), ((ad 11), .inr (2, [.ref (ad 12), .int (v2_next (v4_log (v5_snapshot V))), .int (v2_size (v4_log (v5_snapshot V)))])), ((ad 12), .inl (Y 2, 50, .inl (v2_cells (v4_log (v5_snapshot V))))), ((ad 13), .inl (Y 2, 13, .inl (v4_counts (v5_snapshot V)))), ((ad 14), .inl (Y 2, 4, .inl (v4_settings (v5_snapshot V)))), ((ad 15), .inr (4, [.ref (ad 16), .ref (ad 18), .ref (ad 20), .ref (ad 21), .int (v4_gear (v5_forecast V)), .int (v4_target (v5_forecast V)), .int (v4_done (v5_forecast V)), .int (v4_held (v5_forecast V)), .int (v4_handMode (v5_forecast V)), .float (v4_latestSpeed (v5_forecast V)), .float (v4_latestPedal (v5_forecast V))])), ((ad 16), .inr (3, [.ref (ad 17)])), ((ad 17), .inl (Y 1, 20, .inr (.inr (.inl (v4_maps (v5_forecast V)))))), ((ad 18), .inr (2, [.ref (ad 19), .int (v2_next (v4_log (v5_forecast V))), .int (v2_size (v4_log (v5_forecast V)))])), ((ad 19), .inl (Y 2, 50, .inl (v2_cells (v4_log (v5_forecast V))))), ((ad 20), .inl (Y 2, 13, .inl (v4_counts (v5_forecast V)))), ((ad 21), .inl (Y 2, 4, .inl (v4_settings (v5_forecast V)))), ((ad 22), .inr (1, [.ref (ad 23), .int (v1_next (v5_history V)), .int (v1_size (v5_history V))])), ((ad 23), .inl (Y 3, 4, .inr (.inr (.inr (.inr (hiR ad)))))), ((ad 24), .inr (4, [.ref (ad 25), .ref (ad 27), .ref (ad 29), .ref (ad 30), .int (v4_gear ((v1_states (v5_history V)) 0)), .int (v4_target ((v1_states (v5_history V)) 0)), .int (v4_done ((v1_states (v5_history V)) 0)), .int (v4_held ((v1_states (v5_history V)) 0)), .int (v4_handMode ((v1_states (v5_history V)) 0)), .float (v4_latestSpeed ((v1_states (v5_history V)) 0)), .float (v4_latestPedal ((v1_states (v5_history V)) 0))])), ((ad 25), .inr (3, [.ref (ad 26)])), ((ad 26), .inl (Y 1, 20, .inr (.inr (.inl (v4_maps ((v1_states (v5_history V)) 0)))))), ((ad 27), .inr (2, [.ref (ad 28), .int (v2_next (v4_log ((v1_states (v5_history V)) 0))), .int (v2_size (v4_log ((v1_states (v5_history V)) 0)))])), ((ad 28), .inl (Y 2, 50, .inl (v2_cells (v4_log ((v1_states (v5_history V)) 0))))), ((ad 29), .inl (Y 2, 13, .inl (v4_counts ((v1_states (v5_history V)) 0)))), ((ad 30), .inl (Y 2, 4, .inl (v4_settings ((v1_states (v5_history V)) 0)))), ((ad 31), .inr (4, [.ref (ad 32), .ref (ad 34), .ref (ad 36), .ref (ad 37), .int (v4_gear ((v1_states (v5_history V)) 1)), .int (v4_target ((v1_states (v5_history V)) 1)), .int (v4_done ((v1_states (v5_history V)) 1)), .int (v4_held ((v1_states (v5_history V)) 1)), .int (v4_handMode ((v1_states (v5_history V)) 1)), .float (v4_latestSpeed ((v1_states (v5_history V)) 1)), .float (v4_latestPedal ((v1_states (v5_history V)) 1))])), ((ad 32), .inr (3, [.ref (ad 33)])), ((ad 33), .inl (Y 1, 20, .inr (.inr (.inl (v4_maps ((v1_states (v5_history V)) 1)))))), ((ad 34), .inr (2, [.ref (ad 35), .int (v2_next (v4_log ((v1_states (v5_history V)) 1))), .int (v2_size (v4_log ((v1_states (v5_history V)) 1)))])), ((ad 35), .inl (Y 2, 50, .inl (v2_cells (v4_log ((v1_states (v5_history V)) 1))))), ((ad 36), .inl (Y 2, 13, .inl (v4_counts ((v1_states (v5_history V)) 1)))), ((ad 37), .inl (Y 2, 4, .inl (v4_settings ((v1_states (v5_history V)) 1)))), ((ad 38), .inr (4, [.ref (ad 39), .ref (ad 41), .ref (ad 43), .ref (ad 44), .int (v4_gear ((v1_states (v5_history V)) 2)), .int (v4_target ((v1_states (v5_history V)) 2)), .int (v4_done ((v1_states (v5_history V)) 2)), .int (v4_held ((v1_states (v5_history V)) 2)), .int (v4_handMode ((v1_states (v5_history V)) 2)), .float (v4_latestSpeed ((v1_states (v5_history V)) 2)), .float (v4_latestPedal ((v1_states (v5_history V)) 2))])), ((ad 39), .inr (3, [.ref (ad 40)])), ((ad 40), .inl (Y 1, 20, .inr (.inr (.inl (v4_maps ((v1_states (v5_history V)) 2)))))), ((ad 41), .inr (2, [.ref (ad 42), .int (v2_next (v4_log ((v1_states (v5_history V)) 2))), .int (v2_size (v4_log ((v1_states (v5_history V)) 2)))])), ((ad 42), .inl (Y 2, 50, .inl (v2_cells (v4_log ((v1_states (v5_history V)) 2))))), ((ad 43), .inl (Y 2, 13, .inl (v4_counts ((v1_states (v5_history V)) 2)))), ((ad 44), .inl (Y 2, 4, .inl (v4_settings ((v1_states (v5_history V)) 2)))), ((ad 45), .inr (4, [.ref (ad 46), .ref (ad 48), .ref (ad 50), .ref (ad 51), .int (v4_gear ((v1_states (v5_history V)) 3)), .int (v4_target ((v1_states (v5_history V)) 3)), .int (v4_done ((v1_states (v5_history V)) 3)), .int (v4_held ((v1_states (v5_history V)) 3)), .int (v4_handMode ((v1_states (v5_history V)) 3)), .float (v4_latestSpeed ((v1_states (v5_history V)) 3)), .float (v4_latestPedal ((v1_states (v5_history V)) 3))])), ((ad 46), .inr (3, [.ref (ad 47)])), ((ad 47), .inl (Y 1, 20, .inr (.inr (.inl (v4_maps ((v1_states (v5_history V)) 3)))))), ((ad 48), .inr (2, [.ref (ad 49), .int (v2_next (v4_log ((v1_states (v5_history V)) 3))), .int (v2_size (v4_log ((v1_states (v5_history V)) 3)))])), ((ad 49), .inl (Y 2, 50, .inl (v2_cells (v4_log ((v1_states (v5_history V)) 3))))), ((ad 50), .inl (Y 2, 13, .inl (v4_counts ((v1_states (v5_history V)) 3)))), ((ad 51), .inl (Y 2, 4, .inl (v4_settings ((v1_states (v5_history V)) 3)))), ((ad 52), .inr (0, [.ref (ad 53), .int (v0_length (v5_text V)), .ref (ad 54), .int (v0_parts (v5_text V)), .int (v0_place (v5_text V)), .int (v0_value (v5_text V)), .int (v0_digits (v5_text V))])), ((ad 53), .inl (Y 0, 60, .inl (v0_characters (v5_text V)))), ((ad 54), .inl (Y 2, 45, .inl (v0_numbers (v5_text V))))]
theorem carW_adr (Y : Nat → ClassId) (ad : Nat → Nat) (V V1 : CarV) : (carW Y ad V1).map (fun q => q.1) = (carW Y ad V).map (fun q => q.1) := rfl
def hrow (ad : Nat → Nat) (x : Int32) : Option Nat := if x = 0 then some (ad 24) else if x = 1 then some (ad 31) else if x = 2 then some (ad 38) else if x = 3 then some (ad 45) else none
theorem hrow_0 (ad : Nat → Nat) {x : Int32} (h : x = 0) : va_rf (hrow ad x) = .ref (ad 24) := by subst h; rfl
theorem hrow_1 (ad : Nat → Nat) {x : Int32} (h : x = 1) : va_rf (hrow ad x) = .ref (ad 31) := by subst h; rfl
theorem hrow_2 (ad : Nat → Nat) {x : Int32} (h : x = 2) : va_rf (hrow ad x) = .ref (ad 38) := by subst h; rfl
theorem hrow_3 (ad : Nat → Nat) {x : Int32} (h : x = 3) : va_rf (hrow ad x) = .ref (ad 45) := by subst h; rfl
theorem hrow_4 (ad : Nat → Nat) {x : Int32} (h0 : ¬ x = 0) (h1 : ¬ x = 1) (h2 : ¬ x = 2) (h3 : ¬ x = 3) : va_rf (hrow ad x) = .null := by
  unfold hrow
  rw [if_neg h0, if_neg h1, if_neg h2, if_neg h3]
  rfl
def mf_X3_has (x0 : Int32) (x1 : Int32) : Int32 := (if x1 < 0 then (0 : Int32) else (if (3 : Int32) < x1 then (0 : Int32) else (if (1 : Int32) ≤ x0 then (if x1 = (3 : Int32) then (if (5 : Int32) < x0 then (0 : Int32) else (1 : Int32)) else (if (5 : Int32) ≤ x0 then (0 : Int32) else (1 : Int32))) else (0 : Int32))))

def mf_X3_speed (V : (Nat → UInt32)) (x1 : Int32) (x2 : Int32) : UInt32 := (if (((x2 * (5 : Int32)) + x1) - (1 : Int32)) < 0 then FP.fconst0 else (if (20 : Int32) ≤ (((x2 * (5 : Int32)) + x1) - (1 : Int32)) then FP.fconst0 else (V (((x2 * (5 : Int32)) + x1) - (1 : Int32)).toNatClampNeg)))

def mf_X3_put (V : (Nat → UInt32)) (x1 : Int32) (x2 : Int32) (x3 : UInt32) : Option ((Nat → UInt32)) := (bnd (mf_X3_has x1 x2) (fun r_1 => (if r_1 = 0 then some V else (if ¬ (((x2 * (5 : Int32)) + x1) - (1 : Int32)) < 0 ∧ ¬ (20 : Int32) ≤ (((x2 * (5 : Int32)) + x1) - (1 : Int32)) then (bnd (vf_upd V (((x2 * (5 : Int32)) + x1) - (1 : Int32)).toNatClampNeg x3) (fun V_5 => some V_5)) else none))))

def mf_X3_upFrom (V : (Nat → UInt32)) (x1 : Int32) (x2 : UInt32) : Option (UInt32) := (bnd (mf_X3_speed V x1 (0 : Int32)) (fun r_1 => (bnd (mf_X3_speed V x1 (1 : Int32)) (fun r_3 => (if (FP.fsub r_3 r_1) &&& 0x7fffffff ≤ 0x7f800000 then (bnd (FP.fsub r_3 r_1) (fun f_6 => (if (FP.fmul f_6 x2) &&& 0x7fffffff ≤ 0x7f800000 then (bnd (FP.fmul f_6 x2) (fun f_9 => (if (FP.fadd r_1 f_9) &&& 0x7fffffff ≤ 0x7f800000 then (bnd (FP.fadd r_1 f_9) (fun f_12 => some f_12)) else none))) else none))) else none)))))

def mf_X3_downTo (V : (Nat → UInt32)) (x1 : Int32) (x2 : UInt32) : Option (UInt32) := (Option.bind (mf_X3_upFrom V x1 x2) (fun r_1 => (bnd (mf_X3_speed V x1 (2 : Int32)) (fun r_3 => (if (FP.fsub r_1 r_3) &&& 0x7fffffff ≤ 0x7f800000 then (bnd (FP.fsub r_1 r_3) (fun f_6 => some f_6)) else none)))))

def mf_X3_exceeds (V : (Nat → UInt32)) (x1 : UInt32) (x2 : Int32) : Int32 := (bnd (mf_X3_speed V x2 (3 : Int32)) (fun r_1 => (if (Op.cmpValue (FP.fcmp x1 r_1) CmpOp.l) ≤ 0 then (0 : Int32) else (1 : Int32))))

def mf_X3_copyFrom (V : (Nat → UInt32)) (U : (Nat → UInt32)) : (Nat → UInt32) := (bnd U (fun V_1 => V_1))

def mf_X2_told_B45 (V : LgV) (z2 : Int32) (y0 : Int32) : Int32 := (if ((y0 * (5 : Int32)) + z2) < 0 then (-5 : Int32) else (if (50 : Int32) ≤ ((y0 * (5 : Int32)) + z2) then (-5 : Int32) else ((v2_cells V) ((y0 * (5 : Int32)) + z2).toNatClampNeg)))
def mf_X2_told (V : LgV) (x1 : Int32) (x2 : Int32) : Int32 := (if x1 < 0 then (-5 : Int32) else (if (v2_size V) ≤ x1 then (-5 : Int32) else (if x2 < 0 then (-5 : Int32) else (if x2 < (5 : Int32) then (if 0 ≤ (((v2_next V) - (1 : Int32)) - x1) then (mf_X2_told_B45 V x2 (((v2_next V) - (1 : Int32)) - x1)) else (mf_X2_told_B45 V x2 ((((v2_next V) - (1 : Int32)) - x1) + (10 : Int32)))) else (-5 : Int32)))))

def mf_X2_add_B106 (W0 : LgV) (y0 : Int32) : Option (LgV) := (bnd (u2_next W0 y0) (fun V_22 => (bnd (if (10 : Int32) < ((v2_size V_22) + (1 : Int32)) then (10 : Int32) else ((v2_size V_22) + (1 : Int32))) (fun n_24 => (bnd (u2_size V_22 n_24) (fun V_28 => some V_28))))))
def mf_X2_add_B83 (W0 : LgV) (y0 : Int32) (y1 : Int32) : Option (LgV) := (if ¬ y1 < 0 ∧ ¬ (50 : Int32) ≤ y1 then (bnd (u2_cells W0 (upd (v2_cells W0) y1.toNatClampNeg y0)) (fun V_17 => (if (10 : Int32) ≤ ((v2_next V_17) + (1 : Int32)) then (mf_X2_add_B106 V_17 (0 : Int32)) else (mf_X2_add_B106 V_17 ((v2_next V_17) + (1 : Int32)))))) else none)
def mf_X2_add (V : LgV) (x1 : Int32) (x2 : Int32) (x3 : Int32) (x4 : Int32) (x5 : Int32) : Option (LgV) := (if ((v2_next V) * (5 : Int32)) < 0 then some V else (if (((v2_next V) * (5 : Int32)) + (5 : Int32)) ≤ (50 : Int32) then (if ¬ ((v2_next V) * (5 : Int32)) < 0 ∧ ¬ (50 : Int32) ≤ ((v2_next V) * (5 : Int32)) then (bnd (u2_cells V (upd (v2_cells V) ((v2_next V) * (5 : Int32)).toNatClampNeg x1)) (fun V_4 => (if ¬ (((v2_next V) * (5 : Int32)) + (1 : Int32)) < 0 ∧ ¬ (50 : Int32) ≤ (((v2_next V) * (5 : Int32)) + (1 : Int32)) then (bnd (u2_cells V_4 (upd (v2_cells V_4) (((v2_next V) * (5 : Int32)) + (1 : Int32)).toNatClampNeg x2)) (fun V_7 => (if ¬ (((v2_next V) * (5 : Int32)) + (2 : Int32)) < 0 ∧ ¬ (50 : Int32) ≤ (((v2_next V) * (5 : Int32)) + (2 : Int32)) then (bnd (u2_cells V_7 (upd (v2_cells V_7) (((v2_next V) * (5 : Int32)) + (2 : Int32)).toNatClampNeg x3)) (fun V_10 => (if ¬ (((v2_next V) * (5 : Int32)) + (3 : Int32)) < 0 ∧ ¬ (50 : Int32) ≤ (((v2_next V) * (5 : Int32)) + (3 : Int32)) then (bnd (u2_cells V_10 (upd (v2_cells V_10) (((v2_next V) * (5 : Int32)) + (3 : Int32)).toNatClampNeg x4)) (fun V_13 => (if x5 = 0 then (mf_X2_add_B83 V_13 (0 : Int32) (((v2_next V) * (5 : Int32)) + (4 : Int32))) else (mf_X2_add_B83 V_13 (1 : Int32) (((v2_next V) * (5 : Int32)) + (4 : Int32)))))) else none))) else none))) else none))) else none) else some V))

def mf_X2_copyFrom (V : LgV) (U : LgV) : LgV := (bnd (u2_cells V (v2_cells U)) (fun V_1 => (bnd (u2_next V_1 (v2_next U)) (fun V_5 => (bnd (u2_size V_5 (v2_size U)) (fun V_9 => V_9))))))

def mf_X4_setting (V : St) (x1 : Int32) : Int32 := (if x1 < 0 then (-1 : Int32) else (if (4 : Int32) ≤ x1 then (-1 : Int32) else ((v4_settings V) x1.toNatClampNeg)))

def mf_X4_putSetting (V : St) (x1 : Int32) (x2 : Int32) : St := (if x1 < 0 then V else (if (4 : Int32) ≤ x1 then V else (bnd (u4_settings V (upd (v4_settings V) x1.toNatClampNeg x2)) (fun V_3 => V_3))))

def mf_X4_allows (V : St) (x1 : Int32) (x2 : Int32) : Int32 := (if x1 = (0 : Int32) then (if x2 < (2 : Int32) then (0 : Int32) else (if (20 : Int32) < x2 then (0 : Int32) else (bnd (mf_X4_setting V (1 : Int32)) (fun r_4 => (if x2 ≤ r_4 then (0 : Int32) else (1 : Int32)))))) else (if x1 = (1 : Int32) then (if x2 < 0 then (0 : Int32) else (bnd (mf_X4_setting V (0 : Int32)) (fun r_9 => (if r_9 ≤ x2 then (0 : Int32) else (1 : Int32))))) else (if x2 < (1 : Int32) then (0 : Int32) else (if (100 : Int32) < x2 then (0 : Int32) else (1 : Int32)))))

def mf_X4_counted (V : St) (x1 : Int32) : Int32 := (if x1 < 0 then (-2 : Int32) else (if (13 : Int32) ≤ x1 then (-2 : Int32) else ((v4_counts V) x1.toNatClampNeg)))

def mf_X4_countOneMore (V : St) (x1 : Int32) : St := (if x1 < 0 then V else (if (13 : Int32) ≤ x1 then V else (bnd (u4_counts V (upd (v4_counts V) x1.toNatClampNeg (((v4_counts V) x1.toNatClampNeg) + (1 : Int32)))) (fun V_3 => V_3))))

def mf_X4_tick (V : St) : Int32 := (bnd (mf_X4_counted V (0 : Int32)) (fun r_1 => r_1))

def mf_X4_isChanging (V : St) : Int32 := (if (v4_target V) = 0 then (0 : Int32) else (1 : Int32))

def mf_X4_copyFrom (V : St) (U : St) : Option (St) := (bnd (mf_X3_copyFrom (v4_maps V) (v4_maps U)) (fun r_1 => (bnd (u4_maps V r_1) (fun V_3 => (bnd (mf_X2_copyFrom (v4_log V_3) (v4_log U)) (fun r_5 => (bnd (u4_log V_3 r_5) (fun V_7 => (bnd (u4_counts V_7 (v4_counts U)) (fun V_9 => (bnd (u4_settings V_9 (v4_settings U)) (fun V_11 => (bnd (u4_gear V_11 (v4_gear U)) (fun V_15 => (bnd (u4_target V_15 (v4_target U)) (fun V_19 => (bnd (u4_done V_19 (v4_done U)) (fun V_23 => (bnd (u4_held V_23 (v4_held U)) (fun V_27 => (if (v4_handMode U) = 0 ∨ (v4_handMode U) = 1 then (bnd (u4_handMode V_27 (v4_handMode U)) (fun V_32 => (bnd (u4_latestSpeed V_32 (v4_latestSpeed U)) (fun V_36 => (bnd (u4_latestPedal V_36 (v4_latestPedal U)) (fun V_40 => some V_40)))))) else none)))))))))))))))))))))

def mf_X4_isDeep (x0 : UInt32) : Int32 := (if (Op.cmpValue (FP.fcmp x0 (1064514355 : UInt32)) CmpOp.l) < 0 then (0 : Int32) else (1 : Int32))

def mf_X4_isClosed_B44 : Int32 := (1 : Int32)
def mf_X4_isClosed (x0 : Int32) (x1 : Int32) : Int32 := (if (x1 - (1 : Int32)) < 0 then (0 : Int32) else (if (5 : Int32) ≤ (x1 - (1 : Int32)) then (0 : Int32) else (if (x1 - (1 : Int32)) < (5 : Int32) then (if x0 = (tb_lo (x1 - (1 : Int32)).toNatClampNeg) then mf_X4_isClosed_B44 else (if x0 = (tb_hi (x1 - (1 : Int32)).toNatClampNeg) then mf_X4_isClosed_B44 else (0 : Int32))) else (0 : Int32))))

def mf_X4_closedOnlyIn_B2_5 (z0 : Int32) (z1 : Int32) : Int32 := (-5 : Int32)
def mf_X4_closedOnlyIn_B25_4 (z0 : Int32) (z1 : Int32) : Int32 := (mf_X4_closedOnlyIn_B2_5 z0 z1)
def mf_X4_closedOnlyIn_B2_4 (z0 : Int32) (z1 : Int32) : Int32 := (bnd (mf_X4_isClosed (4 : Int32) z0) (fun r_13 => (if r_13 = 0 then (mf_X4_closedOnlyIn_B25_4 z0 z1) else (bnd (mf_X4_isClosed (4 : Int32) z1) (fun r_16 => (if r_16 = 0 then (4 : Int32) else (mf_X4_closedOnlyIn_B25_4 z0 z1)))))))
def mf_X4_closedOnlyIn_B25_3 (z0 : Int32) (z1 : Int32) : Int32 := (mf_X4_closedOnlyIn_B2_4 z0 z1)
def mf_X4_closedOnlyIn_B2_3 (z0 : Int32) (z1 : Int32) : Int32 := (bnd (mf_X4_isClosed (3 : Int32) z0) (fun r_10 => (if r_10 = 0 then (mf_X4_closedOnlyIn_B25_3 z0 z1) else (bnd (mf_X4_isClosed (3 : Int32) z1) (fun r_19 => (if r_19 = 0 then (3 : Int32) else (mf_X4_closedOnlyIn_B25_3 z0 z1)))))))
def mf_X4_closedOnlyIn_B25_2 (z0 : Int32) (z1 : Int32) : Int32 := (mf_X4_closedOnlyIn_B2_3 z0 z1)
def mf_X4_closedOnlyIn_B2_2 (z0 : Int32) (z1 : Int32) : Int32 := (bnd (mf_X4_isClosed (2 : Int32) z0) (fun r_7 => (if r_7 = 0 then (mf_X4_closedOnlyIn_B25_2 z0 z1) else (bnd (mf_X4_isClosed (2 : Int32) z1) (fun r_22 => (if r_22 = 0 then (2 : Int32) else (mf_X4_closedOnlyIn_B25_2 z0 z1)))))))
def mf_X4_closedOnlyIn_B25_1 (z0 : Int32) (z1 : Int32) : Int32 := (mf_X4_closedOnlyIn_B2_2 z0 z1)
def mf_X4_closedOnlyIn_B2_1 (z0 : Int32) (z1 : Int32) : Int32 := (bnd (mf_X4_isClosed (1 : Int32) z0) (fun r_4 => (if r_4 = 0 then (mf_X4_closedOnlyIn_B25_1 z0 z1) else (bnd (mf_X4_isClosed (1 : Int32) z1) (fun r_25 => (if r_25 = 0 then (1 : Int32) else (mf_X4_closedOnlyIn_B25_1 z0 z1)))))))
def mf_X4_closedOnlyIn_B25_0 (z0 : Int32) (z1 : Int32) : Int32 := (mf_X4_closedOnlyIn_B2_1 z0 z1)
def mf_X4_closedOnlyIn_B2_0 (z0 : Int32) (z1 : Int32) : Int32 := (bnd (mf_X4_isClosed (0 : Int32) z0) (fun r_1 => (if r_1 = 0 then (mf_X4_closedOnlyIn_B25_0 z0 z1) else (bnd (mf_X4_isClosed (0 : Int32) z1) (fun r_28 => (if r_28 = 0 then (0 : Int32) else (mf_X4_closedOnlyIn_B25_0 z0 z1)))))))
def mf_X4_closedOnlyIn (x0 : Int32) (x1 : Int32) : Int32 := (mf_X4_closedOnlyIn_B2_0 x0 x1)

def mf_X4_opening (V : St) : Int32 := (bnd (mf_X4_isChanging V) (fun r_1 => (if r_1 = 0 then (-5 : Int32) else (bnd (mf_X4_closedOnlyIn (v4_gear V) (v4_target V)) (fun r_4 => r_4)))))

def mf_X4_closing (V : St) : Int32 := (bnd (mf_X4_isChanging V) (fun r_1 => (if r_1 = 0 then (-5 : Int32) else (bnd (mf_X4_closedOnlyIn (v4_target V) (v4_gear V)) (fun r_4 => r_4)))))

def mf_X4_openingPressure (V : St) : Option (UInt32) := (bnd (mf_X4_setting V (0 : Int32)) (fun r_1 => (if r_1 ≤ 0 then some FP.fconst0 else (if (FP.fdiv (FP.i2f (v4_done V)) (FP.i2f r_1)) &&& 0x7fffffff ≤ 0x7f800000 then (bnd (FP.fdiv (FP.i2f (v4_done V)) (FP.i2f r_1)) (fun f_5 => (if (FP.fsub FP.fconst1 f_5) &&& 0x7fffffff ≤ 0x7f800000 then (bnd (FP.fsub FP.fconst1 f_5) (fun f_8 => some f_8)) else none))) else none))))

def mf_X4_closingPressure (V : St) : Option (UInt32) := (bnd (mf_X4_setting V (1 : Int32)) (fun r_1 => (bnd (mf_X4_setting V (0 : Int32)) (fun r_3 => (if (v4_done V) ≤ r_1 then some FP.fconst0 else (if r_1 < r_3 then (if (FP.fdiv (FP.i2f ((v4_done V) - r_1)) (FP.i2f (r_3 - r_1))) &&& 0x7fffffff ≤ 0x7f800000 then (bnd (FP.fdiv (FP.i2f ((v4_done V) - r_1)) (FP.i2f (r_3 - r_1))) (fun f_8 => some f_8)) else none) else some FP.fconst0))))))

def mf_X4_pressureOf_B40 (V : St) (z1 : Int32) : Option (UInt32) := (bnd (mf_X4_isClosed z1 (v4_gear V)) (fun r_7 => (if r_7 = 0 then some FP.fconst0 else some FP.fconst1)))
def mf_X4_pressureOf_B20 (V : St) (z1 : Int32) : Option (UInt32) := (bnd (mf_X4_isChanging V) (fun r_4 => (if r_4 = 0 then (mf_X4_pressureOf_B40 V z1) else (bnd (mf_X4_closing V) (fun r_10 => (if z1 = r_10 then (Option.bind (mf_X4_closingPressure V) (fun r_13 => some r_13)) else (mf_X4_pressureOf_B40 V z1)))))))
def mf_X4_pressureOf (V : St) (x1 : Int32) : Option (UInt32) := (bnd (mf_X4_isChanging V) (fun r_1 => (if r_1 = 0 then (mf_X4_pressureOf_B20 V x1) else (bnd (mf_X4_opening V) (fun r_15 => (if x1 = r_15 then (Option.bind (mf_X4_openingPressure V) (fun r_18 => some r_18)) else (mf_X4_pressureOf_B20 V x1)))))))

def mf_X4_greaterPressure (V : St) : Option (UInt32) := (bnd (mf_X4_isChanging V) (fun r_1 => (if r_1 = 0 then some FP.fconst1 else (Option.bind (mf_X4_openingPressure V) (fun r_4 => (Option.bind (mf_X4_closingPressure V) (fun r_6 => (if (Op.cmpValue (FP.fcmp r_4 r_6) CmpOp.l) < 0 then some r_6 else some r_4))))))))

def mf_X4_mayShiftTo (V : St) (x1 : Int32) : Int32 := (if (v4_handMode V) = 0 then (0 : Int32) else (bnd (mf_X4_isChanging V) (fun r_2 => (if r_2 = 0 then (if x1 < (1 : Int32) then (0 : Int32) else (if (5 : Int32) < x1 then (0 : Int32) else (bnd (mf_X3_exceeds (v4_maps V) (v4_latestSpeed V) x1) (fun r_7 => (if r_7 = 0 then (1 : Int32) else (0 : Int32)))))) else (0 : Int32)))))

def mf_X4_swings_B20 (V : St) (z1 : Int32) (y0 : Int32) : Int32 := (bnd (mf_X2_told (v4_log V) (0 : Int32) (3 : Int32)) (fun r_3 => (if r_3 = y0 then (bnd (mf_X2_told (v4_log V) (1 : Int32) (3 : Int32)) (fun r_6 => (if r_6 = z1 then (bnd (mf_X4_tick V) (fun r_9 => (bnd (mf_X2_told (v4_log V) (1 : Int32) (0 : Int32)) (fun r_11 => (bnd (mf_X4_setting V (2 : Int32)) (fun r_13 => (if r_13 < (r_9 - r_11) then (0 : Int32) else (1 : Int32)))))))) else (0 : Int32)))) else (0 : Int32))))
def mf_X4_swings_B11 (V : St) (z1 : Int32) : Int32 := (if z1 = 0 then (mf_X4_swings_B20 V z1 (1 : Int32)) else (mf_X4_swings_B20 V z1 (0 : Int32)))
def mf_X4_swings (V : St) (x1 : Int32) : Int32 := (if x1 = 0 then (mf_X4_swings_B11 V x1) else (if x1 = (1 : Int32) then (mf_X4_swings_B11 V x1) else (0 : Int32)))

def mf_X4_goOnWithChange (V : St) : St := (bnd (mf_X4_isChanging V) (fun r_1 => (if r_1 = 0 then V else (bnd (u4_done V ((v4_done V) + (1 : Int32))) (fun V_6 => (bnd (mf_X4_setting V_6 (0 : Int32)) (fun r_8 => (if (v4_done V_6) < r_8 then V_6 else (bnd (u4_gear V_6 (v4_target V_6)) (fun V_13 => (bnd (u4_target V_13 (0 : Int32)) (fun V_17 => V_17))))))))))))

def mf_X4_kickdownGear_B11 : Nat → St → UInt32 → Int32 → Option (Int32)
  | 0, _, _, _ => none
  | fu + 1, V, z1, z2 => (if (v4_gear V) ≤ z2 then some (0 : Int32) else (bnd (mf_X3_exceeds (v4_maps V) z1 z2) (fun r_4 => (if r_4 = 0 then some z2 else (mf_X4_kickdownGear_B11 fu V z1 (z2 + (1 : Int32)))))))
def mf_X4_kickdownGear (V : St) (x1 : UInt32) : Option (Int32) := (bnd (if ((v4_gear V) - (2 : Int32)) < (1 : Int32) then (1 : Int32) else ((v4_gear V) - (2 : Int32))) (fun n_1 => (mf_X4_kickdownGear_B11 6 V x1 n_1)))

def mf_X4_reasonToChange_B95 (V : St) (z1 : UInt32) (z2 : UInt32) : Option (Int32) := (if (v4_gear V) ≤ (1 : Int32) then some (-1 : Int32) else (Option.bind (mf_X3_downTo (v4_maps V) ((v4_gear V) - (1 : Int32)) z2) (fun r_9 => (if 0 ≤ (Op.cmpValue (FP.fcmp z1 r_9) CmpOp.g) then some (-1 : Int32) else some (1 : Int32)))))
def mf_X4_reasonToChange_B52 (V : St) (z1 : UInt32) (z2 : UInt32) : Option (Int32) := (if (v4_handMode V) = 0 then (if (v4_held V) ≤ 0 then (if (5 : Int32) ≤ (v4_gear V) then (mf_X4_reasonToChange_B95 V z1 z2) else (Option.bind (mf_X3_upFrom (v4_maps V) (v4_gear V) z2) (fun r_12 => (if (Op.cmpValue (FP.fcmp z1 r_12) CmpOp.l) ≤ 0 then (mf_X4_reasonToChange_B95 V z1 z2) else some (0 : Int32))))) else some (-1 : Int32)) else some (-1 : Int32))
def mf_X4_reasonToChange_B25 (V : St) (z1 : UInt32) (z2 : UInt32) : Option (Int32) := (bnd (mf_X4_isDeep z2) (fun r_2 => (if r_2 = 0 then (mf_X4_reasonToChange_B52 V z1 z2) else (bnd (mf_X4_isDeep (v4_latestPedal V)) (fun r_15 => (if r_15 = 0 then (Option.bind (mf_X4_kickdownGear V z1) (fun r_18 => (if r_18 = 0 then (mf_X4_reasonToChange_B52 V z1 z2) else some (2 : Int32)))) else (mf_X4_reasonToChange_B52 V z1 z2)))))))
def mf_X4_reasonToChange (V : St) (x1 : UInt32) (x2 : UInt32) : Option (Int32) := (if (5 : Int32) ≤ (v4_gear V) then (mf_X4_reasonToChange_B25 V x1 x2) else (bnd (mf_X3_exceeds (v4_maps V) x1 (v4_gear V)) (fun r_21 => (if r_21 = 0 then (mf_X4_reasonToChange_B25 V x1 x2) else some (4 : Int32)))))

def mf_X4_gearChosenBy (V : St) (x1 : Int32) (x2 : UInt32) : Option (Int32) := (if x1 = (1 : Int32) then some ((v4_gear V) - (1 : Int32)) else (if x1 = (2 : Int32) then (Option.bind (mf_X4_kickdownGear V x2) (fun r_3 => some r_3)) else some ((v4_gear V) + (1 : Int32))))

def mf_X4_countTick (V : St) : St := (bnd (mf_X4_countOneMore V (0 : Int32)) (fun r_1 => (bnd (mf_X4_countOneMore r_1 (((7 : Int32) + (v4_gear r_1)) - (1 : Int32))) (fun r_3 => (bnd (mf_X4_isChanging r_3) (fun r_5 => (if r_5 = 0 then r_3 else (bnd (mf_X4_countOneMore r_3 (12 : Int32)) (fun r_8 => r_8)))))))))

def mf_X4_begin (V : St) (x1 : Int32) (x2 : Int32) : Option (St) := (bnd (mf_X4_swings V x1) (fun r_1 => (bnd (mf_X4_tick V) (fun r_3 => (Option.bind (mf_X2_add (v4_log V) r_3 (v4_gear V) x2 x1 r_1) (fun r_5 => (bnd (u4_log V r_5) (fun V_7 => (bnd (u4_target V_7 x2) (fun V_11 => (bnd (u4_done V_11 (0 : Int32)) (fun V_15 => (bnd (mf_X4_countOneMore V_15 ((1 : Int32) + x1)) (fun r_17 => (if r_1 = 0 then some r_17 else (bnd (mf_X4_setting r_17 (3 : Int32)) (fun r_20 => (bnd (u4_held r_17 r_20) (fun V_24 => (bnd (mf_X4_countOneMore V_24 (6 : Int32)) (fun r_26 => some r_26)))))))))))))))))))))

def mf_X4_passTick_B55 (W0 : St) (z1 : UInt32) (z2 : UInt32) (z3 : Int32) : Option (Int32 × St) := (bnd (u4_latestSpeed W0 z1) (fun V_12 => (bnd (u4_latestPedal V_12 z2) (fun V_16 => (bnd (mf_X4_countTick V_16) (fun r_18 => (if z3 = (-1 : Int32) then some ((0 : Int32), r_18) else some ((1 : Int32), r_18))))))))
def mf_X4_passTick_B39 (W0 : St) (z1 : UInt32) (z2 : UInt32) (z3 : Int32) : Option (Int32 × St) := (if z3 = (-1 : Int32) then (mf_X4_passTick_B55 W0 z1 z2 z3) else (Option.bind (mf_X4_gearChosenBy W0 z3 z1) (fun r_21 => (Option.bind (mf_X4_begin W0 z3 r_21) (fun r_23 => (mf_X4_passTick_B55 r_23 z1 z2 z3))))))
def mf_X4_passTick_B21 (W0 : St) (z1 : UInt32) (z2 : UInt32) (y0 : Int32) : Option (Int32 × St) := (if (v4_held W0) ≤ 0 then (mf_X4_passTick_B39 W0 z1 z2 y0) else (bnd (u4_held W0 ((v4_held W0) - (1 : Int32))) (fun V_27 => (mf_X4_passTick_B39 V_27 z1 z2 y0))))
def mf_X4_passTick (V : St) (x1 : UInt32) (x2 : UInt32) : Option (Int32 × St) := (bnd (mf_X4_goOnWithChange V) (fun r_1 => (bnd (mf_X4_isChanging r_1) (fun r_3 => (if r_3 = 0 then (Option.bind (mf_X4_reasonToChange r_1 x1 x2) (fun r_6 => (mf_X4_passTick_B21 r_1 x1 x2 r_6))) else (mf_X4_passTick_B21 r_1 x1 x2 (-1 : Int32)))))))

def mf_X4_passTicks_B24 (rc : St → UInt32 → UInt32 → Int32 → Int32 → Int32 → Option (Int32 × St)) (W0 : St) (z1 : UInt32) (z2 : UInt32) (z3 : Int32) (z4 : Int32) (z5 : Int32) : Option (Int32 × St) := (rc W0 z1 z2 z3 z4 (z5 + (1 : Int32)))
def mf_X4_passTicks_B6 : Nat → St → UInt32 → UInt32 → Int32 → Int32 → Int32 → Option (Int32 × St)
  | 0, _, _, _, _, _, _ => none
  | fu + 1, W0, z1, z2, z3, z4, z5 => (if z3 ≤ z5 then some (z4, W0) else (Option.bind (mf_X4_passTick W0 z1 z2) (fun r_2 => (if r_2.1 = 0 then (mf_X4_passTicks_B24 (fun w0 w1 w2 w3 w4 w5 => mf_X4_passTicks_B6 fu w0 w1 w2 w3 w4 w5) r_2.2 z1 z2 z3 z4 z5) else (mf_X4_passTicks_B24 (fun w0 w1 w2 w3 w4 w5 => mf_X4_passTicks_B6 fu w0 w1 w2 w3 w4 w5) r_2.2 z1 z2 z3 (z4 + (1 : Int32)) z5)))))
def mf_X4_passTicks (V : St) (x1 : UInt32) (x2 : UInt32) (x3 : Int32) : Option (Int32 × St) := (mf_X4_passTicks_B6 200 V x1 x2 x3 (0 : Int32) (0 : Int32))

def mf_X0_append (V : TxV) (x1 : Int32) : Int32 × TxV := (if (v0_length V) < 0 then ((0 : Int32), V) else (if (v0_length V) < (60 : Int32) then (bnd (u0_characters V (upd (v0_characters V) (v0_length V).toNatClampNeg (vp_nar .char x1))) (fun V_3 => (bnd (u0_length V_3 ((v0_length V_3) + (1 : Int32))) (fun V_7 => ((1 : Int32), V_7))))) else ((0 : Int32), V)))

def mf_X0_length (V : TxV) : Int32 := (v0_length V)

def mf_X0_clear (V : TxV) : TxV := (bnd (u0_length V (0 : Int32)) (fun V_3 => V_3))

def mf_X0_partCount (V : TxV) : Int32 := (v0_parts V)

def mf_X0_numberOf (V : TxV) (x1 : Int32) (x2 : Int32) : Int32 := (if ((x1 * (3 : Int32)) + x2) < 0 then (0 : Int32) else (if (45 : Int32) ≤ ((x1 * (3 : Int32)) + x2) then (0 : Int32) else ((v0_numbers V) ((x1 * (3 : Int32)) + x2).toNatClampNeg)))

def mf_X0_speedOf (V : TxV) (x1 : Int32) : Int32 := (bnd (mf_X0_numberOf V x1 (0 : Int32)) (fun r_1 => r_1))

def mf_X0_hundredthsOf (V : TxV) (x1 : Int32) : Int32 := (bnd (mf_X0_numberOf V x1 (1 : Int32)) (fun r_1 => r_1))

def mf_X0_ticksOf (V : TxV) (x1 : Int32) : Int32 := (bnd (mf_X0_numberOf V x1 (2 : Int32)) (fun r_1 => r_1))

def mf_X0_ticksOfAllParts_B4 : Nat → TxV → Int32 → Int32 → Option (Int32)
  | 0, _, _, _ => none
  | fu + 1, V, z1, z2 => (if (v0_parts V) ≤ z2 then some z1 else (bnd (mf_X0_ticksOf V z2) (fun r_2 => (mf_X0_ticksOfAllParts_B4 fu V (z1 + r_2) (z2 + (1 : Int32))))))
def mf_X0_ticksOfAllParts (V : TxV) : Option (Int32) := (mf_X0_ticksOfAllParts_B4 70 V (0 : Int32) (0 : Int32))

def mf_X0_expectNumber (V : TxV) (x1 : Int32) : TxV := (bnd (u0_place V x1) (fun V_3 => (bnd (u0_value V_3 (0 : Int32)) (fun V_7 => (bnd (u0_digits V_7 (0 : Int32)) (fun V_11 => V_11))))))

def mf_X0_putNumber (V : TxV) (x1 : Int32) (x2 : Int32) : TxV := (if (((v0_parts V) * (3 : Int32)) + x1) < 0 then V else (if (45 : Int32) ≤ (((v0_parts V) * (3 : Int32)) + x1) then V else (bnd (u0_numbers V (upd (v0_numbers V) (((v0_parts V) * (3 : Int32)) + x1).toNatClampNeg x2)) (fun V_3 => V_3))))

def mf_X0_endNumber (V : TxV) (x1 : Int32) : Int32 × TxV := (if (v0_digits V) = 0 then ((0 : Int32), V) else (bnd (mf_X0_putNumber V (v0_place V) (v0_value V)) (fun r_2 => (bnd (mf_X0_expectNumber r_2 x1) (fun r_4 => ((1 : Int32), r_4))))))

def mf_X0_endPart_B41 (W0 : TxV) : Int32 × TxV := (bnd (u0_parts W0 ((v0_parts W0) + (1 : Int32))) (fun V_9 => ((1 : Int32), V_9)))
def mf_X0_endPart_B13 (W0 : TxV) (y0 : Int32) : Int32 × TxV := (if (v0_place W0) = 0 then ((0 : Int32), W0) else (bnd (mf_X0_endNumber W0 (0 : Int32)) (fun r_3 => (if r_3.1 = 0 then ((0 : Int32), r_3.2) else (if y0 = 0 then (bnd (mf_X0_putNumber r_3.2 (2 : Int32) (1 : Int32)) (fun r_11 => (mf_X0_endPart_B41 r_11))) else (mf_X0_endPart_B41 r_3.2))))))
def mf_X0_endPart (V : TxV) : Int32 × TxV := (if (v0_place V) = (2 : Int32) then (mf_X0_endPart_B13 V (1 : Int32)) else (mf_X0_endPart_B13 V (0 : Int32)))

def mf_X0_takesDigit_B37 (W0 : TxV) (z1 : Int32) : Int32 × TxV := (if (v0_place W0) < 0 then ((0 : Int32), W0) else (if (3 : Int32) ≤ (v0_place W0) then ((0 : Int32), W0) else (if (((v0_value W0) * (10 : Int32)) + z1) ≤ (tb_gr (v0_place W0).toNatClampNeg) then (bnd (u0_value W0 (((v0_value W0) * (10 : Int32)) + z1)) (fun V_8 => (bnd (u0_digits V_8 ((v0_digits V_8) + (1 : Int32))) (fun V_12 => ((1 : Int32), V_12))))) else ((0 : Int32), W0))))
def mf_X0_takesDigit_B16 (W0 : TxV) (z1 : Int32) : Int32 × TxV := (if (v0_place W0) = (2 : Int32) then (if (v0_digits W0) = 0 then (if z1 = 0 then ((0 : Int32), W0) else (mf_X0_takesDigit_B37 W0 z1)) else (mf_X0_takesDigit_B37 W0 z1)) else (mf_X0_takesDigit_B37 W0 z1))
def mf_X0_takesDigit (V : TxV) (x1 : Int32) : Int32 × TxV := (if (v0_digits V) ≤ 0 then (mf_X0_takesDigit_B16 V x1) else (if (v0_value V) = 0 then ((0 : Int32), V) else (mf_X0_takesDigit_B16 V x1)))

def mf_X0_takes (V : TxV) (x1 : Int32) : Option (Int32 × TxV) := (if x1 = (42 : Int32) then (if (v0_place V) = (1 : Int32) then (bnd (mf_X0_endNumber V (2 : Int32)) (fun r_3 => (if r_3.1 = 0 then some ((0 : Int32), r_3.2) else some ((1 : Int32), r_3.2)))) else some ((0 : Int32), V)) else (if x1 = (44 : Int32) then (if (v0_place V) = 0 then (bnd (mf_X0_endNumber V (1 : Int32)) (fun r_8 => (if r_8.1 = 0 then some ((0 : Int32), r_8.2) else some ((1 : Int32), r_8.2)))) else some ((0 : Int32), V)) else (if x1 = (59 : Int32) then (bnd (mf_X0_endPart V) (fun r_12 => (if r_12.1 = 0 ∨ r_12.1 = 1 then some (r_12.1, r_12.2) else none))) else (if x1 < (48 : Int32) then some ((0 : Int32), V) else (if (57 : Int32) < x1 then some ((0 : Int32), V) else (bnd (mf_X0_takesDigit V (x1 - (48 : Int32))) (fun r_17 => (if r_17.1 = 0 then some ((0 : Int32), r_17.2) else some ((1 : Int32), r_17.2)))))))))

def mf_X0_read_B50 (W0 : TxV) : Option (Int32 × TxV) := (bnd (mf_X0_endPart W0) (fun r_8 => (if r_8.1 = 0 then some ((v0_length r_8.2), r_8.2) else some ((-1 : Int32), r_8.2))))
def mf_X0_read_B12 : Nat → TxV → Int32 → Option (Int32 × TxV)
  | 0, _, _ => none
  | fu + 1, W0, z1 => (if (v0_length W0) ≤ z1 then (mf_X0_read_B50 W0) else (if (60 : Int32) ≤ z1 then (mf_X0_read_B50 W0) else (if ¬ z1 < 0 ∧ ¬ (60 : Int32) ≤ z1 then (Option.bind (mf_X0_takes W0 ((v0_characters W0) z1.toNatClampNeg)) (fun r_13 => (if r_13.1 = 0 then some (z1, r_13.2) else (mf_X0_read_B12 fu r_13.2 (z1 + (1 : Int32)))))) else none)))
def mf_X0_read (V : TxV) : Option (Int32 × TxV) := (bnd (u0_parts V (0 : Int32)) (fun V_3 => (bnd (mf_X0_expectNumber V_3 (0 : Int32)) (fun r_5 => (mf_X0_read_B12 70 r_5 (0 : Int32))))))

def mf_X1_size (V : HiV) : Int32 := (v1_size V)

def mf_X1_record_B40 (U : St) (W0 : HiV) (y0 : Int32) : Option (HiV) := (bnd (u1_next W0 y0) (fun V_12 => (bnd (if (4 : Int32) < ((v1_size V_12) + (1 : Int32)) then (4 : Int32) else ((v1_size V_12) + (1 : Int32))) (fun n_14 => (bnd (u1_size V_12 n_14) (fun V_18 => some V_18))))))
def mf_X1_record (V : HiV) (U : St) : Option (HiV) := (if (v1_next V) = (0 : Int32) then (Option.bind (mf_X4_copyFrom ((v1_states V) 0) U) (fun r_5 => (bnd (u1_states V (va_up (v1_states V) 0 r_5)) (fun V_7 => (if (4 : Int32) ≤ ((v1_next V_7) + (1 : Int32)) then (mf_X1_record_B40 U V_7 (0 : Int32)) else (mf_X1_record_B40 U V_7 ((v1_next V_7) + (1 : Int32)))))))) else (if (v1_next V) = (1 : Int32) then (Option.bind (mf_X4_copyFrom ((v1_states V) 1) U) (fun r_20 => (bnd (u1_states V (va_up (v1_states V) 1 r_20)) (fun V_22 => (if (4 : Int32) ≤ ((v1_next V_22) + (1 : Int32)) then (mf_X1_record_B40 U V_22 (0 : Int32)) else (mf_X1_record_B40 U V_22 ((v1_next V_22) + (1 : Int32)))))))) else (if (v1_next V) = (2 : Int32) then (Option.bind (mf_X4_copyFrom ((v1_states V) 2) U) (fun r_25 => (bnd (u1_states V (va_up (v1_states V) 2 r_25)) (fun V_27 => (if (4 : Int32) ≤ ((v1_next V_27) + (1 : Int32)) then (mf_X1_record_B40 U V_27 (0 : Int32)) else (mf_X1_record_B40 U V_27 ((v1_next V_27) + (1 : Int32)))))))) else (if (v1_next V) = (3 : Int32) then (Option.bind (mf_X4_copyFrom ((v1_states V) 3) U) (fun r_30 => (bnd (u1_states V (va_up (v1_states V) 3 r_30)) (fun V_32 => (if (4 : Int32) ≤ ((v1_next V_32) + (1 : Int32)) then (mf_X1_record_B40 U V_32 (0 : Int32)) else (mf_X1_record_B40 U V_32 ((v1_next V_32) + (1 : Int32)))))))) else some V))))

def mf_X1_takeLatestInto_B17 (W0 : HiV) (W1 : St) (y0 : Int32) : Option (Int32 × HiV × St) := (if y0 = (0 : Int32) then (if (v1_size W0) = 0 then some ((0 : Int32), W0, W1) else (Option.bind (mf_X4_copyFrom W1 ((v1_states W0) 0)) (fun r_7 => (bnd (u1_next W0 y0) (fun V_11 => (bnd (u1_size V_11 ((v1_size V_11) - (1 : Int32))) (fun V_15 => some ((1 : Int32), V_15, r_7)))))))) else (if y0 = (1 : Int32) then (if (v1_size W0) = 0 then some ((0 : Int32), W0, W1) else (Option.bind (mf_X4_copyFrom W1 ((v1_states W0) 1)) (fun r_18 => (bnd (u1_next W0 y0) (fun V_22 => (bnd (u1_size V_22 ((v1_size V_22) - (1 : Int32))) (fun V_26 => some ((1 : Int32), V_26, r_18)))))))) else (if y0 = (2 : Int32) then (if (v1_size W0) = 0 then some ((0 : Int32), W0, W1) else (Option.bind (mf_X4_copyFrom W1 ((v1_states W0) 2)) (fun r_29 => (bnd (u1_next W0 y0) (fun V_33 => (bnd (u1_size V_33 ((v1_size V_33) - (1 : Int32))) (fun V_37 => some ((1 : Int32), V_37, r_29)))))))) else (if y0 = (3 : Int32) then (if (v1_size W0) = 0 then some ((0 : Int32), W0, W1) else (Option.bind (mf_X4_copyFrom W1 ((v1_states W0) 3)) (fun r_40 => (bnd (u1_next W0 y0) (fun V_44 => (bnd (u1_size V_44 ((v1_size V_44) - (1 : Int32))) (fun V_48 => some ((1 : Int32), V_48, r_40)))))))) else (if (v1_size W0) = 0 then some ((0 : Int32), W0, W1) else some ((0 : Int32), W0, W1))))))
def mf_X1_takeLatestInto (V : HiV) (U : St) : Option (Int32 × HiV × St) := (if (v1_next V) ≤ 0 then (mf_X1_takeLatestInto_B17 V U (3 : Int32)) else (mf_X1_takeLatestInto_B17 V U ((v1_next V) - (1 : Int32))))

def mf_X5_isSpeed (x0 : Int32) : Int32 := (if x0 < 0 then (0 : Int32) else (if (1133903872 : Int32) < x0 then (0 : Int32) else (1 : Int32)))

def mf_X5_isPedal (x0 : Int32) : Int32 := (if x0 < 0 then (0 : Int32) else (if (1065353216 : Int32) < x0 then (0 : Int32) else (1 : Int32)))

def mf_X5_floatOf_B30 : Nat → UInt32 → Int32 → Option (UInt32)
  | 0, _, _ => none
  | fu + 1, z3, z4 => (if (150 : Int32) ≤ z4 then some z3 else (if (FP.fmul z3 (1056964608 : UInt32)) &&& 0x7fffffff ≤ 0x7f800000 then (bnd (FP.fmul z3 (1056964608 : UInt32)) (fun f_4 => (mf_X5_floatOf_B30 fu f_4 (z4 + (1 : Int32))))) else none))
def mf_X5_floatOf_B24 (z1 : Int32) (z2 : Int32) : Option (UInt32) := (mf_X5_floatOf_B30 200 (FP.i2f z2) z1)
def mf_X5_floatOf (x0 : Int32) : Option (UInt32) := (if (x0 >>> ((23 : Int32) &&& 31)) ≤ 0 then (mf_X5_floatOf_B24 (1 : Int32) (x0 &&& (8388607 : Int32))) else (mf_X5_floatOf_B24 (x0 >>> ((23 : Int32) &&& 31)) ((x0 &&& (8388607 : Int32)) + (8388608 : Int32))))

def mf_X5_notANumber : UInt32 := (2143289344 : UInt32)

def mf_X5_car (V : CarV) (x1 : Int32) : Int32 := (if x1 = (0 : Int32) then (v4_gear (v5_now V)) else (if x1 = (1 : Int32) then (bnd (mf_X4_isChanging (v5_now V)) (fun r_3 => (if r_3 = 0 then (-5 : Int32) else (v4_target (v5_now V))))) else (if x1 = (2 : Int32) then (bnd (mf_X4_isChanging (v5_now V)) (fun r_7 => (if r_7 = 0 then (-5 : Int32) else (v4_done (v5_now V))))) else (if x1 = (3 : Int32) then (v4_held (v5_now V)) else (if x1 = (4 : Int32) then (if (v4_handMode (v5_now V)) = 0 then (0 : Int32) else (1 : Int32)) else (if x1 = (5 : Int32) then (bnd (mf_X4_opening (v5_now V)) (fun r_14 => r_14)) else (if x1 = (6 : Int32) then (bnd (mf_X4_closing (v5_now V)) (fun r_17 => r_17)) else (-2 : Int32))))))))

def mf_X5_pressed_B20 (V : CarV) : Option (UInt32) := (bnd mf_X5_notANumber (fun r_2 => some r_2))
def mf_X5_pressed (V : CarV) (x1 : Int32) : Option (UInt32) := (if x1 < 0 then (mf_X5_pressed_B20 V) else (if (5 : Int32) ≤ x1 then (mf_X5_pressed_B20 V) else (Option.bind (mf_X4_pressureOf (v5_now V) x1) (fun r_5 => some r_5))))

def mf_X5_force (V : CarV) : Option (UInt32) := (Option.bind (mf_X4_greaterPressure (v5_now V)) (fun r_1 => some r_1))

def mf_X5_map (V : CarV) (x1 : Int32) (x2 : Int32) : UInt32 := (bnd (mf_X3_has x1 x2) (fun r_1 => (if r_1 = 0 then (bnd mf_X5_notANumber (fun r_4 => r_4)) else (bnd (mf_X3_speed (v4_maps (v5_now V)) x1 x2) (fun r_6 => r_6)))))

def mf_X5_border_B15 (V : CarV) : Option (UInt32) := (bnd mf_X5_notANumber (fun r_4 => some r_4))
def mf_X5_border (V : CarV) (x1 : Int32) (x2 : Int32) (x3 : Int32) : Option (UInt32) := (bnd (mf_X3_has x1 (0 : Int32)) (fun r_1 => (if r_1 = 0 then (mf_X5_border_B15 V) else (bnd (mf_X5_isPedal x2) (fun r_6 => (if r_6 = 0 then (mf_X5_border_B15 V) else (Option.bind (mf_X5_floatOf x2) (fun r_9 => (if x3 = 0 then (Option.bind (mf_X3_downTo (v4_maps (v5_now V)) x1 r_9) (fun r_12 => some r_12)) else (Option.bind (mf_X3_upFrom (v4_maps (v5_now V)) x1 r_9) (fun r_14 => some r_14)))))))))))

def mf_X5_number (V : CarV) (x1 : Int32) : Int32 := (bnd (mf_X4_setting (v5_now V) x1) (fun r_1 => r_1))

def mf_X5_change_B13 (V : CarV) : Int32 := (-2 : Int32)
def mf_X5_change (V : CarV) (x1 : Int32) (x2 : Int32) : Int32 := (if x1 < 0 then (mf_X5_change_B13 V) else (if x2 < 0 then (mf_X5_change_B13 V) else (if x2 < (5 : Int32) then (bnd (mf_X2_told (v4_log (v5_now V)) x1 x2) (fun r_4 => r_4)) else (mf_X5_change_B13 V))))

def mf_X5_count (V : CarV) (x1 : Int32) : Int32 := (if x1 = (13 : Int32) then (bnd (mf_X1_size (v5_history V)) (fun r_7 => r_7)) else (if x1 = (14 : Int32) then (bnd (mf_X0_length (v5_text V)) (fun r_5 => r_5)) else (bnd (mf_X4_counted (v5_now V) x1) (fun r_3 => r_3))))

def mf_X5_setMap (V : CarV) (x1 : Int32) (x2 : Int32) (x3 : Int32) : Option (Int32 × CarV) := (if x2 < 0 then some ((-2 : Int32), V) else (if x2 ≤ (3 : Int32) then (bnd (mf_X3_has x1 x2) (fun r_3 => (if r_3 = 0 then some ((-1 : Int32), V) else (bnd (mf_X5_isSpeed x3) (fun r_6 => (if r_6 = 0 then some ((-2 : Int32), V) else (Option.bind (mf_X5_floatOf x3) (fun r_9 => (bnd (mf_X3_speed (v4_maps (v5_now V)) x1 x2) (fun r_11 => (if (Op.cmpValue (FP.fcmp r_11 r_9) CmpOp.l) = 0 then some ((-5 : Int32), V) else (Option.bind (mf_X1_record (v5_history V) (v5_now V)) (fun r_14 => (bnd (u5_history V r_14) (fun V_16 => (Option.bind (mf_X3_put (v4_maps (v5_now V_16)) x1 x2 r_9) (fun r_18 => (bnd (u5_now V_16 (u4_maps (v5_now V_16) r_18)) (fun V_20 => some ((1 : Int32), V_20)))))))))))))))))))) else some ((-2 : Int32), V)))

def mf_X5_setNumber_B44 (W0 : CarV) (z1 : Int32) (z2 : Int32) : Option (Int32 × CarV) := (bnd (mf_X4_setting (v5_now W0) z1) (fun r_7 => (if r_7 = z2 then some ((-5 : Int32), W0) else (Option.bind (mf_X1_record (v5_history W0) (v5_now W0)) (fun r_10 => (bnd (u5_history W0 r_10) (fun V_12 => (bnd (mf_X4_putSetting (v5_now V_12) z1 z2) (fun r_14 => (bnd (u5_now V_12 r_14) (fun V_16 => some (r_7, V_16))))))))))))
def mf_X5_setNumber (V : CarV) (x1 : Int32) (x2 : Int32) : Option (Int32 × CarV) := (if x1 < 0 then some ((-1 : Int32), V) else (if x1 ≤ (3 : Int32) then (bnd (mf_X4_allows (v5_now V) x1 x2) (fun r_3 => (if r_3 = 0 then some ((-2 : Int32), V) else (if (1 : Int32) < x1 then (mf_X5_setNumber_B44 V x1 x2) else (bnd (mf_X4_isChanging (v5_now V)) (fun r_18 => (if r_18 = 0 then (mf_X5_setNumber_B44 V x1 x2) else some ((-4 : Int32), V)))))))) else some ((-1 : Int32), V)))

def mf_X5_byHand (V : CarV) (x1 : Int32) : Option (Int32 × CarV) := (if (v4_handMode (v5_now V)) = x1 then some ((-5 : Int32), V) else (Option.bind (mf_X1_record (v5_history V) (v5_now V)) (fun r_2 => (bnd (u5_history V r_2) (fun V_4 => (if x1 = 0 ∨ x1 = 1 then (bnd (u5_now V_4 (u4_handMode (v5_now V_4) x1)) (fun V_9 => some ((v4_gear (v5_now V_9)), V_9))) else none))))))

def mf_X5_drive (V : CarV) (x1 : Int32) (x2 : Int32) (x3 : Int32) : Option (Int32 × CarV) := (bnd (mf_X5_isSpeed x1) (fun r_1 => (if r_1 = 0 then some ((-2 : Int32), V) else (bnd (mf_X5_isPedal x2) (fun r_4 => (if r_4 = 0 then some ((-2 : Int32), V) else (if x3 < (1 : Int32) then some ((-2 : Int32), V) else (if x3 ≤ (99 : Int32) then (bnd (mf_X4_tick (v5_now V)) (fun r_9 => (if (r_9 + x3) ≤ (99999 : Int32) then (Option.bind (mf_X1_record (v5_history V) (v5_now V)) (fun r_12 => (bnd (u5_history V r_12) (fun V_14 => (Option.bind (mf_X5_floatOf x1) (fun r_16 => (Option.bind (mf_X5_floatOf x2) (fun r_18 => (Option.bind (mf_X4_passTicks (v5_now V_14) r_16 r_18 x3) (fun r_20 => (bnd (u5_now V_14 r_20.2) (fun V_22 => some (r_20.1, V_22))))))))))))) else some ((-3 : Int32), V)))) else some ((-2 : Int32), V)))))))))

def mf_X5_readDrive_B56 : Nat → CarV → Int32 → Int32 → Option (Int32 × CarV)
  | 0, _, _, _ => none
  | fu + 1, W0, z2, z3 => (bnd (mf_X0_partCount (v5_text W0)) (fun r_15 => (if r_15 ≤ z3 then some (z2, W0) else (bnd (mf_X0_speedOf (v5_text W0) z3) (fun r_18 => (bnd (mf_X0_hundredthsOf (v5_text W0) z3) (fun r_20 => (if (FP.fdiv (FP.i2f r_20) (1120403456 : UInt32)) &&& 0x7fffffff ≤ 0x7f800000 then (bnd (FP.fdiv (FP.i2f r_20) (1120403456 : UInt32)) (fun f_23 => (bnd (mf_X0_ticksOf (v5_text W0) z3) (fun r_25 => (Option.bind (mf_X4_passTicks (v5_now W0) (FP.i2f r_18) f_23 r_25) (fun r_27 => (bnd (u5_now W0 r_27.2) (fun V_29 => (mf_X5_readDrive_B56 fu V_29 (z2 + r_27.1) (z3 + (1 : Int32))))))))))) else none))))))))
def mf_X5_readDrive (V : CarV) : Option (Int32 × CarV) := (Option.bind (mf_X0_read (v5_text V)) (fun r_1 => (bnd (u5_text V r_1.2) (fun V_3 => (if r_1.1 = (-1 : Int32) then (bnd (mf_X4_tick (v5_now V_3)) (fun r_6 => (Option.bind (mf_X0_ticksOfAllParts (v5_text V_3)) (fun r_8 => (if (r_6 + r_8) ≤ (99999 : Int32) then (Option.bind (mf_X1_record (v5_history V_3) (v5_now V_3)) (fun r_11 => (bnd (u5_history V_3 r_11) (fun V_13 => (mf_X5_readDrive_B56 70 V_13 (0 : Int32) (0 : Int32)))))) else some ((-3 : Int32), V_3)))))) else some (((-100 : Int32) - r_1.1), V_3))))))

def mf_X5_shift_B25 (W0 : CarV) (y0 : Int32) : Option (Int32 × CarV) := (bnd (mf_X4_mayShiftTo (v5_now W0) y0) (fun r_2 => (if r_2 = 0 then some ((-4 : Int32), W0) else (Option.bind (mf_X1_record (v5_history W0) (v5_now W0)) (fun r_5 => (bnd (u5_history W0 r_5) (fun V_7 => (Option.bind (mf_X4_begin (v5_now V_7) (3 : Int32) y0) (fun r_9 => (bnd (u5_now V_7 r_9) (fun V_11 => some (y0, V_11))))))))))))
def mf_X5_shift (V : CarV) (x1 : Int32) : Option (Int32 × CarV) := (if x1 = 0 then (mf_X5_shift_B25 V ((v4_gear (v5_now V)) - (1 : Int32))) else (mf_X5_shift_B25 V ((v4_gear (v5_now V)) + (1 : Int32))))

def mf_X5_type (V : CarV) (x1 : Int32) : Int32 × CarV := (bnd (mf_X0_append (v5_text V) x1) (fun r_1 => (bnd (u5_text V r_1.2) (fun V_3 => (if r_1.1 = 0 then ((-3 : Int32), V_3) else (bnd (mf_X0_length (v5_text V_3)) (fun r_6 => (r_6, V_3))))))))

def mf_X5_clearText (V : CarV) : Int32 × CarV := (bnd (mf_X0_length (v5_text V)) (fun r_1 => (bnd (mf_X0_clear (v5_text V)) (fun r_3 => (bnd (u5_text V r_3) (fun V_5 => (r_1, V_5)))))))

def mf_X5_undo (V : CarV) : Option (Int32 × CarV) := (Option.bind (mf_X1_takeLatestInto (v5_history V) (v5_now V)) (fun r_1 => (bnd (u5_history V r_1.2.1) (fun V_3 => (bnd (u5_now V_3 r_1.2.2) (fun V_5 => (if r_1.1 = 0 then some ((-5 : Int32), V_5) else (bnd (mf_X1_size (v5_history V_5)) (fun r_8 => some (r_8, V_5))))))))))

def mf_X5_wouldChoose (V : CarV) (x1 : Int32) (x2 : Int32) : Option (Int32 × CarV) := (bnd (mf_X5_isSpeed x1) (fun r_1 => (if r_1 = 0 then some ((-2 : Int32), V) else (bnd (mf_X5_isPedal x2) (fun r_4 => (if r_4 = 0 then some ((-2 : Int32), V) else (Option.bind (mf_X4_copyFrom (v5_forecast V) (v5_now V)) (fun r_7 => (bnd (u5_forecast V r_7) (fun V_9 => (Option.bind (mf_X5_floatOf x1) (fun r_11 => (Option.bind (mf_X5_floatOf x2) (fun r_13 => (Option.bind (mf_X4_passTick (v5_forecast V_9) r_11 r_13) (fun r_15 => (bnd (u5_forecast V_9 r_15.2) (fun V_17 => (if r_15.1 = 0 then some ((-5 : Int32), V_17) else some ((v4_target (v5_forecast V_17)), V_17))))))))))))))))))))

def mf_X5_settles_B97 (W0 : CarV) (z5 : Int32) : Option (Int32 × CarV) := (if z5 ≤ (200 : Int32) then some (z5, W0) else some ((-5 : Int32), W0))
def mf_X5_settles_B91 (rc : CarV → UInt32 → UInt32 → Int32 → Int32 → Option (Int32 × CarV)) (W0 : CarV) (z3 : UInt32) (z4 : UInt32) (z5 : Int32) (z6 : Int32) : Option (Int32 × CarV) := (rc W0 z3 z4 z5 (z6 + (1 : Int32)))
def mf_X5_settles_B45 : Nat → CarV → UInt32 → UInt32 → Int32 → Int32 → Option (Int32 × CarV)
  | 0, _, _, _, _, _ => none
  | fu + 1, W0, z3, z4, z5, z6 => (if (300 : Int32) < z6 then (mf_X5_settles_B97 W0 z5) else (if (z5 + (100 : Int32)) < z6 then (mf_X5_settles_B97 W0 z5) else (if z5 ≤ (200 : Int32) then (Option.bind (mf_X4_passTick (v5_forecast W0) z3 z4) (fun r_19 => (bnd (u5_forecast W0 r_19.2) (fun V_21 => (if r_19.1 = 0 then (mf_X5_settles_B91 (fun w0 w1 w2 w3 w4 => mf_X5_settles_B45 fu w0 w1 w2 w3 w4) V_21 z3 z4 z5 z6) else (mf_X5_settles_B91 (fun w0 w1 w2 w3 w4 => mf_X5_settles_B45 fu w0 w1 w2 w3 w4) V_21 z3 z4 z6 z6)))))) else (mf_X5_settles_B97 W0 z5))))
def mf_X5_settles (V : CarV) (x1 : Int32) (x2 : Int32) : Option (Int32 × CarV) := (bnd (mf_X5_isSpeed x1) (fun r_1 => (if r_1 = 0 then some ((-2 : Int32), V) else (bnd (mf_X5_isPedal x2) (fun r_4 => (if r_4 = 0 then some ((-2 : Int32), V) else (Option.bind (mf_X4_copyFrom (v5_forecast V) (v5_now V)) (fun r_7 => (bnd (u5_forecast V r_7) (fun V_9 => (Option.bind (mf_X5_floatOf x1) (fun r_11 => (Option.bind (mf_X5_floatOf x2) (fun r_13 => (mf_X5_settles_B45 400 V_9 r_11 r_13 (0 : Int32) (1 : Int32))))))))))))))))

def mf_L_low (x0 : Int32) (x1 : Int32) : Option (Int32) := (if ¬ x1 = 0 then some ((x0 &&& (2147483647 : Int32)) - (x0 &&& (2147483647 : Int32)) / x1 * x1) else none)

def mf_L_speed (x0 : Int32) : Int32 := (if x0 = (0 : Int32) then (0 : Int32) else (if x0 = (1 : Int32) then (1092616192 : Int32) else (if x0 = (2 : Int32) then (1101004800 : Int32) else (if x0 = (3 : Int32) then (1107820544 : Int32) else (if x0 = (4 : Int32) then (1112014848 : Int32) else (if x0 = (5 : Int32) then (1112276992 : Int32) else (if x0 = (6 : Int32) then (1115160576 : Int32) else (if x0 = (7 : Int32) then (1119092736 : Int32) else (if x0 = (8 : Int32) then (1120403456 : Int32) else (if x0 = (9 : Int32) then (1125515264 : Int32) else (if x0 = (10 : Int32) then (1129447424 : Int32) else (1133903872 : Int32))))))))))))

def mf_L_fast (x0 : Int32) : UInt32 := (if x0 = (0 : Int32) then FP.fconst0 else (if x0 = (1 : Int32) then (1092616192 : UInt32) else (if x0 = (2 : Int32) then (1101004800 : UInt32) else (if x0 = (3 : Int32) then (1107820544 : UInt32) else (if x0 = (4 : Int32) then (1112014848 : UInt32) else (if x0 = (5 : Int32) then (1112276992 : UInt32) else (if x0 = (6 : Int32) then (1115160576 : UInt32) else (if x0 = (7 : Int32) then (1119092736 : UInt32) else (if x0 = (8 : Int32) then (1120403456 : UInt32) else (if x0 = (9 : Int32) then (1125515264 : UInt32) else (if x0 = (10 : Int32) then (1129447424 : UInt32) else (1133903872 : UInt32))))))))))))

def mf_L_pedal (x0 : Int32) : Int32 := (if x0 = (0 : Int32) then (0 : Int32) else (if x0 = (1 : Int32) then (1048576000 : Int32) else (if x0 = (2 : Int32) then (1056964608 : Int32) else (if x0 = (3 : Int32) then (1064514355 : Int32) else (1065353216 : Int32)))))

def mf_L_deep (x0 : Int32) : UInt32 := (if x0 = (0 : Int32) then FP.fconst0 else (if x0 = (1 : Int32) then (1048576000 : UInt32) else (if x0 = (2 : Int32) then (1056964608 : UInt32) else (if x0 = (3 : Int32) then (1064514355 : UInt32) else FP.fconst1))))

def mf_L_isNone (x0 : UInt32) : Int32 := (if (Op.cmpValue (FP.fcmp x0 x0) CmpOp.l) = 0 then (0 : Int32) else (1 : Int32))

def mf_L_isClosed_B40 (z1 : Int32) (y0 : Int32) : Int32 := (if ((y0 >>> (z1 &&& 31)) &&& (1 : Int32)) = (1 : Int32) then (1 : Int32) else (0 : Int32))
def mf_L_isClosed (x0 : Int32) (x1 : Int32) : Int32 := (if x0 = (1 : Int32) then (mf_L_isClosed_B40 x1 (17 : Int32)) else (if x0 = (2 : Int32) then (mf_L_isClosed_B40 x1 (9 : Int32)) else (if x0 = (3 : Int32) then (mf_L_isClosed_B40 x1 (5 : Int32)) else (if x0 = (4 : Int32) then (mf_L_isClosed_B40 x1 (3 : Int32)) else (mf_L_isClosed_B40 x1 (6 : Int32))))))

def mf_L_wentToAndFro_B38_3 (V : CarV) (z1 : Int32) : Option (Int32) := (if z1 = 0 ∨ z1 = 1 then some z1 else none)
def mf_L_wentToAndFro_B92_2 (V : CarV) (y0 : Int32) : Option (Int32) := (mf_L_wentToAndFro_B38_3 V y0)
def mf_L_wentToAndFro_B91_2 (V : CarV) : Option (Int32) := (mf_L_wentToAndFro_B92_2 V (0 : Int32))
def mf_L_wentToAndFro_B87_2 (V : CarV) : Option (Int32) := (mf_L_wentToAndFro_B92_2 V (1 : Int32))
def mf_L_wentToAndFro_B38_2 (V : CarV) (z1 : Int32) : Option (Int32) := (if z1 = 0 then (mf_L_wentToAndFro_B91_2 V) else (bnd (mf_X5_change V (2 : Int32) (3 : Int32)) (fun r_8 => (if r_8 < 0 then (mf_L_wentToAndFro_B91_2 V) else (bnd (mf_X5_change V (2 : Int32) (3 : Int32)) (fun r_11 => (if (1 : Int32) < r_11 then (mf_L_wentToAndFro_B91_2 V) else (bnd (mf_X5_change V (2 : Int32) (3 : Int32)) (fun r_14 => (bnd (mf_X5_change V ((2 : Int32) - (1 : Int32)) (3 : Int32)) (fun r_16 => (if r_14 = r_16 then (mf_L_wentToAndFro_B91_2 V) else (mf_L_wentToAndFro_B87_2 V)))))))))))))
def mf_L_wentToAndFro_B92_1 (V : CarV) (y0 : Int32) : Option (Int32) := (mf_L_wentToAndFro_B38_2 V y0)
def mf_L_wentToAndFro_B91_1 (V : CarV) : Option (Int32) := (mf_L_wentToAndFro_B92_1 V (0 : Int32))
def mf_L_wentToAndFro_B87_1 (V : CarV) : Option (Int32) := (mf_L_wentToAndFro_B92_1 V (1 : Int32))
def mf_L_wentToAndFro_B38_1 (V : CarV) (z1 : Int32) : Option (Int32) := (if z1 = 0 then (mf_L_wentToAndFro_B91_1 V) else (bnd (mf_X5_change V (1 : Int32) (3 : Int32)) (fun r_19 => (if r_19 < 0 then (mf_L_wentToAndFro_B91_1 V) else (bnd (mf_X5_change V (1 : Int32) (3 : Int32)) (fun r_22 => (if (1 : Int32) < r_22 then (mf_L_wentToAndFro_B91_1 V) else (bnd (mf_X5_change V (1 : Int32) (3 : Int32)) (fun r_25 => (bnd (mf_X5_change V ((1 : Int32) - (1 : Int32)) (3 : Int32)) (fun r_27 => (if r_25 = r_27 then (mf_L_wentToAndFro_B91_1 V) else (mf_L_wentToAndFro_B87_1 V)))))))))))))
def mf_L_wentToAndFro_B92_0 (V : CarV) (y0 : Int32) : Option (Int32) := (mf_L_wentToAndFro_B38_1 V y0)
def mf_L_wentToAndFro_B91_0 (V : CarV) : Option (Int32) := (mf_L_wentToAndFro_B92_0 V (0 : Int32))
def mf_L_wentToAndFro_B87_0 (V : CarV) : Option (Int32) := (mf_L_wentToAndFro_B92_0 V (1 : Int32))
def mf_L_wentToAndFro_B38_0 (V : CarV) (z1 : Int32) : Option (Int32) := (if z1 = 0 then (mf_L_wentToAndFro_B91_0 V) else (bnd (mf_X5_change V (0 : Int32) (3 : Int32)) (fun r_30 => (if r_30 < 0 then (mf_L_wentToAndFro_B91_0 V) else (bnd (mf_X5_change V (0 : Int32) (3 : Int32)) (fun r_33 => (if (1 : Int32) < r_33 then (mf_L_wentToAndFro_B91_0 V) else (mf_L_wentToAndFro_B87_0 V))))))))
def mf_L_wentToAndFro_B35 (V : CarV) (y0 : Int32) : Option (Int32) := (mf_L_wentToAndFro_B38_0 V y0)
def mf_L_wentToAndFro_B34 (V : CarV) : Option (Int32) := (mf_L_wentToAndFro_B35 V (0 : Int32))
def mf_L_wentToAndFro (V : CarV) : Option (Int32) := (bnd (mf_X5_change V (2 : Int32) (0 : Int32)) (fun r_1 => (if r_1 < 0 then (mf_L_wentToAndFro_B34 V) else (bnd (mf_X5_change V (0 : Int32) (0 : Int32)) (fun r_36 => (bnd (mf_X5_change V (2 : Int32) (0 : Int32)) (fun r_38 => (bnd (mf_X5_number V (2 : Int32)) (fun r_40 => (if r_40 < (r_36 - r_38) then (mf_L_wentToAndFro_B34 V) else (mf_L_wentToAndFro_B35 V (1 : Int32))))))))))))

def mf_L_told_B640 (rc : Int32 → Int32 → Int32 → Int32 → Option (Int32)) (V : CarV) (z1 : Int32) (z2 : Int32) (z9 : Int32) (z11 : Int32) : Option (Int32) := (rc z1 z2 z9 (z11 + (1 : Int32)))
def mf_L_told_B609 (rc : Int32 → Int32 → Int32 → Int32 → Option (Int32)) (V : CarV) (z1 : Int32) (z2 : Int32) (z9 : Int32) (z11 : Int32) (z14 : Int32) (z16 : Int32) (y0 : Int32) : Option (Int32) := (if z16 = 0 then some (0 : Int32) else (if y0 = 0 then some (0 : Int32) else (bnd (mf_X5_change V z11 (4 : Int32)) (fun r_114 => (if r_114 = (1 : Int32) then (if z14 ≤ (1 : Int32) then (mf_L_told_B640 rc V z1 z2 z9 z11) else some (0 : Int32)) else (mf_L_told_B640 rc V z1 z2 z9 z11))))))
def mf_L_told_B608 (rc : Int32 → Int32 → Int32 → Int32 → Option (Int32)) (V : CarV) (z1 : Int32) (z2 : Int32) (z9 : Int32) (z11 : Int32) (z14 : Int32) (z16 : Int32) : Option (Int32) := (mf_L_told_B609 rc V z1 z2 z9 z11 z14 z16 (0 : Int32))
def mf_L_told_B560 (rc : Int32 → Int32 → Int32 → Int32 → Option (Int32)) (V : CarV) (z1 : Int32) (z2 : Int32) (z9 : Int32) (z11 : Int32) (z14 : Int32) (z16 : Int32) (y0 : Int32) (y1 : Int32) : Option (Int32) := (if y1 = y0 then (mf_L_told_B609 rc V z1 z2 z9 z11 z14 z16 (1 : Int32)) else (mf_L_told_B609 rc V z1 z2 z9 z11 z14 z16 (0 : Int32)))
def mf_L_told_B540 (rc : Int32 → Int32 → Int32 → Int32 → Option (Int32)) (V : CarV) (z1 : Int32) (z2 : Int32) (z9 : Int32) (z11 : Int32) (z13 : Int32) (z14 : Int32) (y0 : Int32) : Option (Int32) := (if z11 = 0 then (if z2 = (-5 : Int32) then (mf_L_told_B560 rc V z1 z2 z9 z11 z14 y0 z1 z13) else (mf_L_told_B560 rc V z1 z2 z9 z11 z14 y0 z2 z13)) else (bnd (mf_X5_change V (z11 - (1 : Int32)) (1 : Int32)) (fun r_109 => (if z13 = r_109 then (bnd (mf_X5_change V z11 (0 : Int32)) (fun r_118 => (bnd (mf_X5_change V (z11 - (1 : Int32)) (0 : Int32)) (fun r_120 => (if r_120 < r_118 then (mf_L_told_B608 rc V z1 z2 z9 z11 z14 y0) else (mf_L_told_B609 rc V z1 z2 z9 z11 z14 y0 (1 : Int32))))))) else (mf_L_told_B608 rc V z1 z2 z9 z11 z14 y0)))))
def mf_L_told_B501 (rc : Int32 → Int32 → Int32 → Int32 → Option (Int32)) (V : CarV) (z1 : Int32) (z2 : Int32) (z9 : Int32) (z11 : Int32) (z13 : Int32) (z14 : Int32) : Option (Int32) := (mf_L_told_B540 rc V z1 z2 z9 z11 z13 z14 (1 : Int32))
def mf_L_told_B475 (rc : Int32 → Int32 → Int32 → Int32 → Option (Int32)) (V : CarV) (z1 : Int32) (z2 : Int32) (z9 : Int32) (z11 : Int32) (z13 : Int32) (z14 : Int32) : Option (Int32) := (mf_L_told_B540 rc V z1 z2 z9 z11 z13 z14 (1 : Int32))
def mf_L_told_B415 : Nat → CarV → Int32 → Int32 → Int32 → Int32 → Option (Int32)
  | 0, _, _, _, _, _ => none
  | fu + 1, V, z1, z2, z9, z11 => (if z9 ≤ z11 then (bnd (mf_X5_change V z9 (0 : Int32)) (fun r_89 => (if r_89 = (-5 : Int32) then (bnd (mf_X5_change V (-1 : Int32) (0 : Int32)) (fun r_92 => (if r_92 = (-2 : Int32) then (bnd (mf_X5_change V (0 : Int32) (5 : Int32)) (fun r_95 => (if r_95 = (-2 : Int32) then some (1 : Int32) else some (0 : Int32)))) else some (0 : Int32)))) else some (0 : Int32)))) else (bnd (mf_X5_change V z11 (1 : Int32)) (fun r_98 => (bnd (mf_X5_change V z11 (2 : Int32)) (fun r_100 => (bnd (mf_X5_change V z11 (3 : Int32)) (fun r_102 => (if r_102 = (2 : Int32) then (if (r_100 - r_98) = (-1 : Int32) then (mf_L_told_B475 (fun w0 w1 w2 w3 => mf_L_told_B415 fu V w0 w1 w2 w3) V z1 z2 z9 z11 r_100 r_102) else (if (r_100 - r_98) = (-2 : Int32) then (mf_L_told_B475 (fun w0 w1 w2 w3 => mf_L_told_B415 fu V w0 w1 w2 w3) V z1 z2 z9 z11 r_100 r_102) else (mf_L_told_B540 (fun w0 w1 w2 w3 => mf_L_told_B415 fu V w0 w1 w2 w3) V z1 z2 z9 z11 r_100 r_102 (0 : Int32)))) else (if r_102 = (3 : Int32) then (if (r_100 - r_98) = (1 : Int32) then (mf_L_told_B501 (fun w0 w1 w2 w3 => mf_L_told_B415 fu V w0 w1 w2 w3) V z1 z2 z9 z11 r_100 r_102) else (if (r_100 - r_98) = (-1 : Int32) then (mf_L_told_B501 (fun w0 w1 w2 w3 => mf_L_told_B415 fu V w0 w1 w2 w3) V z1 z2 z9 z11 r_100 r_102) else (mf_L_told_B540 (fun w0 w1 w2 w3 => mf_L_told_B415 fu V w0 w1 w2 w3) V z1 z2 z9 z11 r_100 r_102 (0 : Int32)))) else (if r_102 = (1 : Int32) then (if (r_100 - r_98) = (-1 : Int32) then (mf_L_told_B540 (fun w0 w1 w2 w3 => mf_L_told_B415 fu V w0 w1 w2 w3) V z1 z2 z9 z11 r_100 r_102 (1 : Int32)) else (mf_L_told_B540 (fun w0 w1 w2 w3 => mf_L_told_B415 fu V w0 w1 w2 w3) V z1 z2 z9 z11 r_100 r_102 (0 : Int32))) else (if (r_100 - r_98) = (1 : Int32) then (mf_L_told_B540 (fun w0 w1 w2 w3 => mf_L_told_B415 fu V w0 w1 w2 w3) V z1 z2 z9 z11 r_100 r_102 (1 : Int32)) else (mf_L_told_B540 (fun w0 w1 w2 w3 => mf_L_told_B415 fu V w0 w1 w2 w3) V z1 z2 z9 z11 r_100 r_102 (0 : Int32)))))))))))))
def mf_L_told_B314 (V : CarV) (z1 : Int32) (z2 : Int32) (z6 : UInt32) (z7 : Int32) (y0 : Int32) : Option (Int32) := (bnd (mf_X5_count V (7 : Int32)) (fun r_60 => (bnd (mf_X5_count V (8 : Int32)) (fun r_62 => (bnd (mf_X5_count V (9 : Int32)) (fun r_64 => (bnd (mf_X5_count V (10 : Int32)) (fun r_66 => (bnd (mf_X5_count V (11 : Int32)) (fun r_68 => (if z7 = 0 then some (0 : Int32) else (Option.bind (mf_X5_force V) (fun r_71 => (if (Op.cmpValue (FP.fcmp r_71 z6) CmpOp.l) = 0 then (bnd (mf_X5_count V (0 : Int32)) (fun r_74 => (if ((((r_60 + r_62) + r_64) + r_66) + r_68) = r_74 then (bnd (mf_X5_count V (12 : Int32)) (fun r_77 => (if ((((r_60 + r_62) + r_64) + r_66) + r_68) < r_77 then some (0 : Int32) else (bnd (mf_X5_car V (7 : Int32)) (fun r_80 => (if r_80 = (-2 : Int32) then (Option.bind (mf_X5_pressed V (5 : Int32)) (fun r_83 => (bnd (mf_L_isNone r_83) (fun r_85 => (if r_85 = 0 then some (0 : Int32) else (mf_L_told_B415 20 V z1 z2 y0 (0 : Int32))))))) else some (0 : Int32))))))) else some (0 : Int32)))) else some (0 : Int32)))))))))))))))
def mf_L_told_B267 (V : CarV) (z1 : Int32) (z2 : Int32) (z6 : UInt32) (y0 : Int32) : Option (Int32) := (bnd (mf_X5_count V (1 : Int32)) (fun r_49 => (bnd (mf_X5_count V (2 : Int32)) (fun r_51 => (bnd (mf_X5_count V (3 : Int32)) (fun r_53 => (bnd (mf_X5_count V (4 : Int32)) (fun r_55 => (bnd (mf_X5_count V (5 : Int32)) (fun r_57 => (if (10 : Int32) ≤ ((((r_49 + r_51) + r_53) + r_55) + r_57) then (mf_L_told_B314 V z1 z2 z6 y0 (10 : Int32)) else (mf_L_told_B314 V z1 z2 z6 y0 ((((r_49 + r_51) + r_53) + r_55) + r_57)))))))))))))
def mf_L_told_B266 (V : CarV) (z1 : Int32) (z2 : Int32) (z6 : UInt32) : Option (Int32) := (mf_L_told_B267 V z1 z2 z6 (0 : Int32))
def mf_L_told_B243 (V : CarV) (z1 : Int32) (z2 : Int32) (z6 : UInt32) : Option (Int32) := (mf_L_told_B267 V z1 z2 z6 (0 : Int32))
def mf_L_told_B48_5 (V : CarV) (z1 : Int32) (z2 : Int32) (z3 : Int32) (z4 : Int32) (z5 : Int32) (z6 : UInt32) : Option (Int32) := (if z2 = (-5 : Int32) then (if z3 = (-5 : Int32) then (bnd (mf_X5_car V (5 : Int32)) (fun r_133 => (if r_133 = (-5 : Int32) then (bnd (mf_X5_car V (6 : Int32)) (fun r_136 => (if r_136 = (-5 : Int32) then (mf_L_told_B267 V z1 z2 z6 (1 : Int32)) else (mf_L_told_B243 V z1 z2 z6)))) else (mf_L_told_B243 V z1 z2 z6)))) else (mf_L_told_B243 V z1 z2 z6)) else (if z3 < 0 then (mf_L_told_B266 V z1 z2 z6) else (if z4 ≤ z3 then (mf_L_told_B266 V z1 z2 z6) else (if z2 = z1 then (mf_L_told_B266 V z1 z2 z6) else (mf_L_told_B267 V z1 z2 z6 (1 : Int32))))))
def mf_L_told_B186_4 (V : CarV) (z1 : Int32) (z2 : Int32) (z3 : Int32) (z4 : Int32) (z5 : Int32) (z6 : UInt32) (z8 : UInt32) : Option (Int32) := (Option.bind (mf_X5_pressed V (4 : Int32)) (fun r_44 => (if (Op.cmpValue (FP.fcmp r_44 z8) CmpOp.l) = 0 then (mf_L_told_B48_5 V z1 z2 z3 z4 z5 z6) else some (0 : Int32))))
def mf_L_told_B176_4 (V : CarV) (z1 : Int32) (z2 : Int32) (z3 : Int32) (z4 : Int32) (z5 : Int32) (z6 : UInt32) (z8 : UInt32) (y0 : Int32) : Option (Int32) := (bnd (mf_X5_car V y0) (fun r_158 => (if r_158 = (4 : Int32) then (mf_L_told_B186_4 V z1 z2 z3 z4 z5 z6 z8) else some (0 : Int32))))
def mf_L_told_B158_4 (V : CarV) (z1 : Int32) (z2 : Int32) (z3 : Int32) (z4 : Int32) (z5 : Int32) (z8 : UInt32) (y0 : UInt32) : Option (Int32) := (bnd (mf_L_isClosed z1 (4 : Int32)) (fun r_155 => (if r_155 = 0 then (mf_L_told_B176_4 V z1 z2 z3 z4 z5 y0 z8 (6 : Int32)) else (mf_L_told_B176_4 V z1 z2 z3 z4 z5 y0 z8 (5 : Int32)))))
def mf_L_told_B141_4 (V : CarV) (z1 : Int32) (z2 : Int32) (z3 : Int32) (z4 : Int32) (z5 : Int32) (z6 : UInt32) (y0 : UInt32) : Option (Int32) := (if (Op.cmpValue (FP.fcmp y0 z6) CmpOp.l) ≤ 0 then (mf_L_told_B158_4 V z1 z2 z3 z4 z5 y0 z6) else (mf_L_told_B158_4 V z1 z2 z3 z4 z5 y0 y0))
def mf_L_told_B68_4 (V : CarV) (z1 : Int32) (z2 : Int32) (z3 : Int32) (z4 : Int32) (z5 : Int32) (z6 : UInt32) (y0 : UInt32) : Option (Int32) := (if z2 = (-5 : Int32) then (mf_L_told_B186_4 V z1 z2 z3 z4 z5 z6 y0) else (bnd (mf_L_isClosed z1 (4 : Int32)) (fun r_139 => (bnd (mf_L_isClosed z2 (4 : Int32)) (fun r_141 => (if r_139 = r_141 then (mf_L_told_B186_4 V z1 z2 z3 z4 z5 z6 y0) else (if (FP.fdiv (FP.i2f z3) (FP.i2f z4)) &&& 0x7fffffff ≤ 0x7f800000 then (bnd (FP.fdiv (FP.i2f z3) (FP.i2f z4)) (fun f_145 => (if (FP.fdiv (FP.i2f (z3 - z5)) (FP.i2f (z4 - z5))) &&& 0x7fffffff ≤ 0x7f800000 then (bnd (FP.fdiv (FP.i2f (z3 - z5)) (FP.i2f (z4 - z5))) (fun f_148 => (bnd (mf_L_isClosed z1 (4 : Int32)) (fun r_150 => (if r_150 = 0 then (if z5 < z3 then (mf_L_told_B141_4 V z1 z2 z3 z4 z5 z6 f_148) else (mf_L_told_B141_4 V z1 z2 z3 z4 z5 z6 FP.fconst0)) else (if (FP.fsub FP.fconst1 f_145) &&& 0x7fffffff ≤ 0x7f800000 then (bnd (FP.fsub FP.fconst1 f_145) (fun f_162 => (mf_L_told_B141_4 V z1 z2 z3 z4 z5 z6 f_162))) else none)))))) else none))) else none)))))))
def mf_L_told_B48_4 (V : CarV) (z1 : Int32) (z2 : Int32) (z3 : Int32) (z4 : Int32) (z5 : Int32) (z6 : UInt32) : Option (Int32) := (bnd (mf_L_isClosed z1 (4 : Int32)) (fun r_40 => (if r_40 = 0 then (mf_L_told_B68_4 V z1 z2 z3 z4 z5 z6 FP.fconst0) else (mf_L_told_B68_4 V z1 z2 z3 z4 z5 z6 FP.fconst1))))
def mf_L_told_B186_3 (V : CarV) (z1 : Int32) (z2 : Int32) (z3 : Int32) (z4 : Int32) (z5 : Int32) (z6 : UInt32) (z8 : UInt32) : Option (Int32) := (Option.bind (mf_X5_pressed V (3 : Int32)) (fun r_37 => (if (Op.cmpValue (FP.fcmp r_37 z8) CmpOp.l) = 0 then (mf_L_told_B48_4 V z1 z2 z3 z4 z5 z6) else some (0 : Int32))))
def mf_L_told_B176_3 (V : CarV) (z1 : Int32) (z2 : Int32) (z3 : Int32) (z4 : Int32) (z5 : Int32) (z6 : UInt32) (z8 : UInt32) (y0 : Int32) : Option (Int32) := (bnd (mf_X5_car V y0) (fun r_183 => (if r_183 = (3 : Int32) then (mf_L_told_B186_3 V z1 z2 z3 z4 z5 z6 z8) else some (0 : Int32))))
def mf_L_told_B158_3 (V : CarV) (z1 : Int32) (z2 : Int32) (z3 : Int32) (z4 : Int32) (z5 : Int32) (z8 : UInt32) (y0 : UInt32) : Option (Int32) := (bnd (mf_L_isClosed z1 (3 : Int32)) (fun r_180 => (if r_180 = 0 then (mf_L_told_B176_3 V z1 z2 z3 z4 z5 y0 z8 (6 : Int32)) else (mf_L_told_B176_3 V z1 z2 z3 z4 z5 y0 z8 (5 : Int32)))))
def mf_L_told_B141_3 (V : CarV) (z1 : Int32) (z2 : Int32) (z3 : Int32) (z4 : Int32) (z5 : Int32) (z6 : UInt32) (y0 : UInt32) : Option (Int32) := (if (Op.cmpValue (FP.fcmp y0 z6) CmpOp.l) ≤ 0 then (mf_L_told_B158_3 V z1 z2 z3 z4 z5 y0 z6) else (mf_L_told_B158_3 V z1 z2 z3 z4 z5 y0 y0))
def mf_L_told_B68_3 (V : CarV) (z1 : Int32) (z2 : Int32) (z3 : Int32) (z4 : Int32) (z5 : Int32) (z6 : UInt32) (y0 : UInt32) : Option (Int32) := (if z2 = (-5 : Int32) then (mf_L_told_B186_3 V z1 z2 z3 z4 z5 z6 y0) else (bnd (mf_L_isClosed z1 (3 : Int32)) (fun r_164 => (bnd (mf_L_isClosed z2 (3 : Int32)) (fun r_166 => (if r_164 = r_166 then (mf_L_told_B186_3 V z1 z2 z3 z4 z5 z6 y0) else (if (FP.fdiv (FP.i2f z3) (FP.i2f z4)) &&& 0x7fffffff ≤ 0x7f800000 then (bnd (FP.fdiv (FP.i2f z3) (FP.i2f z4)) (fun f_170 => (if (FP.fdiv (FP.i2f (z3 - z5)) (FP.i2f (z4 - z5))) &&& 0x7fffffff ≤ 0x7f800000 then (bnd (FP.fdiv (FP.i2f (z3 - z5)) (FP.i2f (z4 - z5))) (fun f_173 => (bnd (mf_L_isClosed z1 (3 : Int32)) (fun r_175 => (if r_175 = 0 then (if z5 < z3 then (mf_L_told_B141_3 V z1 z2 z3 z4 z5 z6 f_173) else (mf_L_told_B141_3 V z1 z2 z3 z4 z5 z6 FP.fconst0)) else (if (FP.fsub FP.fconst1 f_170) &&& 0x7fffffff ≤ 0x7f800000 then (bnd (FP.fsub FP.fconst1 f_170) (fun f_187 => (mf_L_told_B141_3 V z1 z2 z3 z4 z5 z6 f_187))) else none)))))) else none))) else none)))))))
def mf_L_told_B48_3 (V : CarV) (z1 : Int32) (z2 : Int32) (z3 : Int32) (z4 : Int32) (z5 : Int32) (z6 : UInt32) : Option (Int32) := (bnd (mf_L_isClosed z1 (3 : Int32)) (fun r_33 => (if r_33 = 0 then (mf_L_told_B68_3 V z1 z2 z3 z4 z5 z6 FP.fconst0) else (mf_L_told_B68_3 V z1 z2 z3 z4 z5 z6 FP.fconst1))))
def mf_L_told_B186_2 (V : CarV) (z1 : Int32) (z2 : Int32) (z3 : Int32) (z4 : Int32) (z5 : Int32) (z6 : UInt32) (z8 : UInt32) : Option (Int32) := (Option.bind (mf_X5_pressed V (2 : Int32)) (fun r_30 => (if (Op.cmpValue (FP.fcmp r_30 z8) CmpOp.l) = 0 then (mf_L_told_B48_3 V z1 z2 z3 z4 z5 z6) else some (0 : Int32))))
def mf_L_told_B176_2 (V : CarV) (z1 : Int32) (z2 : Int32) (z3 : Int32) (z4 : Int32) (z5 : Int32) (z6 : UInt32) (z8 : UInt32) (y0 : Int32) : Option (Int32) := (bnd (mf_X5_car V y0) (fun r_208 => (if r_208 = (2 : Int32) then (mf_L_told_B186_2 V z1 z2 z3 z4 z5 z6 z8) else some (0 : Int32))))
def mf_L_told_B158_2 (V : CarV) (z1 : Int32) (z2 : Int32) (z3 : Int32) (z4 : Int32) (z5 : Int32) (z8 : UInt32) (y0 : UInt32) : Option (Int32) := (bnd (mf_L_isClosed z1 (2 : Int32)) (fun r_205 => (if r_205 = 0 then (mf_L_told_B176_2 V z1 z2 z3 z4 z5 y0 z8 (6 : Int32)) else (mf_L_told_B176_2 V z1 z2 z3 z4 z5 y0 z8 (5 : Int32)))))
def mf_L_told_B141_2 (V : CarV) (z1 : Int32) (z2 : Int32) (z3 : Int32) (z4 : Int32) (z5 : Int32) (z6 : UInt32) (y0 : UInt32) : Option (Int32) := (if (Op.cmpValue (FP.fcmp y0 z6) CmpOp.l) ≤ 0 then (mf_L_told_B158_2 V z1 z2 z3 z4 z5 y0 z6) else (mf_L_told_B158_2 V z1 z2 z3 z4 z5 y0 y0))
def mf_L_told_B68_2 (V : CarV) (z1 : Int32) (z2 : Int32) (z3 : Int32) (z4 : Int32) (z5 : Int32) (z6 : UInt32) (y0 : UInt32) : Option (Int32) := (if z2 = (-5 : Int32) then (mf_L_told_B186_2 V z1 z2 z3 z4 z5 z6 y0) else (bnd (mf_L_isClosed z1 (2 : Int32)) (fun r_189 => (bnd (mf_L_isClosed z2 (2 : Int32)) (fun r_191 => (if r_189 = r_191 then (mf_L_told_B186_2 V z1 z2 z3 z4 z5 z6 y0) else (if (FP.fdiv (FP.i2f z3) (FP.i2f z4)) &&& 0x7fffffff ≤ 0x7f800000 then (bnd (FP.fdiv (FP.i2f z3) (FP.i2f z4)) (fun f_195 => (if (FP.fdiv (FP.i2f (z3 - z5)) (FP.i2f (z4 - z5))) &&& 0x7fffffff ≤ 0x7f800000 then (bnd (FP.fdiv (FP.i2f (z3 - z5)) (FP.i2f (z4 - z5))) (fun f_198 => (bnd (mf_L_isClosed z1 (2 : Int32)) (fun r_200 => (if r_200 = 0 then (if z5 < z3 then (mf_L_told_B141_2 V z1 z2 z3 z4 z5 z6 f_198) else (mf_L_told_B141_2 V z1 z2 z3 z4 z5 z6 FP.fconst0)) else (if (FP.fsub FP.fconst1 f_195) &&& 0x7fffffff ≤ 0x7f800000 then (bnd (FP.fsub FP.fconst1 f_195) (fun f_212 => (mf_L_told_B141_2 V z1 z2 z3 z4 z5 z6 f_212))) else none)))))) else none))) else none)))))))
def mf_L_told_B48_2 (V : CarV) (z1 : Int32) (z2 : Int32) (z3 : Int32) (z4 : Int32) (z5 : Int32) (z6 : UInt32) : Option (Int32) := (bnd (mf_L_isClosed z1 (2 : Int32)) (fun r_26 => (if r_26 = 0 then (mf_L_told_B68_2 V z1 z2 z3 z4 z5 z6 FP.fconst0) else (mf_L_told_B68_2 V z1 z2 z3 z4 z5 z6 FP.fconst1))))
def mf_L_told_B186_1 (V : CarV) (z1 : Int32) (z2 : Int32) (z3 : Int32) (z4 : Int32) (z5 : Int32) (z6 : UInt32) (z8 : UInt32) : Option (Int32) := (Option.bind (mf_X5_pressed V (1 : Int32)) (fun r_23 => (if (Op.cmpValue (FP.fcmp r_23 z8) CmpOp.l) = 0 then (mf_L_told_B48_2 V z1 z2 z3 z4 z5 z6) else some (0 : Int32))))
def mf_L_told_B176_1 (V : CarV) (z1 : Int32) (z2 : Int32) (z3 : Int32) (z4 : Int32) (z5 : Int32) (z6 : UInt32) (z8 : UInt32) (y0 : Int32) : Option (Int32) := (bnd (mf_X5_car V y0) (fun r_233 => (if r_233 = (1 : Int32) then (mf_L_told_B186_1 V z1 z2 z3 z4 z5 z6 z8) else some (0 : Int32))))
def mf_L_told_B158_1 (V : CarV) (z1 : Int32) (z2 : Int32) (z3 : Int32) (z4 : Int32) (z5 : Int32) (z8 : UInt32) (y0 : UInt32) : Option (Int32) := (bnd (mf_L_isClosed z1 (1 : Int32)) (fun r_230 => (if r_230 = 0 then (mf_L_told_B176_1 V z1 z2 z3 z4 z5 y0 z8 (6 : Int32)) else (mf_L_told_B176_1 V z1 z2 z3 z4 z5 y0 z8 (5 : Int32)))))
def mf_L_told_B141_1 (V : CarV) (z1 : Int32) (z2 : Int32) (z3 : Int32) (z4 : Int32) (z5 : Int32) (z6 : UInt32) (y0 : UInt32) : Option (Int32) := (if (Op.cmpValue (FP.fcmp y0 z6) CmpOp.l) ≤ 0 then (mf_L_told_B158_1 V z1 z2 z3 z4 z5 y0 z6) else (mf_L_told_B158_1 V z1 z2 z3 z4 z5 y0 y0))
def mf_L_told_B68_1 (V : CarV) (z1 : Int32) (z2 : Int32) (z3 : Int32) (z4 : Int32) (z5 : Int32) (z6 : UInt32) (y0 : UInt32) : Option (Int32) := (if z2 = (-5 : Int32) then (mf_L_told_B186_1 V z1 z2 z3 z4 z5 z6 y0) else (bnd (mf_L_isClosed z1 (1 : Int32)) (fun r_214 => (bnd (mf_L_isClosed z2 (1 : Int32)) (fun r_216 => (if r_214 = r_216 then (mf_L_told_B186_1 V z1 z2 z3 z4 z5 z6 y0) else (if (FP.fdiv (FP.i2f z3) (FP.i2f z4)) &&& 0x7fffffff ≤ 0x7f800000 then (bnd (FP.fdiv (FP.i2f z3) (FP.i2f z4)) (fun f_220 => (if (FP.fdiv (FP.i2f (z3 - z5)) (FP.i2f (z4 - z5))) &&& 0x7fffffff ≤ 0x7f800000 then (bnd (FP.fdiv (FP.i2f (z3 - z5)) (FP.i2f (z4 - z5))) (fun f_223 => (bnd (mf_L_isClosed z1 (1 : Int32)) (fun r_225 => (if r_225 = 0 then (if z5 < z3 then (mf_L_told_B141_1 V z1 z2 z3 z4 z5 z6 f_223) else (mf_L_told_B141_1 V z1 z2 z3 z4 z5 z6 FP.fconst0)) else (if (FP.fsub FP.fconst1 f_220) &&& 0x7fffffff ≤ 0x7f800000 then (bnd (FP.fsub FP.fconst1 f_220) (fun f_237 => (mf_L_told_B141_1 V z1 z2 z3 z4 z5 z6 f_237))) else none)))))) else none))) else none)))))))
def mf_L_told_B48_1 (V : CarV) (z1 : Int32) (z2 : Int32) (z3 : Int32) (z4 : Int32) (z5 : Int32) (z6 : UInt32) : Option (Int32) := (bnd (mf_L_isClosed z1 (1 : Int32)) (fun r_19 => (if r_19 = 0 then (mf_L_told_B68_1 V z1 z2 z3 z4 z5 z6 FP.fconst0) else (mf_L_told_B68_1 V z1 z2 z3 z4 z5 z6 FP.fconst1))))
def mf_L_told_B186_0 (V : CarV) (z1 : Int32) (z2 : Int32) (z3 : Int32) (z4 : Int32) (z5 : Int32) (z6 : UInt32) (z8 : UInt32) : Option (Int32) := (Option.bind (mf_X5_pressed V (0 : Int32)) (fun r_16 => (if (Op.cmpValue (FP.fcmp r_16 z8) CmpOp.l) = 0 then (mf_L_told_B48_1 V z1 z2 z3 z4 z5 z6) else some (0 : Int32))))
def mf_L_told_B176_0 (V : CarV) (z1 : Int32) (z2 : Int32) (z3 : Int32) (z4 : Int32) (z5 : Int32) (z6 : UInt32) (z8 : UInt32) (y0 : Int32) : Option (Int32) := (bnd (mf_X5_car V y0) (fun r_258 => (if r_258 = (0 : Int32) then (mf_L_told_B186_0 V z1 z2 z3 z4 z5 z6 z8) else some (0 : Int32))))
def mf_L_told_B158_0 (V : CarV) (z1 : Int32) (z2 : Int32) (z3 : Int32) (z4 : Int32) (z5 : Int32) (z8 : UInt32) (y0 : UInt32) : Option (Int32) := (bnd (mf_L_isClosed z1 (0 : Int32)) (fun r_255 => (if r_255 = 0 then (mf_L_told_B176_0 V z1 z2 z3 z4 z5 y0 z8 (6 : Int32)) else (mf_L_told_B176_0 V z1 z2 z3 z4 z5 y0 z8 (5 : Int32)))))
def mf_L_told_B141_0 (V : CarV) (z1 : Int32) (z2 : Int32) (z3 : Int32) (z4 : Int32) (z5 : Int32) (z6 : UInt32) (y0 : UInt32) : Option (Int32) := (if (Op.cmpValue (FP.fcmp y0 z6) CmpOp.l) ≤ 0 then (mf_L_told_B158_0 V z1 z2 z3 z4 z5 y0 z6) else (mf_L_told_B158_0 V z1 z2 z3 z4 z5 y0 y0))
def mf_L_told_B68_0 (V : CarV) (z1 : Int32) (z2 : Int32) (z3 : Int32) (z4 : Int32) (z5 : Int32) (z6 : UInt32) (y0 : UInt32) : Option (Int32) := (if z2 = (-5 : Int32) then (mf_L_told_B186_0 V z1 z2 z3 z4 z5 z6 y0) else (bnd (mf_L_isClosed z1 (0 : Int32)) (fun r_239 => (bnd (mf_L_isClosed z2 (0 : Int32)) (fun r_241 => (if r_239 = r_241 then (mf_L_told_B186_0 V z1 z2 z3 z4 z5 z6 y0) else (if (FP.fdiv (FP.i2f z3) (FP.i2f z4)) &&& 0x7fffffff ≤ 0x7f800000 then (bnd (FP.fdiv (FP.i2f z3) (FP.i2f z4)) (fun f_245 => (if (FP.fdiv (FP.i2f (z3 - z5)) (FP.i2f (z4 - z5))) &&& 0x7fffffff ≤ 0x7f800000 then (bnd (FP.fdiv (FP.i2f (z3 - z5)) (FP.i2f (z4 - z5))) (fun f_248 => (bnd (mf_L_isClosed z1 (0 : Int32)) (fun r_250 => (if r_250 = 0 then (if z5 < z3 then (mf_L_told_B141_0 V z1 z2 z3 z4 z5 z6 f_248) else (mf_L_told_B141_0 V z1 z2 z3 z4 z5 z6 FP.fconst0)) else (if (FP.fsub FP.fconst1 f_245) &&& 0x7fffffff ≤ 0x7f800000 then (bnd (FP.fsub FP.fconst1 f_245) (fun f_262 => (mf_L_told_B141_0 V z1 z2 z3 z4 z5 z6 f_262))) else none)))))) else none))) else none)))))))
def mf_L_told_B48_0 (V : CarV) (z1 : Int32) (z2 : Int32) (z3 : Int32) (z4 : Int32) (z5 : Int32) (z6 : UInt32) : Option (Int32) := (bnd (mf_L_isClosed z1 (0 : Int32)) (fun r_12 => (if r_12 = 0 then (mf_L_told_B68_0 V z1 z2 z3 z4 z5 z6 FP.fconst0) else (mf_L_told_B68_0 V z1 z2 z3 z4 z5 z6 FP.fconst1))))
def mf_L_told_B43 (V : CarV) (z1 : Int32) (z2 : Int32) (z3 : Int32) (z4 : Int32) (z5 : Int32) (y0 : UInt32) : Option (Int32) := (mf_L_told_B48_0 V z1 z2 z3 z4 z5 y0)
def mf_L_told (V : CarV) : Option (Int32) := (bnd (mf_X5_car V (0 : Int32)) (fun r_1 => (bnd (mf_X5_car V (1 : Int32)) (fun r_3 => (bnd (mf_X5_car V (2 : Int32)) (fun r_5 => (bnd (mf_X5_number V (0 : Int32)) (fun r_7 => (bnd (mf_X5_number V (1 : Int32)) (fun r_9 => (if r_3 = (-5 : Int32) then (mf_L_told_B43 V r_1 r_3 r_5 r_7 r_9 FP.fconst1) else (mf_L_told_B43 V r_1 r_3 r_5 r_7 r_9 FP.fconst0))))))))))))

def mf_L_tick_B817 (W0 : CarV) : Option (Int32 × CarV) := some ((1 : Int32), W0)
def mf_L_tick_B810 (W0 : CarV) : Option (Int32 × CarV) := (Option.bind (mf_L_wentToAndFro W0) (fun r_75 => (if r_75 = 0 then (mf_L_tick_B817 W0) else some ((0 : Int32), W0))))
def mf_L_tick_B755 (W0 : CarV) (z10 : Int32) (z15 : Int32) (z19 : Int32) (z22 : Int32) (z23 : Int32) (z26 : Int32) (z27 : Int32) (z29 : Int32) (y0 : Int32) : Option (Int32 × CarV) := (if z10 = z26 then (if z27 = 0 then some ((0 : Int32), W0) else (if z29 = 0 then some ((0 : Int32), W0) else (if y0 = 0 then some ((0 : Int32), W0) else (bnd (mf_X5_car W0 (0 : Int32)) (fun r_68 => (if r_68 = z19 then (bnd (mf_X5_count W0 (6 : Int32)) (fun r_71 => (if z15 < r_71 then (mf_L_tick_B817 W0) else (if z22 = 0 then (if z23 = 0 then (mf_L_tick_B817 W0) else (mf_L_tick_B810 W0)) else (mf_L_tick_B810 W0))))) else some ((0 : Int32), W0))))))) else some ((0 : Int32), W0))
def mf_L_tick_B754 (W0 : CarV) (z10 : Int32) (z15 : Int32) (z19 : Int32) (z22 : Int32) (z23 : Int32) (z26 : Int32) (z27 : Int32) (z29 : Int32) : Option (Int32 × CarV) := (mf_L_tick_B755 W0 z10 z15 z19 z22 z23 z26 z27 z29 (0 : Int32))
def mf_L_tick_B711 (W0 : CarV) (z10 : Int32) (z15 : Int32) (z19 : Int32) (z22 : Int32) (z23 : Int32) (z26 : Int32) (z27 : Int32) (z29 : Int32) : Option (Int32 × CarV) := (mf_L_tick_B755 W0 z10 z15 z19 z22 z23 z26 z27 z29 (0 : Int32))
def mf_L_tick_B704 (W0 : CarV) (z10 : Int32) (z15 : Int32) (z19 : Int32) (z22 : Int32) (z23 : Int32) (z26 : Int32) (z27 : Int32) (z29 : Int32) (y0 : Int32) (y1 : Int32) : Option (Int32 × CarV) := (if y1 = y0 then (mf_L_tick_B755 W0 z10 z15 z19 z22 z23 z26 z27 z29 (1 : Int32)) else (mf_L_tick_B711 W0 z10 z15 z19 z22 z23 z26 z27 z29))
def mf_L_tick_B673 (W0 : CarV) (z6 : Int32) (z10 : Int32) (z15 : Int32) (z16 : Int32) (z18 : Int32) (z19 : Int32) (z22 : Int32) (z23 : Int32) (z24 : Int32) (z26 : Int32) (z27 : Int32) (y0 : Int32) : Option (Int32 × CarV) := (if z26 = (-5 : Int32) then (if z24 = 0 then (bnd (mf_X5_car W0 (1 : Int32)) (fun r_89 => (if z18 = 0 then (mf_L_tick_B704 W0 z10 z15 z19 z22 z23 z26 z27 y0 z6 r_89) else (mf_L_tick_B704 W0 z10 z15 z19 z22 z23 z26 z27 y0 (-5 : Int32) r_89)))) else (mf_L_tick_B711 W0 z10 z15 z19 z22 z23 z26 z27 y0)) else (if z24 = (1 : Int32) then (bnd (mf_X5_car W0 (1 : Int32)) (fun r_79 => (if r_79 = z26 then (bnd (mf_X5_car W0 (2 : Int32)) (fun r_82 => (if r_82 = 0 then (bnd (mf_X5_change W0 (0 : Int32) (0 : Int32)) (fun r_85 => (if r_85 = z16 then (mf_L_tick_B755 W0 z10 z15 z19 z22 z23 z26 z27 y0 (1 : Int32)) else (mf_L_tick_B754 W0 z10 z15 z19 z22 z23 z26 z27 y0)))) else (mf_L_tick_B754 W0 z10 z15 z19 z22 z23 z26 z27 y0)))) else (mf_L_tick_B754 W0 z10 z15 z19 z22 z23 z26 z27 y0)))) else (mf_L_tick_B754 W0 z10 z15 z19 z22 z23 z26 z27 y0)))
def mf_L_tick_B672 (W0 : CarV) (z6 : Int32) (z10 : Int32) (z15 : Int32) (z16 : Int32) (z18 : Int32) (z19 : Int32) (z22 : Int32) (z23 : Int32) (z24 : Int32) (z26 : Int32) (z27 : Int32) : Option (Int32 × CarV) := (mf_L_tick_B673 W0 z6 z10 z15 z16 z18 z19 z22 z23 z24 z26 z27 (0 : Int32))
def mf_L_tick_B651 (W0 : CarV) (z6 : Int32) (z10 : Int32) (z15 : Int32) (z16 : Int32) (z18 : Int32) (z19 : Int32) (z22 : Int32) (z23 : Int32) (z24 : Int32) (z26 : Int32) (z27 : Int32) : Option (Int32 × CarV) := (bnd (mf_X5_change W0 (0 : Int32) (4 : Int32)) (fun r_99 => (if r_99 = (1 : Int32) then (Option.bind (mf_L_wentToAndFro W0) (fun r_102 => (if r_102 = 0 then (mf_L_tick_B672 W0 z6 z10 z15 z16 z18 z19 z22 z23 z24 z26 z27) else (mf_L_tick_B673 W0 z6 z10 z15 z16 z18 z19 z22 z23 z24 z26 z27 (1 : Int32))))) else (mf_L_tick_B672 W0 z6 z10 z15 z16 z18 z19 z22 z23 z24 z26 z27))))
def mf_L_tick_B584 (W0 : CarV) (z6 : Int32) (z10 : Int32) (z15 : Int32) (z16 : Int32) (z18 : Int32) (z19 : Int32) (z22 : Int32) (z23 : Int32) (z24 : Int32) (z26 : Int32) (z27 : Int32) (y0 : Int32) : Option (Int32 × CarV) := (bnd (mf_X5_count W0 (6 : Int32)) (fun r_56 => (if r_56 = z15 then (bnd (mf_X5_car W0 (3 : Int32)) (fun r_106 => (if r_106 = y0 then (mf_L_tick_B673 W0 z6 z10 z15 z16 z18 z19 z22 z23 z24 z26 z27 (1 : Int32)) else (mf_L_tick_B673 W0 z6 z10 z15 z16 z18 z19 z22 z23 z24 z26 z27 (0 : Int32))))) else (bnd (mf_X5_count W0 (6 : Int32)) (fun r_59 => (if r_59 = (z15 + (1 : Int32)) then (bnd (mf_X5_car W0 (3 : Int32)) (fun r_93 => (bnd (mf_X5_number W0 (3 : Int32)) (fun r_95 => (if r_93 = r_95 then (if z22 = 0 then (if z23 = 0 then (mf_L_tick_B672 W0 z6 z10 z15 z16 z18 z19 z22 z23 z24 z26 z27) else (mf_L_tick_B651 W0 z6 z10 z15 z16 z18 z19 z22 z23 z24 z26 z27)) else (mf_L_tick_B651 W0 z6 z10 z15 z16 z18 z19 z22 z23 z24 z26 z27)) else (mf_L_tick_B672 W0 z6 z10 z15 z16 z18 z19 z22 z23 z24 z26 z27)))))) else (mf_L_tick_B672 W0 z6 z10 z15 z16 z18 z19 z22 z23 z24 z26 z27)))))))
def mf_L_tick_B569 (W0 : CarV) (z6 : Int32) (z8 : Int32) (z10 : Int32) (z15 : Int32) (z16 : Int32) (z18 : Int32) (z19 : Int32) (z22 : Int32) (z23 : Int32) (z24 : Int32) (z26 : Int32) (y0 : Int32) : Option (Int32 × CarV) := (if z8 ≤ 0 then (mf_L_tick_B584 W0 z6 z10 z15 z16 z18 z19 z22 z23 z24 z26 y0 (0 : Int32)) else (mf_L_tick_B584 W0 z6 z10 z15 z16 z18 z19 z22 z23 z24 z26 y0 (z8 - (1 : Int32))))
def mf_L_tick_B568 (W0 : CarV) (z6 : Int32) (z8 : Int32) (z10 : Int32) (z15 : Int32) (z16 : Int32) (z18 : Int32) (z19 : Int32) (z22 : Int32) (z23 : Int32) (z24 : Int32) (z26 : Int32) : Option (Int32 × CarV) := (mf_L_tick_B569 W0 z6 z8 z10 z15 z16 z18 z19 z22 z23 z24 z26 (0 : Int32))
def mf_L_tick_B560 (W0 : CarV) (z6 : Int32) (z8 : Int32) (z10 : Int32) (z15 : Int32) (z16 : Int32) (z18 : Int32) (z19 : Int32) (z22 : Int32) (z23 : Int32) (z24 : Int32) (z26 : Int32) (y0 : Int32) (y1 : Int32) (y2 : Int32) : Option (Int32 × CarV) := (if y2 = (y1 + y0) then (mf_L_tick_B569 W0 z6 z8 z10 z15 z16 z18 z19 z22 z23 z24 z26 (1 : Int32)) else (mf_L_tick_B568 W0 z6 z8 z10 z15 z16 z18 z19 z22 z23 z24 z26))
def mf_L_tick_B539 (W0 : CarV) (z6 : Int32) (z8 : Int32) (z10 : Int32) (z12 : Int32) (z15 : Int32) (z16 : Int32) (z18 : Int32) (z19 : Int32) (z22 : Int32) (z23 : Int32) (z24 : Int32) (z26 : Int32) (y0 : Int32) (y1 : Int32) (y2 : Int32) : Option (Int32 × CarV) := (if y2 = (y1 + y0) then (bnd (mf_X5_count W0 (2 : Int32)) (fun r_113 => (if z23 = 0 then (mf_L_tick_B560 W0 z6 z8 z10 z15 z16 z18 z19 z22 z23 z24 z26 (0 : Int32) z12 r_113) else (mf_L_tick_B560 W0 z6 z8 z10 z15 z16 z18 z19 z22 z23 z24 z26 (1 : Int32) z12 r_113)))) else (mf_L_tick_B568 W0 z6 z8 z10 z15 z16 z18 z19 z22 z23 z24 z26))
def mf_L_tick_B518 (W0 : CarV) (z6 : Int32) (z8 : Int32) (z10 : Int32) (z11 : Int32) (z12 : Int32) (z15 : Int32) (z16 : Int32) (z18 : Int32) (z19 : Int32) (z22 : Int32) (z23 : Int32) (z24 : Int32) (z26 : Int32) (y0 : Int32) (y1 : Int32) (y2 : Int32) : Option (Int32 × CarV) := (if y2 = (y1 + y0) then (bnd (mf_X5_count W0 (1 : Int32)) (fun r_109 => (if z22 = 0 then (mf_L_tick_B539 W0 z6 z8 z10 z12 z15 z16 z18 z19 z22 z23 z24 z26 (0 : Int32) z11 r_109) else (mf_L_tick_B539 W0 z6 z8 z10 z12 z15 z16 z18 z19 z22 z23 z24 z26 (1 : Int32) z11 r_109)))) else (mf_L_tick_B568 W0 z6 z8 z10 z15 z16 z18 z19 z22 z23 z24 z26))
def mf_L_tick_B499 (W0 : CarV) (z6 : Int32) (z8 : Int32) (z10 : Int32) (z11 : Int32) (z12 : Int32) (z14 : Int32) (z15 : Int32) (z16 : Int32) (z18 : Int32) (z19 : Int32) (z20 : Int32) (z22 : Int32) (z23 : Int32) (z24 : Int32) (y0 : Int32) : Option (Int32 × CarV) := (bnd (mf_X5_count W0 (5 : Int32)) (fun r_51 => (if z20 = 0 then (mf_L_tick_B518 W0 z6 z8 z10 z11 z12 z15 z16 z18 z19 z22 z23 z24 y0 (0 : Int32) z14 r_51) else (mf_L_tick_B518 W0 z6 z8 z10 z11 z12 z15 z16 z18 z19 z22 z23 z24 y0 (1 : Int32) z14 r_51))))
def mf_L_tick_B478 (W0 : CarV) (z6 : Int32) (z8 : Int32) (z10 : Int32) (z11 : Int32) (z12 : Int32) (z14 : Int32) (z15 : Int32) (z16 : Int32) (z18 : Int32) (z19 : Int32) (z20 : Int32) (z22 : Int32) (z23 : Int32) (z24 : Int32) : Option (Int32 × CarV) := (mf_L_tick_B499 W0 z6 z8 z10 z11 z12 z14 z15 z16 z18 z19 z20 z22 z23 z24 (z19 + (1 : Int32)))
def mf_L_tick_B402 (W0 : CarV) (z4 : UInt32) (z10 : Int32) (z16 : Int32) (z18 : Int32) (z19 : Int32) (z20 : Int32) (z24 : Int32) (z26 : Int32) (y0 : Int32) : Option (Int32 × CarV) := (if z20 = 0 then (if z18 = 0 then some ((0 : Int32), W0) else (if (Op.cmpValue (FP.fcmp z4 (1064514355 : UInt32)) CmpOp.l) < 0 then some ((0 : Int32), W0) else (if y0 = 0 then some ((0 : Int32), W0) else (if z10 = z26 then (if z24 = (1 : Int32) then (bnd (mf_X5_car W0 (0 : Int32)) (fun r_128 => (if r_128 = z19 then (bnd (mf_X5_count W0 (0 : Int32)) (fun r_131 => (if r_131 = (z16 + (1 : Int32)) then some ((1 : Int32), W0) else some ((0 : Int32), W0)))) else some ((0 : Int32), W0)))) else some ((0 : Int32), W0)) else some ((0 : Int32), W0))))) else some ((0 : Int32), W0))
def mf_L_tick_B401 (W0 : CarV) (z4 : UInt32) (z10 : Int32) (z16 : Int32) (z18 : Int32) (z19 : Int32) (z20 : Int32) (z24 : Int32) (z26 : Int32) : Option (Int32 × CarV) := (mf_L_tick_B402 W0 z4 z10 z16 z18 z19 z20 z24 z26 (0 : Int32))
def mf_L_tick_B397 (W0 : CarV) (z4 : UInt32) (z10 : Int32) (z16 : Int32) (z18 : Int32) (z19 : Int32) (z20 : Int32) (z24 : Int32) (z26 : Int32) : Option (Int32 × CarV) := (mf_L_tick_B402 W0 z4 z10 z16 z18 z19 z20 z24 z26 (1 : Int32))
def mf_L_tick_B326 (W0 : CarV) (z3 : UInt32) (z4 : UInt32) (z6 : Int32) (z8 : Int32) (z10 : Int32) (z11 : Int32) (z12 : Int32) (z14 : Int32) (z15 : Int32) (z16 : Int32) (z18 : Int32) (z19 : Int32) (z20 : Int32) (z22 : Int32) (z23 : Int32) (z24 : Int32) (y0 : Int32) : Option (Int32 × CarV) := (if y0 = 0 then (if z20 = 0 then (if z22 = 0 then (if z23 = 0 then (mf_L_tick_B499 W0 z6 z8 z10 z11 z12 z14 z15 z16 z18 z19 z20 z22 z23 z24 (-5 : Int32)) else (mf_L_tick_B499 W0 z6 z8 z10 z11 z12 z14 z15 z16 z18 z19 z20 z22 z23 z24 (z19 - (1 : Int32)))) else (mf_L_tick_B478 W0 z6 z8 z10 z11 z12 z14 z15 z16 z18 z19 z20 z22 z23 z24)) else (mf_L_tick_B478 W0 z6 z8 z10 z11 z12 z14 z15 z16 z18 z19 z20 z22 z23 z24)) else (bnd (mf_X5_car W0 (1 : Int32)) (fun r_119 => (if r_119 < (z19 - (2 : Int32)) then (mf_L_tick_B401 W0 z4 z10 z16 z18 z19 z20 z24 r_119) else (if z19 ≤ r_119 then (mf_L_tick_B401 W0 z4 z10 z16 z18 z19 z20 z24 r_119) else (bnd (mf_X5_map W0 r_119 (3 : Int32)) (fun r_135 => (if (Op.cmpValue (FP.fcmp r_135 z3) CmpOp.l) < 0 then (mf_L_tick_B401 W0 z4 z10 z16 z18 z19 z20 z24 r_119) else (if r_119 = (1 : Int32) then (mf_L_tick_B397 W0 z4 z10 z16 z18 z19 z20 z24 r_119) else (if r_119 = (z19 - (2 : Int32)) then (mf_L_tick_B397 W0 z4 z10 z16 z18 z19 z20 z24 r_119) else (bnd (mf_X5_map W0 (r_119 - (1 : Int32)) (3 : Int32)) (fun r_140 => (if 0 ≤ (Op.cmpValue (FP.fcmp r_140 z3) CmpOp.g) then (mf_L_tick_B401 W0 z4 z10 z16 z18 z19 z20 z24 r_119) else (mf_L_tick_B397 W0 z4 z10 z16 z18 z19 z20 z24 r_119))))))))))))))
def mf_L_tick_B292 (W0 : CarV) (z1 : Int32) (z2 : Int32) (z3 : UInt32) (z4 : UInt32) (z6 : Int32) (z8 : Int32) (z10 : Int32) (z11 : Int32) (z12 : Int32) (z13 : Int32) (z14 : Int32) (z15 : Int32) (z16 : Int32) (z18 : Int32) (z19 : Int32) (z20 : Int32) (z22 : Int32) (y0 : Int32) : Option (Int32 × CarV) := (bnd (mf_L_speed z1) (fun r_40 => (bnd (mf_L_pedal z2) (fun r_42 => (Option.bind (mf_X5_drive W0 r_40 r_42 (1 : Int32)) (fun r_44 => (bnd (mf_X5_count r_44.2 (3 : Int32)) (fun r_46 => (if r_46 = (z13 + (1 : Int32)) then (mf_L_tick_B326 r_44.2 z3 z4 z6 z8 z10 z11 z12 z14 z15 z16 z18 z19 z20 z22 y0 r_44.1 (1 : Int32)) else (mf_L_tick_B326 r_44.2 z3 z4 z6 z8 z10 z11 z12 z14 z15 z16 z18 z19 z20 z22 y0 r_44.1 (0 : Int32)))))))))))
def mf_L_tick_B291 (W0 : CarV) (z1 : Int32) (z2 : Int32) (z3 : UInt32) (z4 : UInt32) (z6 : Int32) (z8 : Int32) (z10 : Int32) (z11 : Int32) (z12 : Int32) (z13 : Int32) (z14 : Int32) (z15 : Int32) (z16 : Int32) (z18 : Int32) (z19 : Int32) (z20 : Int32) (z22 : Int32) : Option (Int32 × CarV) := (mf_L_tick_B292 W0 z1 z2 z3 z4 z6 z8 z10 z11 z12 z13 z14 z15 z16 z18 z19 z20 z22 (0 : Int32))
def mf_L_tick_B251 (W0 : CarV) (z1 : Int32) (z2 : Int32) (z3 : UInt32) (z4 : UInt32) (z6 : Int32) (z8 : Int32) (z10 : Int32) (z11 : Int32) (z12 : Int32) (z13 : Int32) (z14 : Int32) (z15 : Int32) (z16 : Int32) (z18 : Int32) (z19 : Int32) (z20 : Int32) (z21 : Int32) (y0 : Int32) : Option (Int32 × CarV) := (if z21 = 0 then (mf_L_tick_B291 W0 z1 z2 z3 z4 z6 z8 z10 z11 z12 z13 z14 z15 z16 z18 z19 z20 y0) else (if y0 = 0 then (if z19 ≤ (1 : Int32) then (mf_L_tick_B291 W0 z1 z2 z3 z4 z6 z8 z10 z11 z12 z13 z14 z15 z16 z18 z19 z20 y0) else (bnd (mf_L_pedal z2) (fun r_145 => (Option.bind (mf_X5_border W0 (z19 - (1 : Int32)) r_145 (0 : Int32)) (fun r_147 => (if 0 ≤ (Op.cmpValue (FP.fcmp z3 r_147) CmpOp.g) then (mf_L_tick_B291 W0 z1 z2 z3 z4 z6 z8 z10 z11 z12 z13 z14 z15 z16 z18 z19 z20 y0) else (mf_L_tick_B292 W0 z1 z2 z3 z4 z6 z8 z10 z11 z12 z13 z14 z15 z16 z18 z19 z20 y0 (1 : Int32)))))))) else (mf_L_tick_B291 W0 z1 z2 z3 z4 z6 z8 z10 z11 z12 z13 z14 z15 z16 z18 z19 z20 y0)))
def mf_L_tick_B250 (W0 : CarV) (z1 : Int32) (z2 : Int32) (z3 : UInt32) (z4 : UInt32) (z6 : Int32) (z8 : Int32) (z10 : Int32) (z11 : Int32) (z12 : Int32) (z13 : Int32) (z14 : Int32) (z15 : Int32) (z16 : Int32) (z18 : Int32) (z19 : Int32) (z20 : Int32) (z21 : Int32) : Option (Int32 × CarV) := (mf_L_tick_B251 W0 z1 z2 z3 z4 z6 z8 z10 z11 z12 z13 z14 z15 z16 z18 z19 z20 z21 (0 : Int32))
def mf_L_tick_B217 (W0 : CarV) (z1 : Int32) (z2 : Int32) (z3 : UInt32) (z4 : UInt32) (z6 : Int32) (z8 : Int32) (z10 : Int32) (z11 : Int32) (z12 : Int32) (z13 : Int32) (z14 : Int32) (z15 : Int32) (z16 : Int32) (z18 : Int32) (z19 : Int32) (z20 : Int32) (y0 : Int32) : Option (Int32 × CarV) := (if y0 = 0 then (mf_L_tick_B250 W0 z1 z2 z3 z4 z6 z8 z10 z11 z12 z13 z14 z15 z16 z18 z19 z20 y0) else (if (5 : Int32) ≤ z19 then (mf_L_tick_B250 W0 z1 z2 z3 z4 z6 z8 z10 z11 z12 z13 z14 z15 z16 z18 z19 z20 y0) else (bnd (mf_L_pedal z2) (fun r_151 => (Option.bind (mf_X5_border W0 z19 r_151 (1 : Int32)) (fun r_153 => (if (Op.cmpValue (FP.fcmp z3 r_153) CmpOp.l) ≤ 0 then (mf_L_tick_B250 W0 z1 z2 z3 z4 z6 z8 z10 z11 z12 z13 z14 z15 z16 z18 z19 z20 y0) else (mf_L_tick_B251 W0 z1 z2 z3 z4 z6 z8 z10 z11 z12 z13 z14 z15 z16 z18 z19 z20 y0 (1 : Int32)))))))))
def mf_L_tick_B216 (W0 : CarV) (z1 : Int32) (z2 : Int32) (z3 : UInt32) (z4 : UInt32) (z6 : Int32) (z8 : Int32) (z10 : Int32) (z11 : Int32) (z12 : Int32) (z13 : Int32) (z14 : Int32) (z15 : Int32) (z16 : Int32) (z18 : Int32) (z19 : Int32) (z20 : Int32) : Option (Int32 × CarV) := (mf_L_tick_B217 W0 z1 z2 z3 z4 z6 z8 z10 z11 z12 z13 z14 z15 z16 z18 z19 z20 (0 : Int32))
def mf_L_tick_B190 (W0 : CarV) (z1 : Int32) (z2 : Int32) (z3 : UInt32) (z4 : UInt32) (z6 : Int32) (z8 : Int32) (z9 : Int32) (z10 : Int32) (z11 : Int32) (z12 : Int32) (z13 : Int32) (z14 : Int32) (z15 : Int32) (z16 : Int32) (z18 : Int32) (z19 : Int32) (y0 : Int32) : Option (Int32 × CarV) := (if z18 = 0 then (mf_L_tick_B216 W0 z1 z2 z3 z4 z6 z8 z10 z11 z12 z13 z14 z15 z16 z18 z19 y0) else (if y0 = 0 then (if z9 = 0 then (if z8 = 0 then (mf_L_tick_B217 W0 z1 z2 z3 z4 z6 z8 z10 z11 z12 z13 z14 z15 z16 z18 z19 y0 (1 : Int32)) else (mf_L_tick_B216 W0 z1 z2 z3 z4 z6 z8 z10 z11 z12 z13 z14 z15 z16 z18 z19 y0)) else (mf_L_tick_B216 W0 z1 z2 z3 z4 z6 z8 z10 z11 z12 z13 z14 z15 z16 z18 z19 y0)) else (mf_L_tick_B216 W0 z1 z2 z3 z4 z6 z8 z10 z11 z12 z13 z14 z15 z16 z18 z19 y0)))
def mf_L_tick_B189 (W0 : CarV) (z1 : Int32) (z2 : Int32) (z3 : UInt32) (z4 : UInt32) (z6 : Int32) (z8 : Int32) (z9 : Int32) (z10 : Int32) (z11 : Int32) (z12 : Int32) (z13 : Int32) (z14 : Int32) (z15 : Int32) (z16 : Int32) (z18 : Int32) (z19 : Int32) : Option (Int32 × CarV) := (mf_L_tick_B190 W0 z1 z2 z3 z4 z6 z8 z9 z10 z11 z12 z13 z14 z15 z16 z18 z19 (0 : Int32))
def mf_L_tick_B160 (W0 : CarV) (z1 : Int32) (z2 : Int32) (z3 : UInt32) (z4 : UInt32) (z6 : Int32) (z8 : Int32) (z9 : Int32) (z10 : Int32) (z11 : Int32) (z12 : Int32) (z13 : Int32) (z14 : Int32) (z15 : Int32) (z16 : Int32) (z18 : Int32) (y0 : Int32) : Option (Int32 × CarV) := (if z18 = 0 then (mf_L_tick_B189 W0 z1 z2 z3 z4 z6 z8 z9 z10 z11 z12 z13 z14 z15 z16 z18 y0) else (if (5 : Int32) ≤ y0 then (mf_L_tick_B189 W0 z1 z2 z3 z4 z6 z8 z9 z10 z11 z12 z13 z14 z15 z16 z18 y0) else (bnd (mf_X5_map W0 y0 (3 : Int32)) (fun r_160 => (if (Op.cmpValue (FP.fcmp z3 r_160) CmpOp.l) ≤ 0 then (mf_L_tick_B189 W0 z1 z2 z3 z4 z6 z8 z9 z10 z11 z12 z13 z14 z15 z16 z18 y0) else (mf_L_tick_B190 W0 z1 z2 z3 z4 z6 z8 z9 z10 z11 z12 z13 z14 z15 z16 z18 y0 (1 : Int32)))))))
def mf_L_tick_B146 (W0 : CarV) (z1 : Int32) (z2 : Int32) (z3 : UInt32) (z4 : UInt32) (z5 : Int32) (z6 : Int32) (z8 : Int32) (z9 : Int32) (z10 : Int32) (z11 : Int32) (z12 : Int32) (z13 : Int32) (z14 : Int32) (z15 : Int32) (z16 : Int32) (z17 : Int32) (y0 : Int32) : Option (Int32 × CarV) := (if z17 = 0 then (mf_L_tick_B160 W0 z1 z2 z3 z4 z6 z8 z9 z10 z11 z12 z13 z14 z15 z16 y0 z5) else (mf_L_tick_B160 W0 z1 z2 z3 z4 z6 z8 z9 z10 z11 z12 z13 z14 z15 z16 y0 z6))
def mf_L_tick_B141 (W0 : CarV) (z1 : Int32) (z2 : Int32) (z3 : UInt32) (z4 : UInt32) (z5 : Int32) (z6 : Int32) (z8 : Int32) (z9 : Int32) (z10 : Int32) (z11 : Int32) (z12 : Int32) (z13 : Int32) (z14 : Int32) (z15 : Int32) (z16 : Int32) (z17 : Int32) : Option (Int32 × CarV) := (mf_L_tick_B146 W0 z1 z2 z3 z4 z5 z6 z8 z9 z10 z11 z12 z13 z14 z15 z16 z17 (1 : Int32))
def mf_L_tick_B127 (W0 : CarV) (z1 : Int32) (z2 : Int32) (z3 : UInt32) (z4 : UInt32) (z5 : Int32) (z6 : Int32) (z8 : Int32) (z9 : Int32) (z10 : Int32) (z11 : Int32) (z12 : Int32) (z13 : Int32) (z14 : Int32) (z15 : Int32) (z16 : Int32) (y0 : Int32) : Option (Int32 × CarV) := (if z6 = (-5 : Int32) then (mf_L_tick_B141 W0 z1 z2 z3 z4 z5 z6 z8 z9 z10 z11 z12 z13 z14 z15 z16 y0) else (if y0 = 0 then (mf_L_tick_B146 W0 z1 z2 z3 z4 z5 z6 z8 z9 z10 z11 z12 z13 z14 z15 z16 y0 (0 : Int32)) else (mf_L_tick_B141 W0 z1 z2 z3 z4 z5 z6 z8 z9 z10 z11 z12 z13 z14 z15 z16 y0)))
def mf_L_tick_B126 (W0 : CarV) (z1 : Int32) (z2 : Int32) (z3 : UInt32) (z4 : UInt32) (z5 : Int32) (z6 : Int32) (z8 : Int32) (z9 : Int32) (z10 : Int32) (z11 : Int32) (z12 : Int32) (z13 : Int32) (z14 : Int32) (z15 : Int32) (z16 : Int32) : Option (Int32 × CarV) := (mf_L_tick_B127 W0 z1 z2 z3 z4 z5 z6 z8 z9 z10 z11 z12 z13 z14 z15 z16 (0 : Int32))
def mf_L_tick (V : CarV) (x1 : Int32) (x2 : Int32) : Option (Int32 × CarV) := (bnd (mf_L_fast x1) (fun r_1 => (bnd (mf_L_deep x2) (fun r_3 => (bnd (mf_X5_car V (0 : Int32)) (fun r_5 => (bnd (mf_X5_car V (1 : Int32)) (fun r_7 => (bnd (mf_X5_car V (2 : Int32)) (fun r_9 => (bnd (mf_X5_car V (3 : Int32)) (fun r_11 => (bnd (mf_X5_car V (4 : Int32)) (fun r_13 => (bnd (mf_L_speed x1) (fun r_15 => (bnd (mf_L_pedal x2) (fun r_17 => (Option.bind (mf_X5_wouldChoose V r_15 r_17) (fun r_19 => (bnd (mf_X5_count r_19.2 (1 : Int32)) (fun r_21 => (bnd (mf_X5_count r_19.2 (2 : Int32)) (fun r_23 => (bnd (mf_X5_count r_19.2 (3 : Int32)) (fun r_25 => (bnd (mf_X5_count r_19.2 (5 : Int32)) (fun r_27 => (bnd (mf_X5_count r_19.2 (6 : Int32)) (fun r_29 => (bnd (mf_X5_count r_19.2 (0 : Int32)) (fun r_31 => (if r_7 = (-5 : Int32) then (mf_L_tick_B126 r_19.2 x1 x2 r_1 r_3 r_5 r_7 r_11 r_13 r_19.1 r_21 r_23 r_25 r_27 r_29 r_31) else (bnd (mf_X5_number r_19.2 (0 : Int32)) (fun r_164 => (if (r_9 + (1 : Int32)) = r_164 then (mf_L_tick_B127 r_19.2 x1 x2 r_1 r_3 r_5 r_7 r_11 r_13 r_19.1 r_21 r_23 r_25 r_27 r_29 r_31 (1 : Int32)) else (mf_L_tick_B126 r_19.2 x1 x2 r_1 r_3 r_5 r_7 r_11 r_13 r_19.1 r_21 r_23 r_25 r_27 r_29 r_31)))))))))))))))))))))))))))))))))))))

def mf_L_settles_B45 (W0 : CarV) : Option (Int32 × CarV) := some ((1 : Int32), W0)
def mf_L_settles_B24 (W0 : CarV) (z1 : Int32) (z2 : Int32) (z3 : Int32) : Option (Int32 × CarV) := (if z3 = 0 then (bnd (mf_L_speed z1) (fun r_9 => (bnd (mf_L_pedal z2) (fun r_11 => (Option.bind (mf_X5_drive W0 r_9 r_11 (99 : Int32)) (fun r_13 => (if r_13.1 = 0 then (mf_L_settles_B45 r_13.2) else some ((0 : Int32), r_13.2)))))))) else (mf_L_settles_B45 W0))
def mf_L_settles_B75 (W0 : CarV) (z1 : Int32) (z2 : Int32) (y0 : Int32) : Option (Int32 × CarV) := (if y0 < 0 then some ((0 : Int32), W0) else (bnd (mf_L_speed z1) (fun r_19 => (bnd (mf_L_pedal z2) (fun r_21 => (Option.bind (mf_X5_drive W0 r_19 r_21 (1 : Int32)) (fun r_23 => (if r_23.1 = (1 : Int32) then (bnd (mf_L_speed z1) (fun r_26 => (bnd (mf_L_pedal z2) (fun r_28 => (Option.bind (mf_X5_drive r_23.2 r_26 r_28 (99 : Int32)) (fun r_30 => (if r_30.1 = 0 then some ((1 : Int32), r_30.2) else some ((0 : Int32), r_30.2)))))))) else some ((0 : Int32), r_23.2)))))))))
def mf_L_settles (V : CarV) (x1 : Int32) (x2 : Int32) : Option (Int32 × CarV) := (bnd (mf_L_speed x1) (fun r_1 => (bnd (mf_L_pedal x2) (fun r_3 => (Option.bind (mf_X5_settles V r_1 r_3) (fun r_5 => (if r_5.1 < (1 : Int32) then (mf_L_settles_B24 r_5.2 x1 x2 r_5.1) else (if r_5.1 ≤ (99 : Int32) then (if r_5.1 ≤ (1 : Int32) then (mf_L_settles_B75 r_5.2 x1 x2 (0 : Int32)) else (bnd (mf_L_speed x1) (fun r_33 => (bnd (mf_L_pedal x2) (fun r_35 => (Option.bind (mf_X5_drive r_5.2 r_33 r_35 (r_5.1 - (1 : Int32))) (fun r_37 => (mf_L_settles_B75 r_37.2 x1 x2 r_37.1)))))))) else (mf_L_settles_B24 r_5.2 x1 x2 r_5.1)))))))))

def mf_L_acts_B184 (W0 : CarV) : Option (Int32 × CarV) := some ((1 : Int32), W0)
def mf_L_acts_B160 (W0 : CarV) (z3 : Int32) (z4 : Int32) (z5 : Int32) (z6 : Int32) (y0 : Int32) (y1 : Int32) : Option (Int32 × CarV) := (if y1 = y0 then (if z6 = 0 then (bnd (mf_X5_map W0 z3 z4) (fun r_23 => (bnd (mf_L_fast z5) (fun r_25 => (if (Op.cmpValue (FP.fcmp r_23 r_25) CmpOp.l) = 0 then (mf_L_acts_B184 W0) else some ((0 : Int32), W0)))))) else (mf_L_acts_B184 W0)) else some ((0 : Int32), W0))
def mf_L_acts_B115 (W0 : CarV) (z2 : Int32) (z3 : Int32) (z4 : Int32) (z5 : Int32) (z6 : Int32) (y0 : Int32) : Option (Int32 × CarV) := (Option.bind (mf_L_low (z2 >>> ((9 : Int32) &&& 31)) (3 : Int32)) (fun r_12 => (if 0 < r_12 then (mf_L_acts_B184 W0) else (bnd (mf_L_speed z5) (fun r_15 => (Option.bind (mf_X5_setMap W0 z3 z4 r_15) (fun r_17 => (if z6 = 0 then (if y0 = 0 then (mf_L_acts_B160 r_17.2 z3 z4 z5 z6 (1 : Int32) r_17.1) else (mf_L_acts_B160 r_17.2 z3 z4 z5 z6 (-5 : Int32) r_17.1)) else (mf_L_acts_B160 r_17.2 z3 z4 z5 z6 (-1 : Int32) r_17.1)))))))))
def mf_L_acts_B114 (W0 : CarV) (z2 : Int32) (z3 : Int32) (z4 : Int32) (z5 : Int32) (z6 : Int32) : Option (Int32 × CarV) := (mf_L_acts_B115 W0 z2 z3 z4 z5 z6 (0 : Int32))
def mf_L_acts_B87 (W0 : CarV) (z2 : Int32) (z3 : Int32) (z4 : Int32) (z5 : Int32) (y0 : Int32) : Option (Int32 × CarV) := (if y0 = 0 then (bnd (mf_X5_map W0 z3 z4) (fun r_28 => (bnd (mf_L_fast z5) (fun r_30 => (if (Op.cmpValue (FP.fcmp r_28 r_30) CmpOp.l) = 0 then (mf_L_acts_B115 W0 z2 z3 z4 z5 y0 (1 : Int32)) else (mf_L_acts_B114 W0 z2 z3 z4 z5 y0)))))) else (mf_L_acts_B114 W0 z2 z3 z4 z5 y0))
def mf_L_acts_B86 (W0 : CarV) (z2 : Int32) (z3 : Int32) (z4 : Int32) (z5 : Int32) : Option (Int32 × CarV) := (mf_L_acts_B87 W0 z2 z3 z4 z5 (0 : Int32))
def mf_L_acts_B346 (W0 : CarV) (y0 : Int32) (y1 : Int32) : Option (Int32 × CarV) := (if y1 = y0 then some ((1 : Int32), W0) else some ((0 : Int32), W0))
def mf_L_acts_B303 (W0 : CarV) (z3 : Int32) (z4 : Int32) (z5 : Int32) (z6 : Int32) (y0 : Int32) : Option (Int32 × CarV) := (Option.bind (mf_X5_setNumber W0 z3 z4) (fun r_46 => (if z6 = 0 then (if y0 = 0 then (if z5 = z4 then (mf_L_acts_B346 r_46.2 (-5 : Int32) r_46.1) else (mf_L_acts_B346 r_46.2 z5 r_46.1)) else (mf_L_acts_B346 r_46.2 (-4 : Int32) r_46.1)) else (mf_L_acts_B346 r_46.2 (-2 : Int32) r_46.1))))
def mf_L_acts_B302 (W0 : CarV) (z3 : Int32) (z4 : Int32) (z5 : Int32) (z6 : Int32) : Option (Int32 × CarV) := (mf_L_acts_B303 W0 z3 z4 z5 z6 (0 : Int32))
def mf_L_acts_B281 (W0 : CarV) (z3 : Int32) (z4 : Int32) (z5 : Int32) (y0 : Int32) : Option (Int32 × CarV) := (if (2 : Int32) ≤ z3 then (mf_L_acts_B302 W0 z3 z4 z5 y0) else (bnd (mf_X5_car W0 (1 : Int32)) (fun r_52 => (if r_52 = (-5 : Int32) then (mf_L_acts_B302 W0 z3 z4 z5 y0) else (mf_L_acts_B303 W0 z3 z4 z5 y0 (1 : Int32))))))
def mf_L_acts_B280 (W0 : CarV) (z3 : Int32) (z4 : Int32) (z5 : Int32) : Option (Int32 × CarV) := (mf_L_acts_B281 W0 z3 z4 z5 (0 : Int32))
def mf_L_acts_B276 (W0 : CarV) (z3 : Int32) (z4 : Int32) (z5 : Int32) : Option (Int32 × CarV) := (mf_L_acts_B281 W0 z3 z4 z5 (1 : Int32))
def mf_L_acts_B261 (W0 : CarV) (z3 : Int32) (z4 : Int32) (z5 : Int32) : Option (Int32 × CarV) := (if z3 = (1 : Int32) then (bnd (mf_X5_number W0 (0 : Int32)) (fun r_55 => (if z4 < r_55 then (mf_L_acts_B280 W0 z3 z4 z5) else (mf_L_acts_B276 W0 z3 z4 z5)))) else (mf_L_acts_B280 W0 z3 z4 z5))
def mf_L_acts_B238 (W0 : CarV) (z3 : Int32) (y0 : Int32) : Option (Int32 × CarV) := (bnd (mf_X5_number W0 z3) (fun r_41 => (if z3 = 0 then (bnd (mf_X5_number W0 (1 : Int32)) (fun r_58 => (if y0 ≤ r_58 then (mf_L_acts_B276 W0 z3 y0 r_41) else (mf_L_acts_B261 W0 z3 y0 r_41)))) else (mf_L_acts_B261 W0 z3 y0 r_41))))
def mf_L_acts_B423 (W0 : CarV) (y0 : Int32) (y1 : Int32) : Option (Int32 × CarV) := (if y1 = y0 then some ((1 : Int32), W0) else some ((0 : Int32), W0))
def mf_L_acts_B406 (W0 : CarV) (z3 : Int32) (y0 : Int32) (y1 : Int32) : Option (Int32 × CarV) := (if y1 = y0 then (bnd (mf_X5_car W0 (4 : Int32)) (fun r_78 => (if z3 = 0 then (mf_L_acts_B423 W0 (0 : Int32) r_78) else (mf_L_acts_B423 W0 (1 : Int32) r_78)))) else some ((0 : Int32), W0))
def mf_L_acts_B392 (W0 : CarV) (z3 : Int32) (y0 : Int32) (y1 : Int32) : Option (Int32 × CarV) := (if y0 = z3 then (mf_L_acts_B406 W0 z3 (-5 : Int32) y1) else (bnd (mf_X5_car W0 (0 : Int32)) (fun r_75 => (mf_L_acts_B406 W0 z3 r_75 y1))))
def mf_L_acts_B368 (W0 : CarV) (y0 : Int32) : Option (Int32 × CarV) := (bnd (mf_X5_car W0 (4 : Int32)) (fun r_69 => (Option.bind (mf_X5_byHand W0 y0) (fun r_71 => (if r_69 = (1 : Int32) then (mf_L_acts_B392 r_71.2 y0 (1 : Int32) r_71.1) else (mf_L_acts_B392 r_71.2 y0 (0 : Int32) r_71.1))))))
def mf_L_acts_B580 (W0 : CarV) : Option (Int32 × CarV) := some ((0 : Int32), W0)
def mf_L_acts_B576 (W0 : CarV) : Option (Int32 × CarV) := some ((1 : Int32), W0)
def mf_L_acts_B559 (W0 : CarV) (z6 : Int32) (z7 : Int32) : Option (Int32 × CarV) := (if z7 = (-4 : Int32) then (bnd (mf_X5_count W0 (4 : Int32)) (fun r_100 => (if r_100 = z6 then (mf_L_acts_B576 W0) else (mf_L_acts_B580 W0)))) else (mf_L_acts_B580 W0))
def mf_L_acts_B499 (W0 : CarV) (z3 : Int32) (z4 : Int32) (y0 : Int32) : Option (Int32 × CarV) := (bnd (mf_X5_count W0 (4 : Int32)) (fun r_92 => (Option.bind (mf_X5_shift W0 z3) (fun r_94 => (if y0 = 0 then (if r_94.1 = (-4 : Int32) then some ((1 : Int32), r_94.2) else some ((0 : Int32), r_94.2)) else (if r_94.1 = z4 then (bnd (mf_X5_car r_94.2 (1 : Int32)) (fun r_103 => (if r_103 = z4 then (bnd (mf_X5_count r_94.2 (4 : Int32)) (fun r_106 => (if r_106 = (r_92 + (1 : Int32)) then (bnd (mf_X5_change r_94.2 (0 : Int32) (3 : Int32)) (fun r_109 => (if r_109 = (3 : Int32) then (mf_L_acts_B576 r_94.2) else (mf_L_acts_B559 r_94.2 r_92 r_94.1)))) else (mf_L_acts_B559 r_94.2 r_92 r_94.1)))) else (mf_L_acts_B559 r_94.2 r_92 r_94.1)))) else (mf_L_acts_B559 r_94.2 r_92 r_94.1)))))))
def mf_L_acts_B498 (W0 : CarV) (z3 : Int32) (z4 : Int32) : Option (Int32 × CarV) := (mf_L_acts_B499 W0 z3 z4 (0 : Int32))
def mf_L_acts_B460 (W0 : CarV) (z3 : Int32) (y0 : Int32) (y1 : Int32) : Option (Int32 × CarV) := (bnd (mf_X5_car W0 (4 : Int32)) (fun r_89 => (if r_89 = (1 : Int32) then (bnd (mf_X5_car W0 (1 : Int32)) (fun r_112 => (if r_112 = (-5 : Int32) then (if (y1 + y0) ≤ 0 then (mf_L_acts_B498 W0 z3 (y1 + y0)) else (if (6 : Int32) ≤ (y1 + y0) then (mf_L_acts_B498 W0 z3 (y1 + y0)) else (mf_L_acts_B499 W0 z3 (y1 + y0) (1 : Int32)))) else (mf_L_acts_B498 W0 z3 (y1 + y0))))) else (mf_L_acts_B498 W0 z3 (y1 + y0)))))
def mf_L_acts_B445 (W0 : CarV) (y0 : Int32) : Option (Int32 × CarV) := (bnd (mf_X5_car W0 (0 : Int32)) (fun r_86 => (if y0 = 0 then (mf_L_acts_B460 W0 y0 (-1 : Int32) r_86) else (mf_L_acts_B460 W0 y0 (1 : Int32) r_86))))
def mf_L_acts_B756 (W0 : CarV) : Option (Int32 × CarV) := some ((1 : Int32), W0)
def mf_L_acts (V : CarV) (x1 : Int32) (x2 : Int32) : Option (Int32 × CarV) := (Option.bind (mf_L_low x1 (12 : Int32)) (fun r_1 => (if r_1 = (0 : Int32) then (Option.bind (mf_L_low x2 (5 : Int32)) (fun r_4 => (Option.bind (mf_L_low (x2 >>> ((3 : Int32) &&& 31)) (4 : Int32)) (fun r_6 => (Option.bind (mf_L_low (x2 >>> ((5 : Int32) &&& 31)) (12 : Int32)) (fun r_8 => (if ((1 : Int32) + r_4) = (5 : Int32) then (if (3 : Int32) ≤ r_6 then (mf_L_acts_B86 V x2 ((1 : Int32) + r_4) r_6 r_8) else (mf_L_acts_B87 V x2 ((1 : Int32) + r_4) r_6 r_8 (1 : Int32))) else (mf_L_acts_B86 V x2 ((1 : Int32) + r_4) r_6 r_8)))))))) else (if r_1 = (1 : Int32) then (Option.bind (mf_L_low x2 (4 : Int32)) (fun r_35 => (if r_35 = 0 then (Option.bind (mf_L_low (x2 >>> ((2 : Int32) &&& 31)) (8 : Int32)) (fun r_63 => (mf_L_acts_B238 V r_35 ((2 : Int32) + r_63)))) else (if r_35 = (1 : Int32) then (Option.bind (mf_L_low (x2 >>> ((2 : Int32) &&& 31)) (4 : Int32)) (fun r_61 => (mf_L_acts_B238 V r_35 r_61))) else (Option.bind (mf_L_low (x2 >>> ((2 : Int32) &&& 31)) (100 : Int32)) (fun r_39 => (mf_L_acts_B238 V r_35 ((1 : Int32) + r_39)))))))) else (if r_1 = (2 : Int32) then (Option.bind (mf_L_low x2 (3 : Int32)) (fun r_66 => (if r_66 = 0 then (mf_L_acts_B368 V (1 : Int32)) else (mf_L_acts_B368 V (0 : Int32))))) else (if r_1 = (3 : Int32) then (Option.bind (mf_L_low x2 (2 : Int32)) (fun r_83 => (if r_83 = 0 then (mf_L_acts_B445 V (1 : Int32)) else (mf_L_acts_B445 V (0 : Int32))))) else (if r_1 = (4 : Int32) then (Option.bind (mf_L_low x2 (12 : Int32)) (fun r_118 => (Option.bind (mf_L_low (x2 >>> ((4 : Int32) &&& 31)) (5 : Int32)) (fun r_120 => (Option.bind (mf_L_low (x2 >>> ((7 : Int32) &&& 31)) (30 : Int32)) (fun r_122 => (bnd (mf_X5_count V (0 : Int32)) (fun r_124 => (bnd (mf_X5_count V (1 : Int32)) (fun r_126 => (bnd (mf_X5_count V (2 : Int32)) (fun r_128 => (bnd (mf_X5_count V (3 : Int32)) (fun r_130 => (bnd (mf_X5_count V (5 : Int32)) (fun r_132 => (bnd (mf_L_speed r_118) (fun r_134 => (bnd (mf_L_pedal r_120) (fun r_136 => (Option.bind (mf_X5_drive V r_134 r_136 ((1 : Int32) + r_122)) (fun r_138 => (bnd (mf_X5_count r_138.2 (0 : Int32)) (fun r_140 => (if r_140 = (r_124 + ((1 : Int32) + r_122)) then (bnd (mf_X5_count r_138.2 (1 : Int32)) (fun r_143 => (bnd (mf_X5_count r_138.2 (2 : Int32)) (fun r_145 => (bnd (mf_X5_count r_138.2 (3 : Int32)) (fun r_147 => (bnd (mf_X5_count r_138.2 (5 : Int32)) (fun r_149 => (if (((r_143 + r_145) + r_147) + r_149) = ((((r_126 + r_128) + r_130) + r_132) + r_138.1) then some ((1 : Int32), r_138.2) else some ((0 : Int32), r_138.2)))))))))) else some ((0 : Int32), r_138.2)))))))))))))))))))))))))) else (if r_1 = (5 : Int32) then (Option.bind (mf_L_low x2 (3 : Int32)) (fun r_153 => (if 0 < r_153 then (mf_L_acts_B756 V) else (Option.bind (mf_L_low (x2 >>> ((2 : Int32) &&& 31)) (12 : Int32)) (fun r_156 => (Option.bind (mf_L_low (x2 >>> ((6 : Int32) &&& 31)) (5 : Int32)) (fun r_158 => (Option.bind (mf_L_settles V r_156 r_158) (fun r_160 => (if r_160.1 = 0 then some ((0 : Int32), r_160.2) else (mf_L_acts_B756 r_160.2))))))))))) else (Option.bind (mf_L_low x2 (12 : Int32)) (fun r_163 => (Option.bind (mf_L_low (x2 >>> ((4 : Int32) &&& 31)) (5 : Int32)) (fun r_165 => (Option.bind (mf_L_tick V r_163 r_165) (fun r_167 => (if r_167.1 = 0 ∨ r_167.1 = 1 then some (r_167.1, r_167.2) else none)))))))))))))))

def mf_L_errors_B413 (W0 : CarV) (y0 : Int32) (y1 : Int32) : Option (Int32 × CarV) := (if y1 = y0 then some ((1 : Int32), W0) else some ((0 : Int32), W0))
def mf_L_errors_B385 (W0 : CarV) (y0 : Int32) : Option (Int32 × CarV) := (bnd (mf_X5_count W0 (13 : Int32)) (fun r_23 => (if y0 = 0 then some ((0 : Int32), W0) else (Option.bind (mf_X5_undo W0) (fun r_26 => (if r_23 ≤ 0 then (mf_L_errors_B413 r_26.2 (-5 : Int32) r_26.1) else (mf_L_errors_B413 r_26.2 (r_23 - (1 : Int32)) r_26.1)))))))
def mf_L_errors_B384 (W0 : CarV) : Option (Int32 × CarV) := (mf_L_errors_B385 W0 (0 : Int32))
def mf_L_errors_B328 (W0 : CarV) (y0 : Int32) : Option (Int32 × CarV) := (bnd (mf_X5_type W0 (53 : Int32)) (fun r_14 => (bnd (mf_X5_type r_14.2 (44 : Int32)) (fun r_16 => (bnd (mf_X5_type r_16.2 (53 : Int32)) (fun r_18 => (bnd (mf_X5_type r_18.2 (42 : Int32)) (fun r_20 => (if y0 = 0 then (mf_L_errors_B384 r_20.2) else (Option.bind (mf_X5_readDrive r_20.2) (fun r_30 => (if r_30.1 = (-104 : Int32) then (bnd (mf_X5_count r_30.2 (14 : Int32)) (fun r_33 => (if r_33 = (4 : Int32) then (mf_L_errors_B385 r_30.2 (1 : Int32)) else (mf_L_errors_B384 r_30.2)))) else (mf_L_errors_B384 r_30.2)))))))))))))
def mf_L_errors_B327 (W0 : CarV) : Option (Int32 × CarV) := (mf_L_errors_B328 W0 (0 : Int32))
def mf_L_errors_B280 (W0 : CarV) (y0 : Int32) : Option (Int32 × CarV) := (bnd (mf_X5_type W0 (51 : Int32)) (fun r_7 => (bnd (mf_X5_type r_7.2 (48 : Int32)) (fun r_9 => (bnd (mf_X5_type r_9.2 (49 : Int32)) (fun r_11 => (if y0 = 0 then (mf_L_errors_B327 r_11.2) else (Option.bind (mf_X5_readDrive r_11.2) (fun r_36 => (if r_36.1 = (-102 : Int32) then (bnd (mf_X5_clearText r_36.2) (fun r_39 => (if r_39.1 = (3 : Int32) then (mf_L_errors_B328 r_39.2 (1 : Int32)) else (mf_L_errors_B327 r_39.2)))) else (mf_L_errors_B327 r_36.2)))))))))))
def mf_L_errors_B279 (W0 : CarV) : Option (Int32 × CarV) := (mf_L_errors_B280 W0 (0 : Int32))
def mf_L_errors_B256 (W0 : CarV) (y0 : Int32) : Option (Int32 × CarV) := (bnd (mf_X5_clearText W0) (fun r_4 => (if y0 = 0 then (mf_L_errors_B279 r_4.2) else (Option.bind (mf_X5_readDrive r_4.2) (fun r_42 => (if r_42.1 = (-100 : Int32) then (mf_L_errors_B280 r_42.2 (1 : Int32)) else (mf_L_errors_B279 r_42.2)))))))
def mf_L_errors_B255 (W0 : CarV) : Option (Int32 × CarV) := (mf_L_errors_B256 W0 (0 : Int32))
def mf_L_errors (V : CarV) : Option (Int32 × CarV) := (Option.bind (mf_X5_setMap V (0 : Int32) (4 : Int32) (0 : Int32)) (fun r_1 => (if r_1.1 = (-2 : Int32) then (Option.bind (mf_X5_setMap r_1.2 (0 : Int32) (0 : Int32) (0 : Int32)) (fun r_45 => (if r_45.1 = (-1 : Int32) then (Option.bind (mf_X5_setMap r_45.2 (5 : Int32) (2 : Int32) (0 : Int32)) (fun r_48 => (if r_48.1 = (-1 : Int32) then (Option.bind (mf_X5_setMap r_48.2 (6 : Int32) (3 : Int32) (0 : Int32)) (fun r_51 => (if r_51.1 = (-1 : Int32) then (Option.bind (mf_X5_setMap r_51.2 (1 : Int32) (0 : Int32) (-2147483648 : Int32)) (fun r_54 => (if r_54.1 = (-2 : Int32) then (Option.bind (mf_X5_setMap r_54.2 (1 : Int32) (0 : Int32) (1133903873 : Int32)) (fun r_57 => (if r_57.1 = (-2 : Int32) then (Option.bind (mf_X5_setMap r_57.2 (1 : Int32) (0 : Int32) (2143289344 : Int32)) (fun r_60 => (if r_60.1 = (-2 : Int32) then (Option.bind (mf_X5_setNumber r_60.2 (4 : Int32) (1 : Int32)) (fun r_63 => (if r_63.1 = (-1 : Int32) then (Option.bind (mf_X5_setNumber r_63.2 (2 : Int32) (0 : Int32)) (fun r_66 => (if r_66.1 = (-2 : Int32) then (Option.bind (mf_X5_setNumber r_66.2 (3 : Int32) (101 : Int32)) (fun r_69 => (if r_69.1 = (-2 : Int32) then (Option.bind (mf_X5_setNumber r_69.2 (0 : Int32) (21 : Int32)) (fun r_72 => (if r_72.1 = (-2 : Int32) then (Option.bind (mf_X5_drive r_72.2 (0 : Int32) (0 : Int32) (0 : Int32)) (fun r_75 => (if r_75.1 = (-2 : Int32) then (Option.bind (mf_X5_drive r_75.2 (0 : Int32) (0 : Int32) (100 : Int32)) (fun r_78 => (if r_78.1 = (-2 : Int32) then (Option.bind (mf_X5_drive r_78.2 (0 : Int32) (1065353217 : Int32) (1 : Int32)) (fun r_81 => (if r_81.1 = (-2 : Int32) then (Option.bind (mf_X5_wouldChoose r_81.2 (1133903873 : Int32) (0 : Int32)) (fun r_84 => (if r_84.1 = (-2 : Int32) then (Option.bind (mf_X5_settles r_84.2 (0 : Int32) (-2147483648 : Int32)) (fun r_87 => (if r_87.1 = (-2 : Int32) then (bnd (mf_X5_map r_87.2 (5 : Int32) (0 : Int32)) (fun r_90 => (bnd (mf_L_isNone r_90) (fun r_92 => (if r_92 = 0 then (mf_L_errors_B255 r_87.2) else (Option.bind (mf_X5_border r_87.2 (5 : Int32) (0 : Int32) (1 : Int32)) (fun r_95 => (bnd (mf_L_isNone r_95) (fun r_97 => (if r_97 = 0 then (mf_L_errors_B255 r_87.2) else (Option.bind (mf_X5_border r_87.2 (1 : Int32) (1065353217 : Int32) (1 : Int32)) (fun r_100 => (bnd (mf_L_isNone r_100) (fun r_102 => (if r_102 = 0 then (mf_L_errors_B255 r_87.2) else (bnd (mf_X5_number r_87.2 (4 : Int32)) (fun r_105 => (if r_105 = (-1 : Int32) then (bnd (mf_X5_count r_87.2 (15 : Int32)) (fun r_108 => (if r_108 = (-2 : Int32) then (mf_L_errors_B256 r_87.2 (1 : Int32)) else (mf_L_errors_B255 r_87.2)))) else (mf_L_errors_B255 r_87.2))))))))))))))))))) else (mf_L_errors_B255 r_87.2)))) else (mf_L_errors_B255 r_84.2)))) else (mf_L_errors_B255 r_81.2)))) else (mf_L_errors_B255 r_78.2)))) else (mf_L_errors_B255 r_75.2)))) else (mf_L_errors_B255 r_72.2)))) else (mf_L_errors_B255 r_69.2)))) else (mf_L_errors_B255 r_66.2)))) else (mf_L_errors_B255 r_63.2)))) else (mf_L_errors_B255 r_60.2)))) else (mf_L_errors_B255 r_57.2)))) else (mf_L_errors_B255 r_54.2)))) else (mf_L_errors_B255 r_51.2)))) else (mf_L_errors_B255 r_48.2)))) else (mf_L_errors_B255 r_45.2)))) else (mf_L_errors_B255 r_1.2))))
end
section
/-! floats: the values that occur, checked one by one -/
def nn (x : UInt32) : Bool := decide (x &&& 0x7fffffff ≤ 0x7f800000)
/-- the speeds that a map can hold: the first ones, and those that the law sets -/
def FV : List UInt32 := [0, 0x40a00000, 0x41000000, 0x41200000, 0x41400000, 0x41700000, 0x41a00000, 0x41f00000, 0x42080000, 0x42200000, 0x42340000, 0x42480000, 0x424c0000, 0x42700000, 0x42780000, 0x42960000, 0x42b40000, 0x42c80000, 0x42dc0000, 0x43020000, 0x43160000, 0x43340000, 0x43520000, 0x43960000]
def FS : List UInt32 := [0, 0x41200000, 0x41a00000, 0x42080000, 0x42480000, 0x424c0000, 0x42780000, 0x42b40000, 0x42c80000, 0x43160000, 0x43520000, 0x43960000]
def FPd : List UInt32 := [0, 0x3e800000, 0x3f000000, 0x3f733333, 0x3f800000]
theorem FS_FV : ∀ x ∈ FS, x ∈ FV := by decide +kernel
def fcl (a b : UInt32) : Int32 := Op.cmpValue (FP.fcmp a b) CmpOp.l
def fcg (a b : UInt32) : Int32 := Op.cmpValue (FP.fcmp a b) CmpOp.g
theorem fp_self : ∀ x ∈ FS, fcl x x = 0 := by decide +kernel
theorem fp_tot : ∀ x ∈ FS, ∀ y ∈ FV, (fcl x y ≤ 0 → ¬ fcl y x < 0) ∧ (¬ fcl x y ≤ 0 → ¬ 0 ≤ fcg y x) := by decide +kernel
theorem fp_up : ∀ lo ∈ FV, ∀ hi ∈ FV, nn (FP.fsub hi lo) = true ∧ ∀ p ∈ FPd, nn (FP.fmul (FP.fsub hi lo) p) = true ∧ nn (FP.fadd lo (FP.fmul (FP.fsub hi lo) p)) = true := by decide +kernel
theorem fp_of : ∀ k ∈ ([0, 1, 2, 3, 4, 5, 6, 7, 8, 9, 10, 11] : List Int32), mf_X5_floatOf (mf_L_speed k) = some (mf_L_fast k) ∧ mf_L_fast k ∈ FS ∧ mf_X5_isSpeed (mf_L_speed k) = 1 := by decide +kernel
theorem fp_ofp : ∀ k ∈ ([0, 1, 2, 3, 4] : List Int32), mf_X5_floatOf (mf_L_pedal k) = some (mf_L_deep k) ∧ mf_L_deep k ∈ FPd ∧ mf_X5_isPedal (mf_L_pedal k) = 1 := by decide +kernel
end
section
def okn (n : Nat) : Prop := n % 2147483648 ≤ 2139095040
theorem okn_as (s : Bool) (e t : Nat) (h : e * 8388608 + t ≤ 2139095040) : okn (FP.Core.assemble FP.Core.b32 s e t) := by
  have h1 : FP.Core.assemble FP.Core.b32 s e t = (s.toNat * 256 + e) * 8388608 + t := rfl
  unfold okn
  rw [h1]
  cases s
  · simp only [Bool.toNat_false]; omega
  · simp only [Bool.toNat_true]; omega
theorem okn_fin (s : Bool) (c : Nat) (q : Int) (hc : c < 16777216) (hq : q ≤ 104) : okn (FP.Core.encode FP.Core.b32 (.fin s c q)) := by
  have ht : FP.Core.b32.tails = 8388608 := rfl
  have hm : FP.Core.b32.qmin = -149 := rfl
  unfold FP.Core.encode
  simp only [ht, hm]
  split
  · exact okn_as _ _ _ (by omega)
  · exact okn_as _ _ _ (by omega)
theorem okn_inf (s : Bool) : okn (FP.Core.encode FP.Core.b32 (.inf s)) := by
  unfold FP.Core.encode
  exact okn_as _ _ _ (by decide)
theorem okn_bound (s : Bool) (c : Nat) (q : Int) (hc : c < 16777216) : okn (FP.Core.encode FP.Core.b32 (FP.Core.bound FP.Core.b32 s c q)) := by
  have hM : FP.Core.b32.qmax = 104 := rfl
  unfold FP.Core.bound
  rw [hM]
  split
  · exact okn_fin _ _ _ hc (by assumption)
  · exact okn_inf _
theorem okn_rr (s : Bool) (n d : Nat) (e : Int) : okn (FP.Core.encode FP.Core.b32 (FP.Core.roundRatio FP.Core.b32 s n d e)) := by
  unfold FP.Core.roundRatio
  split
  · exact okn_fin _ _ _ (by decide) (by decide)
  · unfold FP.Core.roundAt FP.Core.settle
    split
    · rename_i h
      exact okn_bound _ _ _ h
    · exact okn_bound _ _ _ (by decide)
theorem nn_of {n : Nat} (h : okn n) : nn (UInt32.ofNat n) = true := by
  unfold nn
  rw [decide_eq_true_eq, UInt32.le_iff_toNat_le, UInt32.toNat_and, UInt32.toNat_ofNat']
  have e1 : (0x7fffffff : UInt32).toNat = 2 ^ 31 - 1 := rfl
  have e2 : (0x7f800000 : UInt32).toNat = 2139095040 := rfl
  rw [e1, e2, Nat.and_two_pow_sub_one_eq_mod]
  unfold okn at h
  omega
def isfin (x : UInt32) : Bool := match FP.Core.decode FP.Core.b32 x.toNat with
  | .fin _ _ _ => true
  | _ => false
theorem isfin_of {x : UInt32} (h : isfin x = true) : ∃ s c q, FP.Core.decode FP.Core.b32 x.toNat = .fin s c q := by
  unfold isfin at h
  split at h
  · exact ⟨_, _, _, by assumption⟩
  · cases h
theorem fsub_nn {x y : UInt32} (hx : isfin x = true) (hy : isfin y = true) : nn (FP.fsub x y) = true := by
  obtain ⟨s, c, q, h1⟩ := isfin_of hx
  obtain ⟨t, d, r, h2⟩ := isfin_of hy
  refine nn_of ?_
  show okn (FP.Core.sub FP.Core.b32 x.toNat y.toNat)
  unfold FP.Core.sub
  rw [h1, h2]
  exact okn_rr _ _ _ _
theorem fp_upf : ∀ lo ∈ FV, ∀ hi ∈ FV, ∀ p ∈ FPd, isfin (FP.fadd lo (FP.fmul (FP.fsub hi lo) p)) = true := by decide +kernel
theorem fp_FVf : ∀ x ∈ FV, isfin x = true := by decide +kernel
theorem up_ok {lo hi p : UInt32} (h1 : lo ∈ FV) (h2 : hi ∈ FV) (h3 : p ∈ FPd) : (FP.fsub hi lo &&& 0x7fffffff ≤ 0x7f800000) ∧ (FP.fmul (FP.fsub hi lo) p &&& 0x7fffffff ≤ 0x7f800000) ∧ (FP.fadd lo (FP.fmul (FP.fsub hi lo) p) &&& 0x7fffffff ≤ 0x7f800000) := by
  obtain ⟨a, b⟩ := fp_up lo h1 hi h2
  obtain ⟨b1, b2⟩ := b p h3
  exact ⟨of_decide_eq_true a, of_decide_eq_true b1, of_decide_eq_true b2⟩
theorem dn_ok {lo hi p d : UInt32} (h1 : lo ∈ FV) (h2 : hi ∈ FV) (h3 : p ∈ FPd) (h4 : d ∈ FV) : FP.fsub (FP.fadd lo (FP.fmul (FP.fsub hi lo) p)) d &&& 0x7fffffff ≤ 0x7f800000 := of_decide_eq_true (fsub_nn (fp_upf lo h1 hi h2 p h3) (fp_FVf d h4))
end
section
/-! what the small methods answer -/
theorem tn0 : (0 : Int32).toNatClampNeg = 0 := rfl
theorem tn1 : (1 : Int32).toNatClampNeg = 1 := rfl
theorem tn2 : (2 : Int32).toNatClampNeg = 2 := rfl
theorem tn3 : (3 : Int32).toNatClampNeg = 3 := rfl
theorem set_0 (S : St) : mf_X4_setting S 0 = v4_settings S 0 := rfl
theorem set_1 (S : St) : mf_X4_setting S 1 = v4_settings S 1 := rfl
theorem set_2 (S : St) : mf_X4_setting S 2 = v4_settings S 2 := rfl
theorem set_3 (S : St) : mf_X4_setting S 3 = v4_settings S 3 := rfl
theorem num_0 (V : CarV) : mf_X5_number V 0 = v4_settings (v5_now V) 0 := rfl
theorem num_1 (V : CarV) : mf_X5_number V 1 = v4_settings (v5_now V) 1 := rfl
theorem num_2 (V : CarV) : mf_X5_number V 2 = v4_settings (v5_now V) 2 := rfl
theorem num_3 (V : CarV) : mf_X5_number V 3 = v4_settings (v5_now V) 3 := rfl
theorem car_0 (V : CarV) : mf_X5_car V 0 = v4_gear (v5_now V) := rfl
theorem car_1 (V : CarV) : mf_X5_car V 1 = if v4_target (v5_now V) = 0 then -5 else v4_target (v5_now V) := by
  by_cases h : v4_target (v5_now V) = 0 <;> simp [mf_X5_car, mf_X4_isChanging, bnd, h]
theorem car_2 (V : CarV) : mf_X5_car V 2 = if v4_target (v5_now V) = 0 then -5 else v4_done (v5_now V) := by
  by_cases h : v4_target (v5_now V) = 0 <;> simp [mf_X5_car, mf_X4_isChanging, bnd, h]
theorem car_3 (V : CarV) : mf_X5_car V 3 = v4_held (v5_now V) := rfl
theorem car_4 (V : CarV) : mf_X5_car V 4 = if v4_handMode (v5_now V) = 0 then 0 else 1 := rfl
theorem car_5 (V : CarV) : mf_X5_car V 5 = if v4_target (v5_now V) = 0 then -5 else mf_X4_closedOnlyIn (v4_gear (v5_now V)) (v4_target (v5_now V)) := by
  by_cases h : v4_target (v5_now V) = 0 <;> simp [mf_X5_car, mf_X4_opening, mf_X4_isChanging, bnd, h]
theorem car_6 (V : CarV) : mf_X5_car V 6 = if v4_target (v5_now V) = 0 then -5 else mf_X4_closedOnlyIn (v4_target (v5_now V)) (v4_gear (v5_now V)) := by
  by_cases h : v4_target (v5_now V) = 0 <;> simp [mf_X5_car, mf_X4_closing, mf_X4_isChanging, bnd, h]
theorem car_7 (V : CarV) : mf_X5_car V 7 = -2 := rfl
theorem cnt_0 (V : CarV) : mf_X5_count V 0 = v4_counts (v5_now V) 0 := rfl
theorem cnt_1 (V : CarV) : mf_X5_count V 1 = v4_counts (v5_now V) 1 := rfl
theorem cnt_2 (V : CarV) : mf_X5_count V 2 = v4_counts (v5_now V) 2 := rfl
theorem cnt_3 (V : CarV) : mf_X5_count V 3 = v4_counts (v5_now V) 3 := rfl
theorem cnt_4 (V : CarV) : mf_X5_count V 4 = v4_counts (v5_now V) 4 := rfl
theorem cnt_5 (V : CarV) : mf_X5_count V 5 = v4_counts (v5_now V) 5 := rfl
theorem cnt_6 (V : CarV) : mf_X5_count V 6 = v4_counts (v5_now V) 6 := rfl
theorem cnt_7 (V : CarV) : mf_X5_count V 7 = v4_counts (v5_now V) 7 := rfl
theorem cnt_8 (V : CarV) : mf_X5_count V 8 = v4_counts (v5_now V) 8 := rfl
theorem cnt_9 (V : CarV) : mf_X5_count V 9 = v4_counts (v5_now V) 9 := rfl
theorem cnt_10 (V : CarV) : mf_X5_count V 10 = v4_counts (v5_now V) 10 := rfl
theorem cnt_11 (V : CarV) : mf_X5_count V 11 = v4_counts (v5_now V) 11 := rfl
theorem cnt_12 (V : CarV) : mf_X5_count V 12 = v4_counts (v5_now V) 12 := rfl
theorem cnt_13 (V : CarV) : mf_X5_count V 13 = v1_size (v5_history V) := rfl
theorem cnt_14 (V : CarV) : mf_X5_count V 14 = v0_length (v5_text V) := rfl
theorem cnt_15 (V : CarV) : mf_X5_count V 15 = -2 := rfl
theorem chg (V : CarV) (b : Int32) (w : Int32) (hb : ¬ b < 0) (h0 : ¬ w < 0) (h5 : w < 5) : mf_X5_change V b w = mf_X2_told (v4_log (v5_now V)) b w := by
  simp [mf_X5_change, hb, h0, h5, bnd]
def lag_cl (n lag k : Int32) : UInt32 := if lag < k then FP.fdiv (FP.i2f (k - lag)) (FP.i2f (n - lag)) else 0
def fpx (a b : UInt32) : UInt32 := if fcl b a ≤ 0 then a else b
/-- what told asks of the floats of a change: k of n ticks, the lag g -/
def fpt (n g k : Nat) : Bool :=
  let a := FP.fdiv (FP.i2f (nI k)) (FP.i2f (nI n))
  let r := FP.fdiv (FP.i2f (nI k - nI g)) (FP.i2f (nI n - nI g))
  let o := FP.fsub FP.fconst1 a
  let cl := if g < k then r else 0
  let gp := if fcl o cl < 0 then cl else o
  nn a && nn r && nn o && decide (fcl o o = 0) && decide (fcl cl cl = 0) && decide (fcl gp (fpx (fpx 0 o) cl) = 0) && decide (fcl gp (fpx (fpx 0 cl) o) = 0)
theorem fpt_all : ∀ n, n < 21 → ∀ g, g < n → ∀ k, k < n → fpt n g k = true := by decide +kernel
end
