section
-- ===== PART A: goes FIRST, ahead of the names: the tables' words, and 'selects' of the private methods out of them =====
/-- a private method of a class that the tables say can be made, by its rows of tables_1 -/
def lw_okq (q : MethodName × Nat) : Prop := (q.1.cls ≠ "java/lang/invoke/MethodHandle" ∧ q.1.cls ≠ "java/lang/invoke/VarHandle") ∧ Cond.instantiable q.1.cls q.2 ∈ tables_1 ∧ Cond.privateMethod q.1 ∈ tables_1 ∧ Cond.instanceMethod q.1 ∈ tables_1
theorem lw_p0 : lw_okq (⟨"SlotHouse", "refuse", "(I)I"⟩, 9) := ⟨⟨by decide +kernel, by decide +kernel⟩, List.mem_of_getElem? (i := 13) (by decide +kernel), List.mem_of_getElem? (i := 91) (by decide +kernel), List.mem_of_getElem? (i := 92) (by decide +kernel)⟩
theorem lw_p1 : lw_okq (⟨"SlotHouse", "machineAt", "(I)LSlotHouse$Machine;"⟩, 9) := ⟨⟨by decide +kernel, by decide +kernel⟩, List.mem_of_getElem? (i := 13) (by decide +kernel), List.mem_of_getElem? (i := 198) (by decide +kernel), List.mem_of_getElem? (i := 199) (by decide +kernel)⟩
theorem lw_p2 : lw_okq (⟨"SlotHouse", "laneAt", "(II)LSlotHouse$Lane;"⟩, 9) := ⟨⟨by decide +kernel, by decide +kernel⟩, List.mem_of_getElem? (i := 13) (by decide +kernel), List.mem_of_getElem? (i := 278) (by decide +kernel), List.mem_of_getElem? (i := 279) (by decide +kernel)⟩
theorem lw_p3 : lw_okq (⟨"SlotHouse$Changer", "coinsOfWay", "(ILSlotHouse$Till;I)I"⟩, 2) := ⟨⟨by decide +kernel, by decide +kernel⟩, List.mem_of_getElem? (i := 28) (by decide +kernel), List.mem_of_getElem? (i := 358) (by decide +kernel), List.mem_of_getElem? (i := 359) (by decide +kernel)⟩
theorem lw_p4 : lw_okq (⟨"SlotHouse", "passHour", "()V"⟩, 9) := ⟨⟨by decide +kernel, by decide +kernel⟩, List.mem_of_getElem? (i := 13) (by decide +kernel), List.mem_of_getElem? (i := 397) (by decide +kernel), List.mem_of_getElem? (i := 398) (by decide +kernel)⟩
theorem lw_p5 : lw_okq (⟨"SlotHouse$Diary", "rate", "(II)I"⟩, 2) := ⟨⟨by decide +kernel, by decide +kernel⟩, List.mem_of_getElem? (i := 140) (by decide +kernel), List.mem_of_getElem? (i := 438) (by decide +kernel), List.mem_of_getElem? (i := 439) (by decide +kernel)⟩
theorem lw_p6 : lw_okq (⟨"SlotHouse$Van", "fillRow", "(ILSlotHouse$Lane;II)V"⟩, 2) := ⟨⟨by decide +kernel, by decide +kernel⟩, List.mem_of_getElem? (i := 44) (by decide +kernel), List.mem_of_getElem? (i := 466) (by decide +kernel), List.mem_of_getElem? (i := 467) (by decide +kernel)⟩
theorem lw_p7 : lw_okq (⟨"SlotHouse$Van", "takePieces", "(LSlotHouse$Machine;[II)I"⟩, 2) := ⟨⟨by decide +kernel, by decide +kernel⟩, List.mem_of_getElem? (i := 44) (by decide +kernel), List.mem_of_getElem? (i := 480) (by decide +kernel), List.mem_of_getElem? (i := 481) (by decide +kernel)⟩
theorem lw_p8 : lw_okq (⟨"SlotHouse$Van", "mostAtBest", "(ILSlotHouse$Lane;II)I"⟩, 2) := ⟨⟨by decide +kernel, by decide +kernel⟩, List.mem_of_getElem? (i := 44) (by decide +kernel), List.mem_of_getElem? (i := 484) (by decide +kernel), List.mem_of_getElem? (i := 485) (by decide +kernel)⟩
theorem lw_p9 : lw_okq (⟨"SlotHouse", "soldOfAll", "()I"⟩, 9) := ⟨⟨by decide +kernel, by decide +kernel⟩, List.mem_of_getElem? (i := 13) (by decide +kernel), List.mem_of_getElem? (i := 533) (by decide +kernel), List.mem_of_getElem? (i := 534) (by decide +kernel)⟩
theorem lw_p10 : lw_okq (⟨"SlotHouseModel", "refuse", "(I)I"⟩, 34) := ⟨⟨by decide +kernel, by decide +kernel⟩, List.mem_of_getElem? (i := 537) (by decide +kernel), List.mem_of_getElem? (i := 651) (by decide +kernel), List.mem_of_getElem? (i := 652) (by decide +kernel)⟩
theorem lw_p11 : lw_okq (⟨"SlotHouseModel", "isMachine", "(I)Z"⟩, 34) := ⟨⟨by decide +kernel, by decide +kernel⟩, List.mem_of_getElem? (i := 537) (by decide +kernel), List.mem_of_getElem? (i := 659) (by decide +kernel), List.mem_of_getElem? (i := 660) (by decide +kernel)⟩
theorem lw_p12 : lw_okq (⟨"SlotHouseModel", "isLane", "(II)Z"⟩, 34) := ⟨⟨by decide +kernel, by decide +kernel⟩, List.mem_of_getElem? (i := 537) (by decide +kernel), List.mem_of_getElem? (i := 677) (by decide +kernel), List.mem_of_getElem? (i := 678) (by decide +kernel)⟩
theorem lw_p13 : lw_okq (⟨"SlotHouseModel", "coinsIn", "(I)I"⟩, 34) := ⟨⟨by decide +kernel, by decide +kernel⟩, List.mem_of_getElem? (i := 537) (by decide +kernel), List.mem_of_getElem? (i := 713) (by decide +kernel), List.mem_of_getElem? (i := 714) (by decide +kernel)⟩
theorem lw_p14 : lw_okq (⟨"SlotHouseModel", "worthIn", "([II)I"⟩, 34) := ⟨⟨by decide +kernel, by decide +kernel⟩, List.mem_of_getElem? (i := 537) (by decide +kernel), List.mem_of_getElem? (i := 717) (by decide +kernel), List.mem_of_getElem? (i := 718) (by decide +kernel)⟩
theorem lw_p15 : lw_okq (⟨"SlotHouseModel", "allBack", "(I)I"⟩, 34) := ⟨⟨by decide +kernel, by decide +kernel⟩, List.mem_of_getElem? (i := 537) (by decide +kernel), List.mem_of_getElem? (i := 728) (by decide +kernel), List.mem_of_getElem? (i := 729) (by decide +kernel)⟩
def lw_privs_1 : List (MethodName × Nat) := [(⟨"SlotHouse", "refuse", "(I)I"⟩, 9), (⟨"SlotHouse", "machineAt", "(I)LSlotHouse$Machine;"⟩, 9), (⟨"SlotHouse", "laneAt", "(II)LSlotHouse$Lane;"⟩, 9), (⟨"SlotHouse$Changer", "coinsOfWay", "(ILSlotHouse$Till;I)I"⟩, 2), (⟨"SlotHouse", "passHour", "()V"⟩, 9), (⟨"SlotHouse$Diary", "rate", "(II)I"⟩, 2), (⟨"SlotHouse$Van", "fillRow", "(ILSlotHouse$Lane;II)V"⟩, 2), (⟨"SlotHouse$Van", "takePieces", "(LSlotHouse$Machine;[II)I"⟩, 2), (⟨"SlotHouse$Van", "mostAtBest", "(ILSlotHouse$Lane;II)I"⟩, 2), (⟨"SlotHouse", "soldOfAll", "()I"⟩, 9), (⟨"SlotHouseModel", "refuse", "(I)I"⟩, 34), (⟨"SlotHouseModel", "isMachine", "(I)Z"⟩, 34), (⟨"SlotHouseModel", "isLane", "(II)Z"⟩, 34), (⟨"SlotHouseModel", "coinsIn", "(I)I"⟩, 34), (⟨"SlotHouseModel", "worthIn", "([II)I"⟩, 34), (⟨"SlotHouseModel", "allBack", "(I)I"⟩, 34)]
theorem lw_r1 : ∀ q ∈ lw_privs_1, lw_okq q := List.forall_mem_cons.mpr ⟨lw_p0, List.forall_mem_cons.mpr ⟨lw_p1, List.forall_mem_cons.mpr ⟨lw_p2, List.forall_mem_cons.mpr ⟨lw_p3, List.forall_mem_cons.mpr ⟨lw_p4, List.forall_mem_cons.mpr ⟨lw_p5, List.forall_mem_cons.mpr ⟨lw_p6, List.forall_mem_cons.mpr ⟨lw_p7, List.forall_mem_cons.mpr ⟨lw_p8, List.forall_mem_cons.mpr ⟨lw_p9, List.forall_mem_cons.mpr ⟨lw_p10, List.forall_mem_cons.mpr ⟨lw_p11, List.forall_mem_cons.mpr ⟨lw_p12, List.forall_mem_cons.mpr ⟨lw_p13, List.forall_mem_cons.mpr ⟨lw_p14, List.forall_mem_cons.mpr ⟨lw_p15, fun _ h => absurd h List.not_mem_nil⟩⟩⟩⟩⟩⟩⟩⟩⟩⟩⟩⟩⟩⟩⟩⟩
theorem lw_p16 : lw_okq (⟨"SlotHouseModel", "findChange", "(II)I"⟩, 34) := ⟨⟨by decide +kernel, by decide +kernel⟩, List.mem_of_getElem? (i := 537) (by decide +kernel), List.mem_of_getElem? (i := 736) (by decide +kernel), List.mem_of_getElem? (i := 737) (by decide +kernel)⟩
theorem lw_p17 : lw_okq (⟨"SlotHouseModel", "sells", "(II)Z"⟩, 34) := ⟨⟨by decide +kernel, by decide +kernel⟩, List.mem_of_getElem? (i := 537) (by decide +kernel), List.mem_of_getElem? (i := 744) (by decide +kernel), List.mem_of_getElem? (i := 745) (by decide +kernel)⟩
theorem lw_p18 : lw_okq (⟨"SlotHouseModel", "nextServes", "(II)Z"⟩, 34) := ⟨⟨by decide +kernel, by decide +kernel⟩, List.mem_of_getElem? (i := 537) (by decide +kernel), List.mem_of_getElem? (i := 748) (by decide +kernel), List.mem_of_getElem? (i := 749) (by decide +kernel)⟩
theorem lw_p19 : lw_okq (⟨"SlotHouseModel", "passOne", "()V"⟩, 34) := ⟨⟨by decide +kernel, by decide +kernel⟩, List.mem_of_getElem? (i := 537) (by decide +kernel), List.mem_of_getElem? (i := 760) (by decide +kernel), List.mem_of_getElem? (i := 761) (by decide +kernel)⟩
theorem lw_p20 : lw_okq (⟨"SlotHouseModel", "rate", "(III)I"⟩, 34) := ⟨⟨by decide +kernel, by decide +kernel⟩, List.mem_of_getElem? (i := 537) (by decide +kernel), List.mem_of_getElem? (i := 772) (by decide +kernel), List.mem_of_getElem? (i := 773) (by decide +kernel)⟩
theorem lw_p21 : lw_okq (⟨"SlotHouseModel", "mayTake", "(II)I"⟩, 34) := ⟨⟨by decide +kernel, by decide +kernel⟩, List.mem_of_getElem? (i := 537) (by decide +kernel), List.mem_of_getElem? (i := 784) (by decide +kernel), List.mem_of_getElem? (i := 785) (by decide +kernel)⟩
theorem lw_p22 : lw_okq (⟨"SlotHouseModel", "sizeAt", "(II)I"⟩, 34) := ⟨⟨by decide +kernel, by decide +kernel⟩, List.mem_of_getElem? (i := 537) (by decide +kernel), List.mem_of_getElem? (i := 788) (by decide +kernel), List.mem_of_getElem? (i := 789) (by decide +kernel)⟩
theorem lw_p23 : lw_okq (⟨"SlotHouseModel", "worthAt", "(III)I"⟩, 34) := ⟨⟨by decide +kernel, by decide +kernel⟩, List.mem_of_getElem? (i := 537) (by decide +kernel), List.mem_of_getElem? (i := 792) (by decide +kernel), List.mem_of_getElem? (i := 793) (by decide +kernel)⟩
def lw_privs_2 : List (MethodName × Nat) := [(⟨"SlotHouseModel", "findChange", "(II)I"⟩, 34), (⟨"SlotHouseModel", "sells", "(II)Z"⟩, 34), (⟨"SlotHouseModel", "nextServes", "(II)Z"⟩, 34), (⟨"SlotHouseModel", "passOne", "()V"⟩, 34), (⟨"SlotHouseModel", "rate", "(III)I"⟩, 34), (⟨"SlotHouseModel", "mayTake", "(II)I"⟩, 34), (⟨"SlotHouseModel", "sizeAt", "(II)I"⟩, 34), (⟨"SlotHouseModel", "worthAt", "(III)I"⟩, 34)]
theorem lw_r2 : ∀ q ∈ lw_privs_2, lw_okq q := List.forall_mem_cons.mpr ⟨lw_p16, List.forall_mem_cons.mpr ⟨lw_p17, List.forall_mem_cons.mpr ⟨lw_p18, List.forall_mem_cons.mpr ⟨lw_p19, List.forall_mem_cons.mpr ⟨lw_p20, List.forall_mem_cons.mpr ⟨lw_p21, List.forall_mem_cons.mpr ⟨lw_p22, List.forall_mem_cons.mpr ⟨lw_p23, fun _ h => absurd h List.not_mem_nil⟩⟩⟩⟩⟩⟩⟩⟩
def lw_privs : List (MethodName × Nat) := lw_privs_1 ++ (lw_privs_2)
def lw_tbl : List Cond := k2_sels lw_privs ++ tables_1
theorem lw_privs_ok : ∀ q ∈ lw_privs, lw_okq q := by
  show ∀ q ∈ lw_privs_1 ++ (lw_privs_2), lw_okq q
  exact List.forall_mem_append.mpr ⟨lw_r1, lw_r2⟩
end
section
def RX0 : String := "SlotHouse$Changer"
def TX0 : u_T := fun k => match k with
  | 0 => ("SlotHouse$Changer", "tried", "[I", true)
  | _ => ("SlotHouse$Changer", "best", "[I", true)
def tyX0 : Nat → FieldType := fun k => match k with
  | 0 => .array .int
  | _ => .array .int
theorem nmX0 : ∀ a, a < 2 → ∀ b, b < 2 → a ≠ b → (TX0 a).2.1 ≠ (TX0 b).2.1 := by decide +kernel
theorem tyX0_ok : ∀ k, k < 2 → parseFieldDescriptor (TX0 k).2.2.1 = some (tyX0 k) := by decide +kernel
abbrev cX0_init : ByteArray := prog_2_method_1_code
def yX0_init : MethodName := ⟨RX0, "<init>", "()V"⟩
abbrev cX0_fewest : ByteArray := prog_2_method_2_code
def yX0_fewest : MethodName := ⟨RX0, "fewest", "(LSlotHouse$Till;I)I"⟩
abbrev cX0_coinsOfWay : ByteArray := prog_2_method_3_code
def yX0_coinsOfWay : MethodName := ⟨RX0, "coinsOfWay", "(ILSlotHouse$Till;I)I"⟩
abbrev cX0_mostOf : ByteArray := prog_2_method_4_code
def yX0_mostOf : MethodName := ⟨RX0, "mostOf", "(III)I"⟩
def RX1 : String := "SlotHouse$Diary"
def TX1 : u_T := fun k => match k with
  | 0 => ("SlotHouse$Diary", "sales", "[I", true)
  | _ => ("SlotHouse$Diary", "hoursThere", "[I", true)
def tyX1 : Nat → FieldType := fun k => match k with
  | 0 => .array .int
  | _ => .array .int
theorem nmX1 : ∀ a, a < 2 → ∀ b, b < 2 → a ≠ b → (TX1 a).2.1 ≠ (TX1 b).2.1 := by decide +kernel
theorem tyX1_ok : ∀ k, k < 2 → parseFieldDescriptor (TX1 k).2.2.1 = some (tyX1 k) := by decide +kernel
abbrev cX1_init : ByteArray := prog_3_method_1_code
def yX1_init : MethodName := ⟨RX1, "<init>", "()V"⟩
abbrev cX1_countSale : ByteArray := prog_3_method_2_code
def yX1_countSale : MethodName := ⟨RX1, "countSale", "(II)V"⟩
abbrev cX1_countThere : ByteArray := prog_3_method_3_code
def yX1_countThere : MethodName := ⟨RX1, "countThere", "(II)V"⟩
abbrev cX1_salesAt : ByteArray := prog_3_method_4_code
def yX1_salesAt : MethodName := ⟨RX1, "salesAt", "(II)I"⟩
abbrev cX1_hoursThereAt : ByteArray := prog_3_method_5_code
def yX1_hoursThereAt : MethodName := ⟨RX1, "hoursThereAt", "(II)I"⟩
abbrev cX1_foretold : ByteArray := prog_3_method_6_code
def yX1_foretold : MethodName := ⟨RX1, "foretold", "(III)I"⟩
abbrev cX1_hoursTill : ByteArray := prog_3_method_7_code
def yX1_hoursTill : MethodName := ⟨RX1, "hoursTill", "(III)I"⟩
abbrev cX1_rate : ByteArray := prog_3_method_8_code
def yX1_rate : MethodName := ⟨RX1, "rate", "(II)I"⟩
def RX2 : String := "SlotHouse$Lane"
def TX2 : u_T := fun k => match k with
  | 0 => ("SlotHouse$Lane", "good", "I", true)
  | 1 => ("SlotHouse$Lane", "depth", "I", true)
  | 2 => ("SlotHouse$Lane", "kind", "I", true)
  | 3 => ("SlotHouse$Lane", "keep", "I", true)
  | 4 => ("SlotHouse$Lane", "price", "I", false)
  | 5 => ("SlotHouse$Lane", "stock", "I", false)
  | 6 => ("SlotHouse$Lane", "sticks", "I", false)
  | 7 => ("SlotHouse$Lane", "misses", "I", false)
  | 8 => ("SlotHouse$Lane", "isShut", "Z", false)
  | _ => ("SlotHouse$Lane", "isSpoiled", "Z", false)
def tyX2 : Nat → FieldType := fun k => match k with
  | 0 => .int
  | 1 => .int
  | 2 => .int
  | 3 => .int
  | 4 => .int
  | 5 => .int
  | 6 => .int
  | 7 => .int
  | 8 => .boolean
  | _ => .boolean
theorem nmX2 : ∀ a, a < 10 → ∀ b, b < 10 → a ≠ b → (TX2 a).2.1 ≠ (TX2 b).2.1 := by decide +kernel
theorem tyX2_ok : ∀ k, k < 10 → parseFieldDescriptor (TX2 k).2.2.1 = some (tyX2 k) := by decide +kernel
abbrev cX2_init : ByteArray := prog_4_method_1_code
def yX2_init : MethodName := ⟨RX2, "<init>", "(IIIII)V"⟩
abbrev cX2_isClosed : ByteArray := prog_4_method_2_code
def yX2_isClosed : MethodName := ⟨RX2, "isClosed", "()Z"⟩
abbrev cX2_miss : ByteArray := prog_4_method_3_code
def yX2_miss : MethodName := ⟨RX2, "miss", "()V"⟩
abbrev cX2_spoilAfter : ByteArray := prog_4_method_4_code
def yX2_spoilAfter : MethodName := ⟨RX2, "spoilAfter", "(I)V"⟩
def RX3 : String := "SlotHouse$Machine"
def TX3 : u_T := fun k => match k with
  | 0 => ("SlotHouse$Machine", "lanes", "[LSlotHouse$Lane;", true)
  | 1 => ("SlotHouse$Machine", "till", "LSlotHouse$Till;", true)
  | 2 => ("SlotHouse$Machine", "diary", "LSlotHouse$Diary;", true)
  | 3 => ("SlotHouse$Machine", "laneCount", "I", false)
  | 4 => ("SlotHouse$Machine", "hasPower", "Z", false)
  | 5 => ("SlotHouse$Machine", "hoursOff", "I", false)
  | 6 => ("SlotHouse$Machine", "shrink", "I", false)
  | 7 => ("SlotHouse$Machine", "waste", "I", false)
  | 8 => ("SlotHouse$Machine", "sold", "I", false)
  | _ => ("SlotHouse$Machine", "filled", "I", false)
def tyX3 : Nat → FieldType := fun k => match k with
  | 0 => .array (.object "SlotHouse$Lane")
  | 1 => .object "SlotHouse$Till"
  | 2 => .object "SlotHouse$Diary"
  | 3 => .int
  | 4 => .boolean
  | 5 => .int
  | 6 => .int
  | 7 => .int
  | 8 => .int
  | _ => .int
theorem nmX3 : ∀ a, a < 10 → ∀ b, b < 10 → a ≠ b → (TX3 a).2.1 ≠ (TX3 b).2.1 := by decide +kernel
theorem tyX3_ok : ∀ k, k < 10 → parseFieldDescriptor (TX3 k).2.2.1 = some (tyX3 k) := by decide +kernel
abbrev cX3_init : ByteArray := prog_5_method_1_code
def yX3_init : MethodName := ⟨RX3, "<init>", "()V"⟩
abbrev cX3_isFull : ByteArray := prog_5_method_2_code
def yX3_isFull : MethodName := ⟨RX3, "isFull", "()Z"⟩
abbrev cX3_addLane : ByteArray := prog_5_method_3_code
def yX3_addLane : MethodName := ⟨RX3, "addLane", "(LSlotHouse$Lane;)I"⟩
abbrev cX3_laneNumbered : ByteArray := prog_5_method_4_code
def yX3_laneNumbered : MethodName := ⟨RX3, "laneNumbered", "(I)LSlotHouse$Lane;"⟩
abbrev cX3_sourceOf : ByteArray := prog_5_method_5_code
def yX3_sourceOf : MethodName := ⟨RX3, "sourceOf", "(I)LSlotHouse$Lane;"⟩
abbrev cX3_stockOf : ByteArray := prog_5_method_6_code
def yX3_stockOf : MethodName := ⟨RX3, "stockOf", "(I)I"⟩
abbrev cX3_noteThere : ByteArray := prog_5_method_7_code
def yX3_noteThere : MethodName := ⟨RX3, "noteThere", "(I)V"⟩
abbrev cX3_passHourOfPower : ByteArray := prog_5_method_8_code
def yX3_passHourOfPower : MethodName := ⟨RX3, "passHourOfPower", "()V"⟩
abbrev cX3_goodsAgree : ByteArray := prog_5_method_9_code
def yX3_goodsAgree : MethodName := ⟨RX3, "goodsAgree", "()Z"⟩
def RX4 : String := "SlotHouse$Till"
def TX4 : u_T := fun k => match k with
  | 0 => ("SlotHouse$Till", "tubes", "[I", true)
  | 1 => ("SlotHouse$Till", "box", "[I", true)
  | 2 => ("SlotHouse$Till", "in", "[I", true)
  | 3 => ("SlotHouse$Till", "came", "[I", true)
  | 4 => ("SlotHouse$Till", "wentBack", "[I", true)
  | 5 => ("SlotHouse$Till", "wentAsChange", "[I", true)
  | 6 => ("SlotHouse$Till", "collected", "[I", true)
  | _ => ("SlotHouse$Till", "coinsIn", "I", false)
def tyX4 : Nat → FieldType := fun k => match k with
  | 0 => .array .int
  | 1 => .array .int
  | 2 => .array .int
  | 3 => .array .int
  | 4 => .array .int
  | 5 => .array .int
  | 6 => .array .int
  | _ => .int
theorem nmX4 : ∀ a, a < 8 → ∀ b, b < 8 → a ≠ b → (TX4 a).2.1 ≠ (TX4 b).2.1 := by decide +kernel
theorem tyX4_ok : ∀ k, k < 8 → parseFieldDescriptor (TX4 k).2.2.1 = some (tyX4 k) := by decide +kernel
abbrev cX4_init : ByteArray := prog_6_method_1_code
def yX4_init : MethodName := ⟨RX4, "<init>", "()V"⟩
abbrev cX4_addToTube : ByteArray := prog_6_method_2_code
def yX4_addToTube : MethodName := ⟨RX4, "addToTube", "(II)V"⟩
abbrev cX4_takeIn : ByteArray := prog_6_method_3_code
def yX4_takeIn : MethodName := ⟨RX4, "takeIn", "(I)V"⟩
abbrev cX4_giveBack : ByteArray := prog_6_method_4_code
def yX4_giveBack : MethodName := ⟨RX4, "giveBack", "()I"⟩
abbrev cX4_settle : ByteArray := prog_6_method_5_code
def yX4_settle : MethodName := ⟨RX4, "settle", "([I)V"⟩
abbrev cX4_emptyBox : ByteArray := prog_6_method_6_code
def yX4_emptyBox : MethodName := ⟨RX4, "emptyBox", "()I"⟩
abbrev cX4_coinsAgree : ByteArray := prog_6_method_7_code
def yX4_coinsAgree : MethodName := ⟨RX4, "coinsAgree", "()Z"⟩
def RX5 : String := "SlotHouse$Van"
def TX5 : u_T := fun k => match k with
  | 0 => ("SlotHouse$Van", "best", "[[I", true)
  | _ => ("SlotHouse$Van", "pieces", "[I", true)
def tyX5 : Nat → FieldType := fun k => match k with
  | 0 => .array (.array .int)
  | _ => .array .int
theorem nmX5 : ∀ a, a < 2 → ∀ b, b < 2 → a ≠ b → (TX5 a).2.1 ≠ (TX5 b).2.1 := by decide +kernel
theorem tyX5_ok : ∀ k, k < 2 → parseFieldDescriptor (TX5 k).2.2.1 = some (tyX5 k) := by decide +kernel
abbrev cX5_init : ByteArray := prog_7_method_1_code
def yX5_init : MethodName := ⟨RX5, "<init>", "()V"⟩
abbrev cX5_plan : ByteArray := prog_7_method_2_code
def yX5_plan : MethodName := ⟨RX5, "plan", "(LSlotHouse$Machine;[II)I"⟩
abbrev cX5_piecesFor : ByteArray := prog_7_method_3_code
def yX5_piecesFor : MethodName := ⟨RX5, "piecesFor", "(I)I"⟩
abbrev cX5_fillRow : ByteArray := prog_7_method_4_code
def yX5_fillRow : MethodName := ⟨RX5, "fillRow", "(ILSlotHouse$Lane;II)V"⟩
abbrev cX5_takePieces : ByteArray := prog_7_method_5_code
def yX5_takePieces : MethodName := ⟨RX5, "takePieces", "(LSlotHouse$Machine;[II)I"⟩
abbrev cX5_mostAtBest : ByteArray := prog_7_method_6_code
def yX5_mostAtBest : MethodName := ⟨RX5, "mostAtBest", "(ILSlotHouse$Lane;II)I"⟩
abbrev cX5_spaceIn : ByteArray := prog_7_method_7_code
def yX5_spaceIn : MethodName := ⟨RX5, "spaceIn", "(LSlotHouse$Lane;)I"⟩
abbrev cX5_gainOf : ByteArray := prog_7_method_8_code
def yX5_gainOf : MethodName := ⟨RX5, "gainOf", "(LSlotHouse$Lane;I)I"⟩
def RX6 : String := "SlotHouse"
def TX6 : u_T := fun k => match k with
  | 0 => ("SlotHouse", "machines", "[LSlotHouse$Machine;", true)
  | 1 => ("SlotHouse", "sizes", "[I", true)
  | 2 => ("SlotHouse", "refusals", "[I", true)
  | 3 => ("SlotHouse", "latestGiven", "[I", true)
  | 4 => ("SlotHouse", "changer", "LSlotHouse$Changer;", true)
  | 5 => ("SlotHouse", "van", "LSlotHouse$Van;", true)
  | 6 => ("SlotHouse", "machineCount", "I", false)
  | 7 => ("SlotHouse", "hour", "I", false)
  | _ => ("SlotHouse", "misfalls", "I", false)
def tyX6 : Nat → FieldType := fun k => match k with
  | 0 => .array (.object "SlotHouse$Machine")
  | 1 => .array .int
  | 2 => .array .int
  | 3 => .array .int
  | 4 => .object "SlotHouse$Changer"
  | 5 => .object "SlotHouse$Van"
  | 6 => .int
  | 7 => .int
  | _ => .int
theorem nmX6 : ∀ a, a < 9 → ∀ b, b < 9 → a ≠ b → (TX6 a).2.1 ≠ (TX6 b).2.1 := by decide +kernel
theorem tyX6_ok : ∀ k, k < 9 → parseFieldDescriptor (TX6 k).2.2.1 = some (tyX6 k) := by decide +kernel
abbrev cX6_init : ByteArray := prog_1_method_1_code
def yX6_init : MethodName := ⟨RX6, "<init>", "()V"⟩
abbrev cX6_machine : ByteArray := prog_1_method_2_code
def yX6_machine : MethodName := ⟨RX6, "machine", "()I"⟩
abbrev cX6_lane : ByteArray := prog_1_method_3_code
def yX6_lane : MethodName := ⟨RX6, "lane", "(IIIIII)I"⟩
abbrev cX6_size : ByteArray := prog_1_method_4_code
def yX6_size : MethodName := ⟨RX6, "size", "(II)I"⟩
abbrev cX6_price : ByteArray := prog_1_method_5_code
def yX6_price : MethodName := ⟨RX6, "price", "(III)I"⟩
abbrev cX6_tube : ByteArray := prog_1_method_6_code
def yX6_tube : MethodName := ⟨RX6, "tube", "(III)I"⟩
abbrev cX6_stick : ByteArray := prog_1_method_7_code
def yX6_stick : MethodName := ⟨RX6, "stick", "(III)I"⟩
abbrev cX6_shut : ByteArray := prog_1_method_8_code
def yX6_shut : MethodName := ⟨RX6, "shut", "(IIZ)Z"⟩
abbrev cX6_power : ByteArray := prog_1_method_9_code
def yX6_power : MethodName := ⟨RX6, "power", "(IZ)Z"⟩
abbrev cX6_fill : ByteArray := prog_1_method_10_code
def yX6_fill : MethodName := ⟨RX6, "fill", "(III)I"⟩
abbrev cX6_found : ByteArray := prog_1_method_11_code
def yX6_found : MethodName := ⟨RX6, "found", "(III)I"⟩
abbrev cX6_empty : ByteArray := prog_1_method_12_code
def yX6_empty : MethodName := ⟨RX6, "empty", "(II)I"⟩
abbrev cX6_insert : ByteArray := prog_1_method_13_code
def yX6_insert : MethodName := ⟨RX6, "insert", "(II)I"⟩
abbrev cX6_back : ByteArray := prog_1_method_14_code
def yX6_back : MethodName := ⟨RX6, "back", "(I)I"⟩
abbrev cX6_choose : ByteArray := prog_1_method_15_code
def yX6_choose : MethodName := ⟨RX6, "choose", "(II)I"⟩
abbrev cX6_given : ByteArray := prog_1_method_16_code
def yX6_given : MethodName := ⟨RX6, "given", "(I)I"⟩
abbrev cX6_change : ByteArray := prog_1_method_17_code
def yX6_change : MethodName := ⟨RX6, "change", "(II)I"⟩
abbrev cX6_hours : ByteArray := prog_1_method_18_code
def yX6_hours : MethodName := ⟨RX6, "hours", "(I)I"⟩
abbrev cX6_counted : ByteArray := prog_1_method_19_code
def yX6_counted : MethodName := ⟨RX6, "counted", "(IIII)I"⟩
abbrev cX6_foretell : ByteArray := prog_1_method_20_code
def yX6_foretell : MethodName := ⟨RX6, "foretell", "(III)I"⟩
abbrev cX6_when : ByteArray := prog_1_method_21_code
def yX6_when : MethodName := ⟨RX6, "when", "(II)I"⟩
abbrev cX6_load : ByteArray := prog_1_method_22_code
def yX6_load : MethodName := ⟨RX6, "load", "(II)I"⟩
abbrev cX6_loaded : ByteArray := prog_1_method_23_code
def yX6_loaded : MethodName := ⟨RX6, "loaded", "(I)I"⟩
abbrev cX6_laneOf : ByteArray := prog_1_method_24_code
def yX6_laneOf : MethodName := ⟨RX6, "laneOf", "(III)I"⟩
abbrev cX6_machineOf : ByteArray := prog_1_method_25_code
def yX6_machineOf : MethodName := ⟨RX6, "machineOf", "(II)I"⟩
abbrev cX6_tubeOf : ByteArray := prog_1_method_26_code
def yX6_tubeOf : MethodName := ⟨RX6, "tubeOf", "(II)I"⟩
abbrev cX6_collect : ByteArray := prog_1_method_27_code
def yX6_collect : MethodName := ⟨RX6, "collect", "(I)I"⟩
abbrev cX6_check : ByteArray := prog_1_method_28_code
def yX6_check : MethodName := ⟨RX6, "check", "(I)Z"⟩
abbrev cX6_count : ByteArray := prog_1_method_29_code
def yX6_count : MethodName := ⟨RX6, "count", "(I)I"⟩
abbrev cX6_refuse : ByteArray := prog_1_method_30_code
def yX6_refuse : MethodName := ⟨RX6, "refuse", "(I)I"⟩
abbrev cX6_machineAt : ByteArray := prog_1_method_31_code
def yX6_machineAt : MethodName := ⟨RX6, "machineAt", "(I)LSlotHouse$Machine;"⟩
abbrev cX6_laneAt : ByteArray := prog_1_method_32_code
def yX6_laneAt : MethodName := ⟨RX6, "laneAt", "(II)LSlotHouse$Lane;"⟩
abbrev cX6_passHour : ByteArray := prog_1_method_33_code
def yX6_passHour : MethodName := ⟨RX6, "passHour", "()V"⟩
abbrev cX6_soldOfAll : ByteArray := prog_1_method_34_code
def yX6_soldOfAll : MethodName := ⟨RX6, "soldOfAll", "()I"⟩
abbrev cX6_isGood : ByteArray := prog_1_method_35_code
def yX6_isGood : MethodName := ⟨RX6, "isGood", "(I)Z"⟩
abbrev cX6_isWorth : ByteArray := prog_1_method_36_code
def yX6_isWorth : MethodName := ⟨RX6, "isWorth", "(I)Z"⟩
abbrev cX6_isPriceBelow : ByteArray := prog_1_method_37_code
def yX6_isPriceBelow : MethodName := ⟨RX6, "isPriceBelow", "(I)Z"⟩
abbrev cX6_worthOf : ByteArray := prog_1_method_38_code
def yX6_worthOf : MethodName := ⟨RX6, "worthOf", "([I)I"⟩
def RX7 : String := "SlotHouseModel"
def TX7 : u_T := fun k => match k with
  | 0 => ("SlotHouseModel", "hour", "I", false)
  | 1 => ("SlotHouseModel", "machines", "I", false)
  | 2 => ("SlotHouseModel", "lanes", "[I", true)
  | 3 => ("SlotHouseModel", "tubes", "[I", true)
  | 4 => ("SlotHouseModel", "box", "[I", true)
  | 5 => ("SlotHouseModel", "inside", "[I", true)
  | 6 => ("SlotHouseModel", "came", "[I", true)
  | 7 => ("SlotHouseModel", "went", "[I", true)
  | 8 => ("SlotHouseModel", "off", "[Z", true)
  | 9 => ("SlotHouseModel", "offHours", "[I", true)
  | 10 => ("SlotHouseModel", "good", "[I", true)
  | 11 => ("SlotHouseModel", "price", "[I", true)
  | 12 => ("SlotHouseModel", "depth", "[I", true)
  | 13 => ("SlotHouseModel", "stock", "[I", true)
  | 14 => ("SlotHouseModel", "kind", "[I", true)
  | 15 => ("SlotHouseModel", "keep", "[I", true)
  | 16 => ("SlotHouseModel", "sticks", "[I", true)
  | 17 => ("SlotHouseModel", "misses", "[I", true)
  | 18 => ("SlotHouseModel", "isShut", "[Z", true)
  | 19 => ("SlotHouseModel", "isSpoiled", "[Z", true)
  | 20 => ("SlotHouseModel", "sizes", "[I", true)
  | 21 => ("SlotHouseModel", "sold", "[I", true)
  | 22 => ("SlotHouseModel", "there", "[I", true)
  | 23 => ("SlotHouseModel", "shrink", "[I", true)
  | 24 => ("SlotHouseModel", "waste", "[I", true)
  | 25 => ("SlotHouseModel", "fell", "[I", true)
  | 26 => ("SlotHouseModel", "filled", "[I", true)
  | 27 => ("SlotHouseModel", "missed", "I", false)
  | 28 => ("SlotHouseModel", "given", "[I", true)
  | 29 => ("SlotHouseModel", "loads", "[I", true)
  | 30 => ("SlotHouseModel", "refused", "[I", true)
  | 31 => ("SlotHouseModel", "fewest", "[I", true)
  | 32 => ("SlotHouseModel", "chosen", "[I", true)
  | _ => ("SlotHouseModel", "best", "[I", true)
def tyX7 : Nat → FieldType := fun k => match k with
  | 0 => .int
  | 1 => .int
  | 2 => .array .int
  | 3 => .array .int
  | 4 => .array .int
  | 5 => .array .int
  | 6 => .array .int
  | 7 => .array .int
  | 8 => .array .boolean
  | 9 => .array .int
  | 10 => .array .int
  | 11 => .array .int
  | 12 => .array .int
  | 13 => .array .int
  | 14 => .array .int
  | 15 => .array .int
  | 16 => .array .int
  | 17 => .array .int
  | 18 => .array .boolean
  | 19 => .array .boolean
  | 20 => .array .int
  | 21 => .array .int
  | 22 => .array .int
  | 23 => .array .int
  | 24 => .array .int
  | 25 => .array .int
  | 26 => .array .int
  | 27 => .int
  | 28 => .array .int
  | 29 => .array .int
  | 30 => .array .int
  | 31 => .array .int
  | 32 => .array .int
  | _ => .array .int
theorem nmX7 : ∀ a, a < 34 → ∀ b, b < 34 → a ≠ b → (TX7 a).2.1 ≠ (TX7 b).2.1 := by decide +kernel
theorem tyX7_ok : ∀ k, k < 34 → parseFieldDescriptor (TX7 k).2.2.1 = some (tyX7 k) := by decide +kernel
abbrev cX7_init : ByteArray := prog_9_method_1_code
def yX7_init : MethodName := ⟨RX7, "<init>", "()V"⟩
abbrev cX7_in : ByteArray := prog_9_method_3_code
def yX7_in : MethodName := ⟨RX7, "in", "(III)Z"⟩
abbrev cX7_refuse : ByteArray := prog_9_method_4_code
def yX7_refuse : MethodName := ⟨RX7, "refuse", "(I)I"⟩
abbrev cX7_worthOf : ByteArray := prog_9_method_5_code
def yX7_worthOf : MethodName := ⟨RX7, "worthOf", "(I)I"⟩
abbrev cX7_isMachine : ByteArray := prog_9_method_6_code
def yX7_isMachine : MethodName := ⟨RX7, "isMachine", "(I)Z"⟩
abbrev cX7_isLane : ByteArray := prog_9_method_7_code
def yX7_isLane : MethodName := ⟨RX7, "isLane", "(II)Z"⟩
abbrev cX7_machine : ByteArray := prog_9_method_8_code
def yX7_machine : MethodName := ⟨RX7, "machine", "()I"⟩
abbrev cX7_isBelow : ByteArray := prog_9_method_9_code
def yX7_isBelow : MethodName := ⟨RX7, "isBelow", "(I)Z"⟩
abbrev cX7_lane : ByteArray := prog_9_method_10_code
def yX7_lane : MethodName := ⟨RX7, "lane", "(IIIIII)I"⟩
abbrev cX7_size : ByteArray := prog_9_method_11_code
def yX7_size : MethodName := ⟨RX7, "size", "(II)I"⟩
abbrev cX7_price : ByteArray := prog_9_method_12_code
def yX7_price : MethodName := ⟨RX7, "price", "(III)I"⟩
abbrev cX7_tube : ByteArray := prog_9_method_13_code
def yX7_tube : MethodName := ⟨RX7, "tube", "(III)I"⟩
abbrev cX7_stick : ByteArray := prog_9_method_14_code
def yX7_stick : MethodName := ⟨RX7, "stick", "(III)I"⟩
abbrev cX7_shut : ByteArray := prog_9_method_15_code
def yX7_shut : MethodName := ⟨RX7, "shut", "(IIZ)Z"⟩
abbrev cX7_power : ByteArray := prog_9_method_16_code
def yX7_power : MethodName := ⟨RX7, "power", "(IZ)Z"⟩
abbrev cX7_fill : ByteArray := prog_9_method_17_code
def yX7_fill : MethodName := ⟨RX7, "fill", "(III)I"⟩
abbrev cX7_found : ByteArray := prog_9_method_18_code
def yX7_found : MethodName := ⟨RX7, "found", "(III)I"⟩
abbrev cX7_empty : ByteArray := prog_9_method_19_code
def yX7_empty : MethodName := ⟨RX7, "empty", "(II)I"⟩
abbrev cX7_nextServes : ByteArray := prog_9_method_20_code
def yX7_nextServes : MethodName := ⟨RX7, "nextServes", "(II)Z"⟩
abbrev cX7_sells : ByteArray := prog_9_method_21_code
def yX7_sells : MethodName := ⟨RX7, "sells", "(II)Z"⟩
abbrev cX7_worthIn : ByteArray := prog_9_method_22_code
def yX7_worthIn : MethodName := ⟨RX7, "worthIn", "([II)I"⟩
abbrev cX7_coinsIn : ByteArray := prog_9_method_23_code
def yX7_coinsIn : MethodName := ⟨RX7, "coinsIn", "(I)I"⟩
abbrev cX7_insert : ByteArray := prog_9_method_24_code
def yX7_insert : MethodName := ⟨RX7, "insert", "(II)I"⟩
abbrev cX7_allBack : ByteArray := prog_9_method_25_code
def yX7_allBack : MethodName := ⟨RX7, "allBack", "(I)I"⟩
abbrev cX7_back : ByteArray := prog_9_method_26_code
def yX7_back : MethodName := ⟨RX7, "back", "(I)I"⟩
abbrev cX7_findChange : ByteArray := prog_9_method_27_code
def yX7_findChange : MethodName := ⟨RX7, "findChange", "(II)I"⟩
abbrev cX7_change : ByteArray := prog_9_method_28_code
def yX7_change : MethodName := ⟨RX7, "change", "(II)I"⟩
abbrev cX7_choose : ByteArray := prog_9_method_29_code
def yX7_choose : MethodName := ⟨RX7, "choose", "(II)I"⟩
abbrev cX7_given : ByteArray := prog_9_method_30_code
def yX7_given : MethodName := ⟨RX7, "given", "(I)I"⟩
abbrev cX7_passOne : ByteArray := prog_9_method_31_code
def yX7_passOne : MethodName := ⟨RX7, "passOne", "()V"⟩
abbrev cX7_hours : ByteArray := prog_9_method_32_code
def yX7_hours : MethodName := ⟨RX7, "hours", "(I)I"⟩
abbrev cX7_counted : ByteArray := prog_9_method_33_code
def yX7_counted : MethodName := ⟨RX7, "counted", "(IIII)I"⟩
abbrev cX7_rate : ByteArray := prog_9_method_34_code
def yX7_rate : MethodName := ⟨RX7, "rate", "(III)I"⟩
abbrev cX7_foretell : ByteArray := prog_9_method_35_code
def yX7_foretell : MethodName := ⟨RX7, "foretell", "(III)I"⟩
abbrev cX7_when : ByteArray := prog_9_method_36_code
def yX7_when : MethodName := ⟨RX7, "when", "(II)I"⟩
abbrev cX7_load : ByteArray := prog_9_method_37_code
def yX7_load : MethodName := ⟨RX7, "load", "(II)I"⟩
abbrev cX7_mayTake : ByteArray := prog_9_method_38_code
def yX7_mayTake : MethodName := ⟨RX7, "mayTake", "(II)I"⟩
abbrev cX7_sizeAt : ByteArray := prog_9_method_39_code
def yX7_sizeAt : MethodName := ⟨RX7, "sizeAt", "(II)I"⟩
abbrev cX7_worthAt : ByteArray := prog_9_method_40_code
def yX7_worthAt : MethodName := ⟨RX7, "worthAt", "(III)I"⟩
abbrev cX7_loaded : ByteArray := prog_9_method_41_code
def yX7_loaded : MethodName := ⟨RX7, "loaded", "(I)I"⟩
abbrev cX7_laneOf : ByteArray := prog_9_method_42_code
def yX7_laneOf : MethodName := ⟨RX7, "laneOf", "(III)I"⟩
abbrev cX7_machineOf : ByteArray := prog_9_method_43_code
def yX7_machineOf : MethodName := ⟨RX7, "machineOf", "(II)I"⟩
abbrev cX7_tubeOf : ByteArray := prog_9_method_44_code
def yX7_tubeOf : MethodName := ⟨RX7, "tubeOf", "(II)I"⟩
abbrev cX7_collect : ByteArray := prog_9_method_45_code
def yX7_collect : MethodName := ⟨RX7, "collect", "(I)I"⟩
abbrev cX7_check : ByteArray := prog_9_method_46_code
def yX7_check : MethodName := ⟨RX7, "check", "(I)Z"⟩
abbrev cX7_count : ByteArray := prog_9_method_47_code
def yX7_count : MethodName := ⟨RX7, "count", "(I)I"⟩
def RJ9 : String := "java/lang/Math"
def TJ9 : u_T := fun k => match k with
  | _ => ("", "", "", false)
def tyJ9 : Nat → FieldType := fun k => match k with
  | _ => .int
theorem nmJ9 : ∀ a, a < 0 → ∀ b, b < 0 → a ≠ b → (TJ9 a).2.1 ≠ (TJ9 b).2.1 := by decide +kernel
theorem tyJ9_ok : ∀ k, k < 0 → parseFieldDescriptor (TJ9 k).2.2.1 = some (tyJ9 k) := by decide +kernel
abbrev cJ9_max_7cf53 : ByteArray := prog_10_method_65_code
def yJ9_max_7cf53 : MethodName := ⟨RJ9, "max", "(II)I"⟩
abbrev cJ9_min_7cf53 : ByteArray := prog_10_method_69_code
def yJ9_min_7cf53 : MethodName := ⟨RJ9, "min", "(II)I"⟩
def RJ10 : String := "java/lang/System"
def TJ10 : u_T := fun k => match k with
  | _ => ("", "", "", false)
def tyJ10 : Nat → FieldType := fun k => match k with
  | _ => .int
theorem nmJ10 : ∀ a, a < 0 → ∀ b, b < 0 → a ≠ b → (TJ10 a).2.1 ≠ (TJ10 b).2.1 := by decide +kernel
theorem tyJ10_ok : ∀ k, k < 0 → parseFieldDescriptor (TJ10 k).2.2.1 = some (tyJ10 k) := by decide +kernel
def RJ7 : String := "java/util/Arrays"
def TJ7 : u_T := fun k => match k with
  | _ => ("", "", "", false)
def tyJ7 : Nat → FieldType := fun k => match k with
  | _ => .int
theorem nmJ7 : ∀ a, a < 0 → ∀ b, b < 0 → a ≠ b → (TJ7 a).2.1 ≠ (TJ7 b).2.1 := by decide +kernel
theorem tyJ7_ok : ∀ k, k < 0 → parseFieldDescriptor (TJ7 k).2.2.1 = some (tyJ7 k) := by decide +kernel
abbrev cJ7_fill_53178 : ByteArray := prog_12_method_103_code
def yJ7_fill_53178 : MethodName := ⟨RJ7, "fill", "([II)V"⟩
def RL : String := "SlotHouseLaw"
abbrev cL_law : ByteArray := code
def yL_law : MethodName := ⟨RL, "law", "([I)Z"⟩
abbrev vwCl : List vw_C := [(RX0, TX0, 2), (RX1, TX1, 2), (RX2, TX2, 10), (RX3, TX3, 10), (RX4, TX4, 8), (RX5, TX5, 2), (RX6, TX6, 9), (RX7, TX7, 34)]
end
section
theorem dX0_init_0 : decode cX0_init 0 = .ok (.aload_n 0, 1) := by decide +kernel
theorem dX0_init_1 : decode cX0_init 1 = .ok (.invokespecial 3, 3) := by decide +kernel
theorem dX0_init_4 : decode cX0_init 4 = .ok (.aload_n 0, 1) := by decide +kernel
theorem dX0_init_5 : decode cX0_init 5 = .ok (.getstatic 9, 3) := by decide +kernel
theorem dX0_init_8 : decode cX0_init 8 = .ok (.arraylength, 1) := by decide +kernel
theorem dX0_init_9 : decode cX0_init 9 = .ok (.newarray .int, 2) := by decide +kernel
theorem dX0_init_11 : decode cX0_init 11 = .ok (.putfield 13, 3) := by decide +kernel
theorem dX0_init_14 : decode cX0_init 14 = .ok (.aload_n 0, 1) := by decide +kernel
theorem dX0_init_15 : decode cX0_init 15 = .ok (.getstatic 9, 3) := by decide +kernel
theorem dX0_init_18 : decode cX0_init 18 = .ok (.arraylength, 1) := by decide +kernel
theorem dX0_init_19 : decode cX0_init 19 = .ok (.newarray .int, 2) := by decide +kernel
theorem dX0_init_21 : decode cX0_init 21 = .ok (.putfield 18, 3) := by decide +kernel
theorem dX0_init_24 : decode cX0_init 24 = .ok (.return_, 1) := by decide +kernel
theorem dX0_fewest_0 : decode cX0_fewest 0 = .ok (.bipush (-9), 2) := by decide +kernel
theorem dX0_fewest_2 : decode cX0_fewest 2 = .ok (.istore_n 3, 1) := by decide +kernel
theorem dX0_fewest_3 : decode cX0_fewest 3 = .ok (.iconst 0, 1) := by decide +kernel
theorem dX0_fewest_4 : decode cX0_fewest 4 = .ok (.istore 4, 2) := by decide +kernel
theorem dX0_fewest_6 : decode cX0_fewest 6 = .ok (.iload 4, 2) := by decide +kernel
theorem dX0_fewest_8 : decode cX0_fewest 8 = .ok (.bipush 16, 2) := by decide +kernel
theorem dX0_fewest_10 : decode cX0_fewest 10 = .ok (.if_icmp .ge 59, 3) := by decide +kernel
theorem dX0_fewest_13 : decode cX0_fewest 13 = .ok (.aload_n 0, 1) := by decide +kernel
theorem dX0_fewest_14 : decode cX0_fewest 14 = .ok (.iload 4, 2) := by decide +kernel
theorem dX0_fewest_16 : decode cX0_fewest 16 = .ok (.aload_n 1, 1) := by decide +kernel
theorem dX0_fewest_17 : decode cX0_fewest 17 = .ok (.iload_n 2, 1) := by decide +kernel
theorem dX0_fewest_18 : decode cX0_fewest 18 = .ok (.invokevirtual 21, 3) := by decide +kernel
theorem dX0_fewest_21 : decode cX0_fewest 21 = .ok (.istore 5, 2) := by decide +kernel
theorem dX0_fewest_23 : decode cX0_fewest 23 = .ok (.iload 5, 2) := by decide +kernel
theorem dX0_fewest_25 : decode cX0_fewest 25 = .ok (.bipush (-9), 2) := by decide +kernel
theorem dX0_fewest_27 : decode cX0_fewest 27 = .ok (.if_icmp .eq 36, 3) := by decide +kernel
theorem dX0_fewest_30 : decode cX0_fewest 30 = .ok (.iload_n 3, 1) := by decide +kernel
theorem dX0_fewest_31 : decode cX0_fewest 31 = .ok (.bipush (-9), 2) := by decide +kernel
theorem dX0_fewest_33 : decode cX0_fewest 33 = .ok (.if_icmp .eq 9, 3) := by decide +kernel
theorem dX0_fewest_36 : decode cX0_fewest 36 = .ok (.iload 5, 2) := by decide +kernel
theorem dX0_fewest_38 : decode cX0_fewest 38 = .ok (.iload_n 3, 1) := by decide +kernel
theorem dX0_fewest_39 : decode cX0_fewest 39 = .ok (.if_icmp .ge 24, 3) := by decide +kernel
theorem dX0_fewest_42 : decode cX0_fewest 42 = .ok (.iload 5, 2) := by decide +kernel
theorem dX0_fewest_44 : decode cX0_fewest 44 = .ok (.istore_n 3, 1) := by decide +kernel
theorem dX0_fewest_45 : decode cX0_fewest 45 = .ok (.aload_n 0, 1) := by decide +kernel
theorem dX0_fewest_46 : decode cX0_fewest 46 = .ok (.getfield 13, 3) := by decide +kernel
theorem dX0_fewest_49 : decode cX0_fewest 49 = .ok (.iconst 0, 1) := by decide +kernel
theorem dX0_fewest_50 : decode cX0_fewest 50 = .ok (.aload_n 0, 1) := by decide +kernel
theorem dX0_fewest_51 : decode cX0_fewest 51 = .ok (.getfield 18, 3) := by decide +kernel
theorem dX0_fewest_54 : decode cX0_fewest 54 = .ok (.iconst 0, 1) := by decide +kernel
theorem dX0_fewest_55 : decode cX0_fewest 55 = .ok (.aload_n 0, 1) := by decide +kernel
theorem dX0_fewest_56 : decode cX0_fewest 56 = .ok (.getfield 18, 3) := by decide +kernel
theorem dX0_fewest_59 : decode cX0_fewest 59 = .ok (.arraylength, 1) := by decide +kernel
theorem dX0_fewest_60 : decode cX0_fewest 60 = .ok (.invokestatic 25, 3) := by decide +kernel
theorem dX0_fewest_63 : decode cX0_fewest 63 = .ok (.iinc 4 1, 3) := by decide +kernel
theorem dX0_fewest_66 : decode cX0_fewest 66 = .ok (.goto (-60), 3) := by decide +kernel
theorem dX0_fewest_69 : decode cX0_fewest 69 = .ok (.iload_n 3, 1) := by decide +kernel
theorem dX0_fewest_70 : decode cX0_fewest 70 = .ok (.ireturn, 1) := by decide +kernel
theorem dX0_coinsOfWay_0 : decode cX0_coinsOfWay 0 = .ok (.iload_n 3, 1) := by decide +kernel
theorem dX0_coinsOfWay_1 : decode cX0_coinsOfWay 1 = .ok (.istore 4, 2) := by decide +kernel
theorem dX0_coinsOfWay_3 : decode cX0_coinsOfWay 3 = .ok (.iconst 0, 1) := by decide +kernel
theorem dX0_coinsOfWay_4 : decode cX0_coinsOfWay 4 = .ok (.istore 5, 2) := by decide +kernel
theorem dX0_coinsOfWay_6 : decode cX0_coinsOfWay 6 = .ok (.iconst 0, 1) := by decide +kernel
theorem dX0_coinsOfWay_7 : decode cX0_coinsOfWay 7 = .ok (.istore 6, 2) := by decide +kernel
theorem dX0_coinsOfWay_9 : decode cX0_coinsOfWay 9 = .ok (.iload 6, 2) := by decide +kernel
theorem dX0_coinsOfWay_11 : decode cX0_coinsOfWay 11 = .ok (.aload_n 0, 1) := by decide +kernel
theorem dX0_coinsOfWay_12 : decode cX0_coinsOfWay 12 = .ok (.getfield 13, 3) := by decide +kernel
theorem dX0_coinsOfWay_15 : decode cX0_coinsOfWay 15 = .ok (.arraylength, 1) := by decide +kernel
theorem dX0_coinsOfWay_16 : decode cX0_coinsOfWay 16 = .ok (.if_icmp .ge 107, 3) := by decide +kernel
theorem dX0_coinsOfWay_19 : decode cX0_coinsOfWay 19 = .ok (.iload 6, 2) := by decide +kernel
theorem dX0_coinsOfWay_21 : decode cX0_coinsOfWay 21 = .ok (.getstatic 9, 3) := by decide +kernel
theorem dX0_coinsOfWay_24 : decode cX0_coinsOfWay 24 = .ok (.arraylength, 1) := by decide +kernel
theorem dX0_coinsOfWay_25 : decode cX0_coinsOfWay 25 = .ok (.if_icmp .ge 98, 3) := by decide +kernel
theorem dX0_coinsOfWay_28 : decode cX0_coinsOfWay 28 = .ok (.iload 6, 2) := by decide +kernel
theorem dX0_coinsOfWay_30 : decode cX0_coinsOfWay 30 = .ok (.iconst 4, 1) := by decide +kernel
theorem dX0_coinsOfWay_31 : decode cX0_coinsOfWay 31 = .ok (.if_icmp .ge 14, 3) := by decide +kernel
theorem dX0_coinsOfWay_34 : decode cX0_coinsOfWay 34 = .ok (.iload_n 1, 1) := by decide +kernel
theorem dX0_coinsOfWay_35 : decode cX0_coinsOfWay 35 = .ok (.iconst 3, 1) := by decide +kernel
theorem dX0_coinsOfWay_36 : decode cX0_coinsOfWay 36 = .ok (.iload 6, 2) := by decide +kernel
theorem dX0_coinsOfWay_38 : decode cX0_coinsOfWay 38 = .ok (.isub, 1) := by decide +kernel
theorem dX0_coinsOfWay_39 : decode cX0_coinsOfWay 39 = .ok (.ishr, 1) := by decide +kernel
theorem dX0_coinsOfWay_40 : decode cX0_coinsOfWay 40 = .ok (.iconst 1, 1) := by decide +kernel
theorem dX0_coinsOfWay_41 : decode cX0_coinsOfWay 41 = .ok (.iand, 1) := by decide +kernel
theorem dX0_coinsOfWay_42 : decode cX0_coinsOfWay 42 = .ok (.goto 4, 3) := by decide +kernel
theorem dX0_coinsOfWay_45 : decode cX0_coinsOfWay 45 = .ok (.iconst 0, 1) := by decide +kernel
theorem dX0_coinsOfWay_46 : decode cX0_coinsOfWay 46 = .ok (.istore 7, 2) := by decide +kernel
theorem dX0_coinsOfWay_48 : decode cX0_coinsOfWay 48 = .ok (.getstatic 9, 3) := by decide +kernel
theorem dX0_coinsOfWay_51 : decode cX0_coinsOfWay 51 = .ok (.iload 6, 2) := by decide +kernel
theorem dX0_coinsOfWay_53 : decode cX0_coinsOfWay 53 = .ok (.iaload, 1) := by decide +kernel
theorem dX0_coinsOfWay_54 : decode cX0_coinsOfWay 54 = .ok (.aload_n 2, 1) := by decide +kernel
theorem dX0_coinsOfWay_55 : decode cX0_coinsOfWay 55 = .ok (.getfield 31, 3) := by decide +kernel
theorem dX0_coinsOfWay_58 : decode cX0_coinsOfWay 58 = .ok (.iload 6, 2) := by decide +kernel
theorem dX0_coinsOfWay_60 : decode cX0_coinsOfWay 60 = .ok (.iaload, 1) := by decide +kernel
theorem dX0_coinsOfWay_61 : decode cX0_coinsOfWay 61 = .ok (.aload_n 2, 1) := by decide +kernel
theorem dX0_coinsOfWay_62 : decode cX0_coinsOfWay 62 = .ok (.getfield 36, 3) := by decide +kernel
theorem dX0_coinsOfWay_65 : decode cX0_coinsOfWay 65 = .ok (.iload 6, 2) := by decide +kernel
theorem dX0_coinsOfWay_67 : decode cX0_coinsOfWay 67 = .ok (.iaload, 1) := by decide +kernel
theorem dX0_coinsOfWay_68 : decode cX0_coinsOfWay 68 = .ok (.iadd, 1) := by decide +kernel
theorem dX0_coinsOfWay_69 : decode cX0_coinsOfWay 69 = .ok (.iload 4, 2) := by decide +kernel
theorem dX0_coinsOfWay_71 : decode cX0_coinsOfWay 71 = .ok (.invokestatic 39, 3) := by decide +kernel
theorem dX0_coinsOfWay_74 : decode cX0_coinsOfWay 74 = .ok (.iload 7, 2) := by decide +kernel
theorem dX0_coinsOfWay_76 : decode cX0_coinsOfWay 76 = .ok (.isub, 1) := by decide +kernel
theorem dX0_coinsOfWay_77 : decode cX0_coinsOfWay 77 = .ok (.istore 8, 2) := by decide +kernel
theorem dX0_coinsOfWay_79 : decode cX0_coinsOfWay 79 = .ok (.iload 8, 2) := by decide +kernel
theorem dX0_coinsOfWay_81 : decode cX0_coinsOfWay 81 = .ok (.ifCond .ge 6, 3) := by decide +kernel
theorem dX0_coinsOfWay_84 : decode cX0_coinsOfWay 84 = .ok (.bipush (-9), 2) := by decide +kernel
theorem dX0_coinsOfWay_86 : decode cX0_coinsOfWay 86 = .ok (.ireturn, 1) := by decide +kernel
theorem dX0_coinsOfWay_87 : decode cX0_coinsOfWay 87 = .ok (.aload_n 0, 1) := by decide +kernel
theorem dX0_coinsOfWay_88 : decode cX0_coinsOfWay 88 = .ok (.getfield 13, 3) := by decide +kernel
theorem dX0_coinsOfWay_91 : decode cX0_coinsOfWay 91 = .ok (.iload 6, 2) := by decide +kernel
theorem dX0_coinsOfWay_93 : decode cX0_coinsOfWay 93 = .ok (.iload 8, 2) := by decide +kernel
theorem dX0_coinsOfWay_95 : decode cX0_coinsOfWay 95 = .ok (.iastore, 1) := by decide +kernel
theorem dX0_coinsOfWay_96 : decode cX0_coinsOfWay 96 = .ok (.iload 5, 2) := by decide +kernel
theorem dX0_coinsOfWay_98 : decode cX0_coinsOfWay 98 = .ok (.iload 8, 2) := by decide +kernel
theorem dX0_coinsOfWay_100 : decode cX0_coinsOfWay 100 = .ok (.iadd, 1) := by decide +kernel
theorem dX0_coinsOfWay_101 : decode cX0_coinsOfWay 101 = .ok (.istore 5, 2) := by decide +kernel
theorem dX0_coinsOfWay_103 : decode cX0_coinsOfWay 103 = .ok (.iload 4, 2) := by decide +kernel
theorem dX0_coinsOfWay_105 : decode cX0_coinsOfWay 105 = .ok (.iload 8, 2) := by decide +kernel
theorem dX0_coinsOfWay_107 : decode cX0_coinsOfWay 107 = .ok (.getstatic 9, 3) := by decide +kernel
theorem dX0_coinsOfWay_110 : decode cX0_coinsOfWay 110 = .ok (.iload 6, 2) := by decide +kernel
theorem dX0_coinsOfWay_112 : decode cX0_coinsOfWay 112 = .ok (.iaload, 1) := by decide +kernel
theorem dX0_coinsOfWay_113 : decode cX0_coinsOfWay 113 = .ok (.imul, 1) := by decide +kernel
theorem dX0_coinsOfWay_114 : decode cX0_coinsOfWay 114 = .ok (.isub, 1) := by decide +kernel
theorem dX0_coinsOfWay_115 : decode cX0_coinsOfWay 115 = .ok (.istore 4, 2) := by decide +kernel
theorem dX0_coinsOfWay_117 : decode cX0_coinsOfWay 117 = .ok (.iinc 6 1, 3) := by decide +kernel
theorem dX0_coinsOfWay_120 : decode cX0_coinsOfWay 120 = .ok (.goto (-111), 3) := by decide +kernel
theorem dX0_coinsOfWay_123 : decode cX0_coinsOfWay 123 = .ok (.iload 4, 2) := by decide +kernel
theorem dX0_coinsOfWay_125 : decode cX0_coinsOfWay 125 = .ok (.ifCond .ne 8, 3) := by decide +kernel
theorem dX0_coinsOfWay_128 : decode cX0_coinsOfWay 128 = .ok (.iload 5, 2) := by decide +kernel
theorem dX0_coinsOfWay_130 : decode cX0_coinsOfWay 130 = .ok (.goto 5, 3) := by decide +kernel
theorem dX0_coinsOfWay_133 : decode cX0_coinsOfWay 133 = .ok (.bipush (-9), 2) := by decide +kernel
theorem dX0_coinsOfWay_135 : decode cX0_coinsOfWay 135 = .ok (.ireturn, 1) := by decide +kernel
theorem dX0_mostOf_0 : decode cX0_mostOf 0 = .ok (.iload_n 0, 1) := by decide +kernel
theorem dX0_mostOf_1 : decode cX0_mostOf 1 = .ok (.ifCond .le 13, 3) := by decide +kernel
theorem dX0_mostOf_4 : decode cX0_mostOf 4 = .ok (.iload_n 1, 1) := by decide +kernel
theorem dX0_mostOf_5 : decode cX0_mostOf 5 = .ok (.iload_n 2, 1) := by decide +kernel
theorem dX0_mostOf_6 : decode cX0_mostOf 6 = .ok (.iload_n 0, 1) := by decide +kernel
theorem dX0_mostOf_7 : decode cX0_mostOf 7 = .ok (.idiv, 1) := by decide +kernel
theorem dX0_mostOf_8 : decode cX0_mostOf 8 = .ok (.invokestatic 43, 3) := by decide +kernel
theorem dX0_mostOf_11 : decode cX0_mostOf 11 = .ok (.goto 4, 3) := by decide +kernel
theorem dX0_mostOf_14 : decode cX0_mostOf 14 = .ok (.iconst 0, 1) := by decide +kernel
theorem dX0_mostOf_15 : decode cX0_mostOf 15 = .ok (.ireturn, 1) := by decide +kernel
theorem dX1_init_0 : decode cX1_init 0 = .ok (.aload_n 0, 1) := by decide +kernel
theorem dX1_init_1 : decode cX1_init 1 = .ok (.invokespecial 3, 3) := by decide +kernel
theorem dX1_init_4 : decode cX1_init 4 = .ok (.aload_n 0, 1) := by decide +kernel
theorem dX1_init_5 : decode cX1_init 5 = .ok (.sipush 384, 3) := by decide +kernel
theorem dX1_init_8 : decode cX1_init 8 = .ok (.newarray .int, 2) := by decide +kernel
theorem dX1_init_10 : decode cX1_init 10 = .ok (.putfield 9, 3) := by decide +kernel
theorem dX1_init_13 : decode cX1_init 13 = .ok (.aload_n 0, 1) := by decide +kernel
theorem dX1_init_14 : decode cX1_init 14 = .ok (.sipush 384, 3) := by decide +kernel
theorem dX1_init_17 : decode cX1_init 17 = .ok (.newarray .int, 2) := by decide +kernel
theorem dX1_init_19 : decode cX1_init 19 = .ok (.putfield 15, 3) := by decide +kernel
theorem dX1_init_22 : decode cX1_init 22 = .ok (.return_, 1) := by decide +kernel
theorem dX1_countSale_0 : decode cX1_countSale 0 = .ok (.aload_n 0, 1) := by decide +kernel
theorem dX1_countSale_1 : decode cX1_countSale 1 = .ok (.getfield 9, 3) := by decide +kernel
theorem dX1_countSale_4 : decode cX1_countSale 4 = .ok (.iload_n 1, 1) := by decide +kernel
theorem dX1_countSale_5 : decode cX1_countSale 5 = .ok (.bipush 24, 2) := by decide +kernel
theorem dX1_countSale_7 : decode cX1_countSale 7 = .ok (.imul, 1) := by decide +kernel
theorem dX1_countSale_8 : decode cX1_countSale 8 = .ok (.iload_n 2, 1) := by decide +kernel
theorem dX1_countSale_9 : decode cX1_countSale 9 = .ok (.iadd, 1) := by decide +kernel
theorem dX1_countSale_10 : decode cX1_countSale 10 = .ok (.dup2, 1) := by decide +kernel
theorem dX1_countSale_11 : decode cX1_countSale 11 = .ok (.iaload, 1) := by decide +kernel
theorem dX1_countSale_12 : decode cX1_countSale 12 = .ok (.iconst 1, 1) := by decide +kernel
theorem dX1_countSale_13 : decode cX1_countSale 13 = .ok (.iadd, 1) := by decide +kernel
theorem dX1_countSale_14 : decode cX1_countSale 14 = .ok (.iastore, 1) := by decide +kernel
theorem dX1_countSale_15 : decode cX1_countSale 15 = .ok (.return_, 1) := by decide +kernel
theorem dX1_countThere_0 : decode cX1_countThere 0 = .ok (.aload_n 0, 1) := by decide +kernel
theorem dX1_countThere_1 : decode cX1_countThere 1 = .ok (.getfield 15, 3) := by decide +kernel
theorem dX1_countThere_4 : decode cX1_countThere 4 = .ok (.iload_n 1, 1) := by decide +kernel
theorem dX1_countThere_5 : decode cX1_countThere 5 = .ok (.bipush 24, 2) := by decide +kernel
theorem dX1_countThere_7 : decode cX1_countThere 7 = .ok (.imul, 1) := by decide +kernel
theorem dX1_countThere_8 : decode cX1_countThere 8 = .ok (.iload_n 2, 1) := by decide +kernel
theorem dX1_countThere_9 : decode cX1_countThere 9 = .ok (.iadd, 1) := by decide +kernel
theorem dX1_countThere_10 : decode cX1_countThere 10 = .ok (.dup2, 1) := by decide +kernel
theorem dX1_countThere_11 : decode cX1_countThere 11 = .ok (.iaload, 1) := by decide +kernel
theorem dX1_countThere_12 : decode cX1_countThere 12 = .ok (.iconst 1, 1) := by decide +kernel
theorem dX1_countThere_13 : decode cX1_countThere 13 = .ok (.iadd, 1) := by decide +kernel
theorem dX1_countThere_14 : decode cX1_countThere 14 = .ok (.iastore, 1) := by decide +kernel
theorem dX1_countThere_15 : decode cX1_countThere 15 = .ok (.return_, 1) := by decide +kernel
theorem dX1_salesAt_0 : decode cX1_salesAt 0 = .ok (.aload_n 0, 1) := by decide +kernel
theorem dX1_salesAt_1 : decode cX1_salesAt 1 = .ok (.getfield 9, 3) := by decide +kernel
theorem dX1_salesAt_4 : decode cX1_salesAt 4 = .ok (.iload_n 1, 1) := by decide +kernel
theorem dX1_salesAt_5 : decode cX1_salesAt 5 = .ok (.bipush 24, 2) := by decide +kernel
theorem dX1_salesAt_7 : decode cX1_salesAt 7 = .ok (.imul, 1) := by decide +kernel
theorem dX1_salesAt_8 : decode cX1_salesAt 8 = .ok (.iload_n 2, 1) := by decide +kernel
theorem dX1_salesAt_9 : decode cX1_salesAt 9 = .ok (.iadd, 1) := by decide +kernel
theorem dX1_salesAt_10 : decode cX1_salesAt 10 = .ok (.iaload, 1) := by decide +kernel
theorem dX1_salesAt_11 : decode cX1_salesAt 11 = .ok (.ireturn, 1) := by decide +kernel
theorem dX1_hoursThereAt_0 : decode cX1_hoursThereAt 0 = .ok (.aload_n 0, 1) := by decide +kernel
theorem dX1_hoursThereAt_1 : decode cX1_hoursThereAt 1 = .ok (.getfield 15, 3) := by decide +kernel
theorem dX1_hoursThereAt_4 : decode cX1_hoursThereAt 4 = .ok (.iload_n 1, 1) := by decide +kernel
theorem dX1_hoursThereAt_5 : decode cX1_hoursThereAt 5 = .ok (.bipush 24, 2) := by decide +kernel
theorem dX1_hoursThereAt_7 : decode cX1_hoursThereAt 7 = .ok (.imul, 1) := by decide +kernel
theorem dX1_hoursThereAt_8 : decode cX1_hoursThereAt 8 = .ok (.iload_n 2, 1) := by decide +kernel
theorem dX1_hoursThereAt_9 : decode cX1_hoursThereAt 9 = .ok (.iadd, 1) := by decide +kernel
theorem dX1_hoursThereAt_10 : decode cX1_hoursThereAt 10 = .ok (.iaload, 1) := by decide +kernel
theorem dX1_hoursThereAt_11 : decode cX1_hoursThereAt 11 = .ok (.ireturn, 1) := by decide +kernel
theorem dX1_foretold_0 : decode cX1_foretold 0 = .ok (.iconst 0, 1) := by decide +kernel
theorem dX1_foretold_1 : decode cX1_foretold 1 = .ok (.istore 4, 2) := by decide +kernel
theorem dX1_foretold_3 : decode cX1_foretold 3 = .ok (.iconst 0, 1) := by decide +kernel
theorem dX1_foretold_4 : decode cX1_foretold 4 = .ok (.istore 5, 2) := by decide +kernel
theorem dX1_foretold_6 : decode cX1_foretold 6 = .ok (.iload 5, 2) := by decide +kernel
theorem dX1_foretold_8 : decode cX1_foretold 8 = .ok (.iload_n 3, 1) := by decide +kernel
theorem dX1_foretold_9 : decode cX1_foretold 9 = .ok (.if_icmp .ge 26, 3) := by decide +kernel
theorem dX1_foretold_12 : decode cX1_foretold 12 = .ok (.iload 4, 2) := by decide +kernel
theorem dX1_foretold_14 : decode cX1_foretold 14 = .ok (.aload_n 0, 1) := by decide +kernel
theorem dX1_foretold_15 : decode cX1_foretold 15 = .ok (.iload_n 1, 1) := by decide +kernel
theorem dX1_foretold_16 : decode cX1_foretold 16 = .ok (.iload_n 2, 1) := by decide +kernel
theorem dX1_foretold_17 : decode cX1_foretold 17 = .ok (.iload 5, 2) := by decide +kernel
theorem dX1_foretold_19 : decode cX1_foretold 19 = .ok (.iadd, 1) := by decide +kernel
theorem dX1_foretold_20 : decode cX1_foretold 20 = .ok (.bipush 24, 2) := by decide +kernel
theorem dX1_foretold_22 : decode cX1_foretold 22 = .ok (.irem, 1) := by decide +kernel
theorem dX1_foretold_23 : decode cX1_foretold 23 = .ok (.invokevirtual 18, 3) := by decide +kernel
theorem dX1_foretold_26 : decode cX1_foretold 26 = .ok (.iadd, 1) := by decide +kernel
theorem dX1_foretold_27 : decode cX1_foretold 27 = .ok (.istore 4, 2) := by decide +kernel
theorem dX1_foretold_29 : decode cX1_foretold 29 = .ok (.iinc 5 1, 3) := by decide +kernel
theorem dX1_foretold_32 : decode cX1_foretold 32 = .ok (.goto (-26), 3) := by decide +kernel
theorem dX1_foretold_35 : decode cX1_foretold 35 = .ok (.iload 4, 2) := by decide +kernel
theorem dX1_foretold_37 : decode cX1_foretold 37 = .ok (.ireturn, 1) := by decide +kernel
theorem dX1_hoursTill_0 : decode cX1_hoursTill 0 = .ok (.iconst 0, 1) := by decide +kernel
theorem dX1_hoursTill_1 : decode cX1_hoursTill 1 = .ok (.istore 4, 2) := by decide +kernel
theorem dX1_hoursTill_3 : decode cX1_hoursTill 3 = .ok (.iconst 1, 1) := by decide +kernel
theorem dX1_hoursTill_4 : decode cX1_hoursTill 4 = .ok (.istore 5, 2) := by decide +kernel
theorem dX1_hoursTill_6 : decode cX1_hoursTill 6 = .ok (.iload 5, 2) := by decide +kernel
theorem dX1_hoursTill_8 : decode cX1_hoursTill 8 = .ok (.sipush 240, 3) := by decide +kernel
theorem dX1_hoursTill_11 : decode cX1_hoursTill 11 = .ok (.if_icmp .gt 37, 3) := by decide +kernel
theorem dX1_hoursTill_14 : decode cX1_hoursTill 14 = .ok (.iload 4, 2) := by decide +kernel
theorem dX1_hoursTill_16 : decode cX1_hoursTill 16 = .ok (.aload_n 0, 1) := by decide +kernel
theorem dX1_hoursTill_17 : decode cX1_hoursTill 17 = .ok (.iload_n 1, 1) := by decide +kernel
theorem dX1_hoursTill_18 : decode cX1_hoursTill 18 = .ok (.iload_n 2, 1) := by decide +kernel
theorem dX1_hoursTill_19 : decode cX1_hoursTill 19 = .ok (.iload 5, 2) := by decide +kernel
theorem dX1_hoursTill_21 : decode cX1_hoursTill 21 = .ok (.iadd, 1) := by decide +kernel
theorem dX1_hoursTill_22 : decode cX1_hoursTill 22 = .ok (.iconst 1, 1) := by decide +kernel
theorem dX1_hoursTill_23 : decode cX1_hoursTill 23 = .ok (.isub, 1) := by decide +kernel
theorem dX1_hoursTill_24 : decode cX1_hoursTill 24 = .ok (.bipush 24, 2) := by decide +kernel
theorem dX1_hoursTill_26 : decode cX1_hoursTill 26 = .ok (.irem, 1) := by decide +kernel
theorem dX1_hoursTill_27 : decode cX1_hoursTill 27 = .ok (.invokevirtual 18, 3) := by decide +kernel
theorem dX1_hoursTill_30 : decode cX1_hoursTill 30 = .ok (.iadd, 1) := by decide +kernel
theorem dX1_hoursTill_31 : decode cX1_hoursTill 31 = .ok (.istore 4, 2) := by decide +kernel
theorem dX1_hoursTill_33 : decode cX1_hoursTill 33 = .ok (.iload 4, 2) := by decide +kernel
theorem dX1_hoursTill_35 : decode cX1_hoursTill 35 = .ok (.iload_n 3, 1) := by decide +kernel
theorem dX1_hoursTill_36 : decode cX1_hoursTill 36 = .ok (.if_icmp .lt 6, 3) := by decide +kernel
theorem dX1_hoursTill_39 : decode cX1_hoursTill 39 = .ok (.iload 5, 2) := by decide +kernel
theorem dX1_hoursTill_41 : decode cX1_hoursTill 41 = .ok (.ireturn, 1) := by decide +kernel
theorem dX1_hoursTill_42 : decode cX1_hoursTill 42 = .ok (.iinc 5 1, 3) := by decide +kernel
theorem dX1_hoursTill_45 : decode cX1_hoursTill 45 = .ok (.goto (-39), 3) := by decide +kernel
theorem dX1_hoursTill_48 : decode cX1_hoursTill 48 = .ok (.bipush (-9), 2) := by decide +kernel
theorem dX1_hoursTill_50 : decode cX1_hoursTill 50 = .ok (.ireturn, 1) := by decide +kernel
theorem dX1_rate_0 : decode cX1_rate 0 = .ok (.aload_n 0, 1) := by decide +kernel
theorem dX1_rate_1 : decode cX1_rate 1 = .ok (.iload_n 1, 1) := by decide +kernel
theorem dX1_rate_2 : decode cX1_rate 2 = .ok (.iload_n 2, 1) := by decide +kernel
theorem dX1_rate_3 : decode cX1_rate 3 = .ok (.invokevirtual 22, 3) := by decide +kernel
theorem dX1_rate_6 : decode cX1_rate 6 = .ok (.istore_n 3, 1) := by decide +kernel
theorem dX1_rate_7 : decode cX1_rate 7 = .ok (.iload_n 3, 1) := by decide +kernel
theorem dX1_rate_8 : decode cX1_rate 8 = .ok (.ifCond .le 18, 3) := by decide +kernel
theorem dX1_rate_11 : decode cX1_rate 11 = .ok (.sipush 1000, 3) := by decide +kernel
theorem dX1_rate_14 : decode cX1_rate 14 = .ok (.aload_n 0, 1) := by decide +kernel
theorem dX1_rate_15 : decode cX1_rate 15 = .ok (.iload_n 1, 1) := by decide +kernel
theorem dX1_rate_16 : decode cX1_rate 16 = .ok (.iload_n 2, 1) := by decide +kernel
theorem dX1_rate_17 : decode cX1_rate 17 = .ok (.invokevirtual 25, 3) := by decide +kernel
theorem dX1_rate_20 : decode cX1_rate 20 = .ok (.imul, 1) := by decide +kernel
theorem dX1_rate_21 : decode cX1_rate 21 = .ok (.iload_n 3, 1) := by decide +kernel
theorem dX1_rate_22 : decode cX1_rate 22 = .ok (.idiv, 1) := by decide +kernel
theorem dX1_rate_23 : decode cX1_rate 23 = .ok (.goto 4, 3) := by decide +kernel
theorem dX1_rate_26 : decode cX1_rate 26 = .ok (.iconst 0, 1) := by decide +kernel
theorem dX1_rate_27 : decode cX1_rate 27 = .ok (.ireturn, 1) := by decide +kernel
theorem dX2_init_0 : decode cX2_init 0 = .ok (.aload_n 0, 1) := by decide +kernel
theorem dX2_init_1 : decode cX2_init 1 = .ok (.invokespecial 3, 3) := by decide +kernel
theorem dX2_init_4 : decode cX2_init 4 = .ok (.aload_n 0, 1) := by decide +kernel
theorem dX2_init_5 : decode cX2_init 5 = .ok (.iload_n 1, 1) := by decide +kernel
theorem dX2_init_6 : decode cX2_init 6 = .ok (.putfield 9, 3) := by decide +kernel
theorem dX2_init_9 : decode cX2_init 9 = .ok (.aload_n 0, 1) := by decide +kernel
theorem dX2_init_10 : decode cX2_init 10 = .ok (.iload_n 2, 1) := by decide +kernel
theorem dX2_init_11 : decode cX2_init 11 = .ok (.putfield 15, 3) := by decide +kernel
theorem dX2_init_14 : decode cX2_init 14 = .ok (.aload_n 0, 1) := by decide +kernel
theorem dX2_init_15 : decode cX2_init 15 = .ok (.iload_n 3, 1) := by decide +kernel
theorem dX2_init_16 : decode cX2_init 16 = .ok (.putfield 18, 3) := by decide +kernel
theorem dX2_init_19 : decode cX2_init 19 = .ok (.aload_n 0, 1) := by decide +kernel
theorem dX2_init_20 : decode cX2_init 20 = .ok (.iload 4, 2) := by decide +kernel
theorem dX2_init_22 : decode cX2_init 22 = .ok (.putfield 21, 3) := by decide +kernel
theorem dX2_init_25 : decode cX2_init 25 = .ok (.aload_n 0, 1) := by decide +kernel
theorem dX2_init_26 : decode cX2_init 26 = .ok (.iload 5, 2) := by decide +kernel
theorem dX2_init_28 : decode cX2_init 28 = .ok (.putfield 24, 3) := by decide +kernel
theorem dX2_init_31 : decode cX2_init 31 = .ok (.return_, 1) := by decide +kernel
theorem dX2_isClosed_0 : decode cX2_isClosed 0 = .ok (.aload_n 0, 1) := by decide +kernel
theorem dX2_isClosed_1 : decode cX2_isClosed 1 = .ok (.getfield 27, 3) := by decide +kernel
theorem dX2_isClosed_4 : decode cX2_isClosed 4 = .ok (.ifCond .ne 10, 3) := by decide +kernel
theorem dX2_isClosed_7 : decode cX2_isClosed 7 = .ok (.aload_n 0, 1) := by decide +kernel
theorem dX2_isClosed_8 : decode cX2_isClosed 8 = .ok (.getfield 31, 3) := by decide +kernel
theorem dX2_isClosed_11 : decode cX2_isClosed 11 = .ok (.ifCond .eq 7, 3) := by decide +kernel
theorem dX2_isClosed_14 : decode cX2_isClosed 14 = .ok (.iconst 1, 1) := by decide +kernel
theorem dX2_isClosed_15 : decode cX2_isClosed 15 = .ok (.goto 4, 3) := by decide +kernel
theorem dX2_isClosed_18 : decode cX2_isClosed 18 = .ok (.iconst 0, 1) := by decide +kernel
theorem dX2_isClosed_19 : decode cX2_isClosed 19 = .ok (.ireturn, 1) := by decide +kernel
theorem dX2_miss_0 : decode cX2_miss 0 = .ok (.aload_n 0, 1) := by decide +kernel
theorem dX2_miss_1 : decode cX2_miss 1 = .ok (.dup, 1) := by decide +kernel
theorem dX2_miss_2 : decode cX2_miss 2 = .ok (.getfield 34, 3) := by decide +kernel
theorem dX2_miss_5 : decode cX2_miss 5 = .ok (.iconst 1, 1) := by decide +kernel
theorem dX2_miss_6 : decode cX2_miss 6 = .ok (.isub, 1) := by decide +kernel
theorem dX2_miss_7 : decode cX2_miss 7 = .ok (.putfield 34, 3) := by decide +kernel
theorem dX2_miss_10 : decode cX2_miss 10 = .ok (.aload_n 0, 1) := by decide +kernel
theorem dX2_miss_11 : decode cX2_miss 11 = .ok (.dup, 1) := by decide +kernel
theorem dX2_miss_12 : decode cX2_miss 12 = .ok (.getfield 37, 3) := by decide +kernel
theorem dX2_miss_15 : decode cX2_miss 15 = .ok (.iconst 1, 1) := by decide +kernel
theorem dX2_miss_16 : decode cX2_miss 16 = .ok (.iadd, 1) := by decide +kernel
theorem dX2_miss_17 : decode cX2_miss 17 = .ok (.putfield 37, 3) := by decide +kernel
theorem dX2_miss_20 : decode cX2_miss 20 = .ok (.aload_n 0, 1) := by decide +kernel
theorem dX2_miss_21 : decode cX2_miss 21 = .ok (.getfield 37, 3) := by decide +kernel
theorem dX2_miss_24 : decode cX2_miss 24 = .ok (.iconst 3, 1) := by decide +kernel
theorem dX2_miss_25 : decode cX2_miss 25 = .ok (.if_icmp .lt 8, 3) := by decide +kernel
theorem dX2_miss_28 : decode cX2_miss 28 = .ok (.aload_n 0, 1) := by decide +kernel
theorem dX2_miss_29 : decode cX2_miss 29 = .ok (.iconst 1, 1) := by decide +kernel
theorem dX2_miss_30 : decode cX2_miss 30 = .ok (.putfield 27, 3) := by decide +kernel
theorem dX2_miss_33 : decode cX2_miss 33 = .ok (.return_, 1) := by decide +kernel
theorem dX2_spoilAfter_0 : decode cX2_spoilAfter 0 = .ok (.aload_n 0, 1) := by decide +kernel
theorem dX2_spoilAfter_1 : decode cX2_spoilAfter 1 = .ok (.getfield 21, 3) := by decide +kernel
theorem dX2_spoilAfter_4 : decode cX2_spoilAfter 4 = .ok (.iconst 2, 1) := by decide +kernel
theorem dX2_spoilAfter_5 : decode cX2_spoilAfter 5 = .ok (.if_icmp .ne 23, 3) := by decide +kernel
theorem dX2_spoilAfter_8 : decode cX2_spoilAfter 8 = .ok (.aload_n 0, 1) := by decide +kernel
theorem dX2_spoilAfter_9 : decode cX2_spoilAfter 9 = .ok (.getfield 40, 3) := by decide +kernel
theorem dX2_spoilAfter_12 : decode cX2_spoilAfter 12 = .ok (.ifCond .le 16, 3) := by decide +kernel
theorem dX2_spoilAfter_15 : decode cX2_spoilAfter 15 = .ok (.iload_n 1, 1) := by decide +kernel
theorem dX2_spoilAfter_16 : decode cX2_spoilAfter 16 = .ok (.aload_n 0, 1) := by decide +kernel
theorem dX2_spoilAfter_17 : decode cX2_spoilAfter 17 = .ok (.getfield 24, 3) := by decide +kernel
theorem dX2_spoilAfter_20 : decode cX2_spoilAfter 20 = .ok (.if_icmp .le 8, 3) := by decide +kernel
theorem dX2_spoilAfter_23 : decode cX2_spoilAfter 23 = .ok (.aload_n 0, 1) := by decide +kernel
theorem dX2_spoilAfter_24 : decode cX2_spoilAfter 24 = .ok (.iconst 1, 1) := by decide +kernel
theorem dX2_spoilAfter_25 : decode cX2_spoilAfter 25 = .ok (.putfield 31, 3) := by decide +kernel
theorem dX2_spoilAfter_28 : decode cX2_spoilAfter 28 = .ok (.return_, 1) := by decide +kernel
theorem dX3_init_0 : decode cX3_init 0 = .ok (.aload_n 0, 1) := by decide +kernel
theorem dX3_init_1 : decode cX3_init 1 = .ok (.invokespecial 3, 3) := by decide +kernel
theorem dX3_init_4 : decode cX3_init 4 = .ok (.aload_n 0, 1) := by decide +kernel
theorem dX3_init_5 : decode cX3_init 5 = .ok (.bipush 8, 2) := by decide +kernel
theorem dX3_init_7 : decode cX3_init 7 = .ok (.anewarray 9, 3) := by decide +kernel
theorem dX3_init_10 : decode cX3_init 10 = .ok (.putfield 11, 3) := by decide +kernel
theorem dX3_init_13 : decode cX3_init 13 = .ok (.aload_n 0, 1) := by decide +kernel
theorem dX3_init_14 : decode cX3_init 14 = .ok (.new 17, 3) := by decide +kernel
theorem dX3_init_17 : decode cX3_init 17 = .ok (.dup, 1) := by decide +kernel
theorem dX3_init_18 : decode cX3_init 18 = .ok (.invokespecial 19, 3) := by decide +kernel
theorem dX3_init_21 : decode cX3_init 21 = .ok (.putfield 20, 3) := by decide +kernel
theorem dX3_init_24 : decode cX3_init 24 = .ok (.aload_n 0, 1) := by decide +kernel
theorem dX3_init_25 : decode cX3_init 25 = .ok (.new 24, 3) := by decide +kernel
theorem dX3_init_28 : decode cX3_init 28 = .ok (.dup, 1) := by decide +kernel
theorem dX3_init_29 : decode cX3_init 29 = .ok (.invokespecial 26, 3) := by decide +kernel
theorem dX3_init_32 : decode cX3_init 32 = .ok (.putfield 27, 3) := by decide +kernel
theorem dX3_init_35 : decode cX3_init 35 = .ok (.aload_n 0, 1) := by decide +kernel
theorem dX3_init_36 : decode cX3_init 36 = .ok (.iconst 1, 1) := by decide +kernel
theorem dX3_init_37 : decode cX3_init 37 = .ok (.putfield 31, 3) := by decide +kernel
theorem dX3_init_40 : decode cX3_init 40 = .ok (.return_, 1) := by decide +kernel
theorem dX3_isFull_0 : decode cX3_isFull 0 = .ok (.aload_n 0, 1) := by decide +kernel
theorem dX3_isFull_1 : decode cX3_isFull 1 = .ok (.getfield 35, 3) := by decide +kernel
theorem dX3_isFull_4 : decode cX3_isFull 4 = .ok (.aload_n 0, 1) := by decide +kernel
theorem dX3_isFull_5 : decode cX3_isFull 5 = .ok (.getfield 11, 3) := by decide +kernel
theorem dX3_isFull_8 : decode cX3_isFull 8 = .ok (.arraylength, 1) := by decide +kernel
theorem dX3_isFull_9 : decode cX3_isFull 9 = .ok (.if_icmp .lt 7, 3) := by decide +kernel
theorem dX3_isFull_12 : decode cX3_isFull 12 = .ok (.iconst 1, 1) := by decide +kernel
theorem dX3_isFull_13 : decode cX3_isFull 13 = .ok (.goto 4, 3) := by decide +kernel
theorem dX3_isFull_16 : decode cX3_isFull 16 = .ok (.iconst 0, 1) := by decide +kernel
theorem dX3_isFull_17 : decode cX3_isFull 17 = .ok (.ireturn, 1) := by decide +kernel
theorem dX3_addLane_0 : decode cX3_addLane 0 = .ok (.aload_n 0, 1) := by decide +kernel
theorem dX3_addLane_1 : decode cX3_addLane 1 = .ok (.invokevirtual 39, 3) := by decide +kernel
theorem dX3_addLane_4 : decode cX3_addLane 4 = .ok (.ifCond .eq 6, 3) := by decide +kernel
theorem dX3_addLane_7 : decode cX3_addLane 7 = .ok (.bipush (-6), 2) := by decide +kernel
theorem dX3_addLane_9 : decode cX3_addLane 9 = .ok (.ireturn, 1) := by decide +kernel
theorem dX3_addLane_10 : decode cX3_addLane 10 = .ok (.aload_n 0, 1) := by decide +kernel
theorem dX3_addLane_11 : decode cX3_addLane 11 = .ok (.getfield 11, 3) := by decide +kernel
theorem dX3_addLane_14 : decode cX3_addLane 14 = .ok (.aload_n 0, 1) := by decide +kernel
theorem dX3_addLane_15 : decode cX3_addLane 15 = .ok (.getfield 35, 3) := by decide +kernel
theorem dX3_addLane_18 : decode cX3_addLane 18 = .ok (.aload_n 1, 1) := by decide +kernel
theorem dX3_addLane_19 : decode cX3_addLane 19 = .ok (.aastore, 1) := by decide +kernel
theorem dX3_addLane_20 : decode cX3_addLane 20 = .ok (.aload_n 0, 1) := by decide +kernel
theorem dX3_addLane_21 : decode cX3_addLane 21 = .ok (.dup, 1) := by decide +kernel
theorem dX3_addLane_22 : decode cX3_addLane 22 = .ok (.getfield 35, 3) := by decide +kernel
theorem dX3_addLane_25 : decode cX3_addLane 25 = .ok (.iconst 1, 1) := by decide +kernel
theorem dX3_addLane_26 : decode cX3_addLane 26 = .ok (.iadd, 1) := by decide +kernel
theorem dX3_addLane_27 : decode cX3_addLane 27 = .ok (.putfield 35, 3) := by decide +kernel
theorem dX3_addLane_30 : decode cX3_addLane 30 = .ok (.aload_n 0, 1) := by decide +kernel
theorem dX3_addLane_31 : decode cX3_addLane 31 = .ok (.getfield 35, 3) := by decide +kernel
theorem dX3_addLane_34 : decode cX3_addLane 34 = .ok (.iconst 1, 1) := by decide +kernel
theorem dX3_addLane_35 : decode cX3_addLane 35 = .ok (.isub, 1) := by decide +kernel
theorem dX3_addLane_36 : decode cX3_addLane 36 = .ok (.ireturn, 1) := by decide +kernel
theorem dX3_laneNumbered_0 : decode cX3_laneNumbered 0 = .ok (.iload_n 1, 1) := by decide +kernel
theorem dX3_laneNumbered_1 : decode cX3_laneNumbered 1 = .ok (.ifCond .lt 20, 3) := by decide +kernel
theorem dX3_laneNumbered_4 : decode cX3_laneNumbered 4 = .ok (.iload_n 1, 1) := by decide +kernel
theorem dX3_laneNumbered_5 : decode cX3_laneNumbered 5 = .ok (.aload_n 0, 1) := by decide +kernel
theorem dX3_laneNumbered_6 : decode cX3_laneNumbered 6 = .ok (.getfield 35, 3) := by decide +kernel
theorem dX3_laneNumbered_9 : decode cX3_laneNumbered 9 = .ok (.if_icmp .ge 12, 3) := by decide +kernel
theorem dX3_laneNumbered_12 : decode cX3_laneNumbered 12 = .ok (.aload_n 0, 1) := by decide +kernel
theorem dX3_laneNumbered_13 : decode cX3_laneNumbered 13 = .ok (.getfield 11, 3) := by decide +kernel
theorem dX3_laneNumbered_16 : decode cX3_laneNumbered 16 = .ok (.iload_n 1, 1) := by decide +kernel
theorem dX3_laneNumbered_17 : decode cX3_laneNumbered 17 = .ok (.aaload, 1) := by decide +kernel
theorem dX3_laneNumbered_18 : decode cX3_laneNumbered 18 = .ok (.goto 4, 3) := by decide +kernel
theorem dX3_laneNumbered_21 : decode cX3_laneNumbered 21 = .ok (.aconst_null, 1) := by decide +kernel
theorem dX3_laneNumbered_22 : decode cX3_laneNumbered 22 = .ok (.areturn, 1) := by decide +kernel
theorem dX3_sourceOf_0 : decode cX3_sourceOf 0 = .ok (.aload_n 0, 1) := by decide +kernel
theorem dX3_sourceOf_1 : decode cX3_sourceOf 1 = .ok (.iload_n 1, 1) := by decide +kernel
theorem dX3_sourceOf_2 : decode cX3_sourceOf 2 = .ok (.invokevirtual 43, 3) := by decide +kernel
theorem dX3_sourceOf_5 : decode cX3_sourceOf 5 = .ok (.astore_n 2, 1) := by decide +kernel
theorem dX3_sourceOf_6 : decode cX3_sourceOf 6 = .ok (.aload_n 2, 1) := by decide +kernel
theorem dX3_sourceOf_7 : decode cX3_sourceOf 7 = .ok (.ifnull 10, 3) := by decide +kernel
theorem dX3_sourceOf_10 : decode cX3_sourceOf 10 = .ok (.aload_n 2, 1) := by decide +kernel
theorem dX3_sourceOf_11 : decode cX3_sourceOf 11 = .ok (.invokevirtual 47, 3) := by decide +kernel
theorem dX3_sourceOf_14 : decode cX3_sourceOf 14 = .ok (.ifCond .eq 5, 3) := by decide +kernel
theorem dX3_sourceOf_17 : decode cX3_sourceOf 17 = .ok (.aconst_null, 1) := by decide +kernel
theorem dX3_sourceOf_18 : decode cX3_sourceOf 18 = .ok (.areturn, 1) := by decide +kernel
theorem dX3_sourceOf_19 : decode cX3_sourceOf 19 = .ok (.aload_n 2, 1) := by decide +kernel
theorem dX3_sourceOf_20 : decode cX3_sourceOf 20 = .ok (.getfield 50, 3) := by decide +kernel
theorem dX3_sourceOf_23 : decode cX3_sourceOf 23 = .ok (.ifCond .le 5, 3) := by decide +kernel
theorem dX3_sourceOf_26 : decode cX3_sourceOf 26 = .ok (.aload_n 2, 1) := by decide +kernel
theorem dX3_sourceOf_27 : decode cX3_sourceOf 27 = .ok (.areturn, 1) := by decide +kernel
theorem dX3_sourceOf_28 : decode cX3_sourceOf 28 = .ok (.aload_n 2, 1) := by decide +kernel
theorem dX3_sourceOf_29 : decode cX3_sourceOf 29 = .ok (.getfield 53, 3) := by decide +kernel
theorem dX3_sourceOf_32 : decode cX3_sourceOf 32 = .ok (.iconst 3, 1) := by decide +kernel
theorem dX3_sourceOf_33 : decode cX3_sourceOf 33 = .ok (.if_icmp .eq 5, 3) := by decide +kernel
theorem dX3_sourceOf_36 : decode cX3_sourceOf 36 = .ok (.aconst_null, 1) := by decide +kernel
theorem dX3_sourceOf_37 : decode cX3_sourceOf 37 = .ok (.areturn, 1) := by decide +kernel
theorem dX3_sourceOf_38 : decode cX3_sourceOf 38 = .ok (.aload_n 0, 1) := by decide +kernel
theorem dX3_sourceOf_39 : decode cX3_sourceOf 39 = .ok (.iload_n 1, 1) := by decide +kernel
theorem dX3_sourceOf_40 : decode cX3_sourceOf 40 = .ok (.iconst 1, 1) := by decide +kernel
theorem dX3_sourceOf_41 : decode cX3_sourceOf 41 = .ok (.iadd, 1) := by decide +kernel
theorem dX3_sourceOf_42 : decode cX3_sourceOf 42 = .ok (.invokevirtual 43, 3) := by decide +kernel
theorem dX3_sourceOf_45 : decode cX3_sourceOf 45 = .ok (.astore_n 3, 1) := by decide +kernel
theorem dX3_sourceOf_46 : decode cX3_sourceOf 46 = .ok (.aload_n 3, 1) := by decide +kernel
theorem dX3_sourceOf_47 : decode cX3_sourceOf 47 = .ok (.ifnull 32, 3) := by decide +kernel
theorem dX3_sourceOf_50 : decode cX3_sourceOf 50 = .ok (.aload_n 3, 1) := by decide +kernel
theorem dX3_sourceOf_51 : decode cX3_sourceOf 51 = .ok (.getfield 56, 3) := by decide +kernel
theorem dX3_sourceOf_54 : decode cX3_sourceOf 54 = .ok (.aload_n 2, 1) := by decide +kernel
theorem dX3_sourceOf_55 : decode cX3_sourceOf 55 = .ok (.getfield 56, 3) := by decide +kernel
theorem dX3_sourceOf_58 : decode cX3_sourceOf 58 = .ok (.if_icmp .ne 21, 3) := by decide +kernel
theorem dX3_sourceOf_61 : decode cX3_sourceOf 61 = .ok (.aload_n 3, 1) := by decide +kernel
theorem dX3_sourceOf_62 : decode cX3_sourceOf 62 = .ok (.getfield 50, 3) := by decide +kernel
theorem dX3_sourceOf_65 : decode cX3_sourceOf 65 = .ok (.ifCond .le 14, 3) := by decide +kernel
theorem dX3_sourceOf_68 : decode cX3_sourceOf 68 = .ok (.aload_n 3, 1) := by decide +kernel
theorem dX3_sourceOf_69 : decode cX3_sourceOf 69 = .ok (.invokevirtual 47, 3) := by decide +kernel
theorem dX3_sourceOf_72 : decode cX3_sourceOf 72 = .ok (.ifCond .ne 7, 3) := by decide +kernel
theorem dX3_sourceOf_75 : decode cX3_sourceOf 75 = .ok (.iconst 1, 1) := by decide +kernel
theorem dX3_sourceOf_76 : decode cX3_sourceOf 76 = .ok (.goto 4, 3) := by decide +kernel
theorem dX3_sourceOf_79 : decode cX3_sourceOf 79 = .ok (.iconst 0, 1) := by decide +kernel
theorem dX3_sourceOf_80 : decode cX3_sourceOf 80 = .ok (.istore 4, 2) := by decide +kernel
theorem dX3_sourceOf_82 : decode cX3_sourceOf 82 = .ok (.iload 4, 2) := by decide +kernel
theorem dX3_sourceOf_84 : decode cX3_sourceOf 84 = .ok (.ifCond .eq 7, 3) := by decide +kernel
theorem dX3_sourceOf_87 : decode cX3_sourceOf 87 = .ok (.aload_n 3, 1) := by decide +kernel
theorem dX3_sourceOf_88 : decode cX3_sourceOf 88 = .ok (.goto 4, 3) := by decide +kernel
theorem dX3_sourceOf_91 : decode cX3_sourceOf 91 = .ok (.aconst_null, 1) := by decide +kernel
theorem dX3_sourceOf_92 : decode cX3_sourceOf 92 = .ok (.areturn, 1) := by decide +kernel
theorem dX3_stockOf_0 : decode cX3_stockOf 0 = .ok (.iconst 0, 1) := by decide +kernel
theorem dX3_stockOf_1 : decode cX3_stockOf 1 = .ok (.istore_n 2, 1) := by decide +kernel
theorem dX3_stockOf_2 : decode cX3_stockOf 2 = .ok (.iconst 0, 1) := by decide +kernel
theorem dX3_stockOf_3 : decode cX3_stockOf 3 = .ok (.istore_n 3, 1) := by decide +kernel
theorem dX3_stockOf_4 : decode cX3_stockOf 4 = .ok (.iload_n 3, 1) := by decide +kernel
theorem dX3_stockOf_5 : decode cX3_stockOf 5 = .ok (.aload_n 0, 1) := by decide +kernel
theorem dX3_stockOf_6 : decode cX3_stockOf 6 = .ok (.getfield 35, 3) := by decide +kernel
theorem dX3_stockOf_9 : decode cX3_stockOf 9 = .ok (.if_icmp .ge 38, 3) := by decide +kernel
theorem dX3_stockOf_12 : decode cX3_stockOf 12 = .ok (.aload_n 0, 1) := by decide +kernel
theorem dX3_stockOf_13 : decode cX3_stockOf 13 = .ok (.iload_n 3, 1) := by decide +kernel
theorem dX3_stockOf_14 : decode cX3_stockOf 14 = .ok (.invokevirtual 43, 3) := by decide +kernel
theorem dX3_stockOf_17 : decode cX3_stockOf 17 = .ok (.astore 4, 2) := by decide +kernel
theorem dX3_stockOf_19 : decode cX3_stockOf 19 = .ok (.aload 4, 2) := by decide +kernel
theorem dX3_stockOf_21 : decode cX3_stockOf 21 = .ok (.ifnull 20, 3) := by decide +kernel
theorem dX3_stockOf_24 : decode cX3_stockOf 24 = .ok (.aload 4, 2) := by decide +kernel
theorem dX3_stockOf_26 : decode cX3_stockOf 26 = .ok (.getfield 56, 3) := by decide +kernel
theorem dX3_stockOf_29 : decode cX3_stockOf 29 = .ok (.iload_n 1, 1) := by decide +kernel
theorem dX3_stockOf_30 : decode cX3_stockOf 30 = .ok (.if_icmp .ne 11, 3) := by decide +kernel
theorem dX3_stockOf_33 : decode cX3_stockOf 33 = .ok (.iload_n 2, 1) := by decide +kernel
theorem dX3_stockOf_34 : decode cX3_stockOf 34 = .ok (.aload 4, 2) := by decide +kernel
theorem dX3_stockOf_36 : decode cX3_stockOf 36 = .ok (.getfield 50, 3) := by decide +kernel
theorem dX3_stockOf_39 : decode cX3_stockOf 39 = .ok (.iadd, 1) := by decide +kernel
theorem dX3_stockOf_40 : decode cX3_stockOf 40 = .ok (.istore_n 2, 1) := by decide +kernel
theorem dX3_stockOf_41 : decode cX3_stockOf 41 = .ok (.iinc 3 1, 3) := by decide +kernel
theorem dX3_stockOf_44 : decode cX3_stockOf 44 = .ok (.goto (-40), 3) := by decide +kernel
theorem dX3_stockOf_47 : decode cX3_stockOf 47 = .ok (.iload_n 2, 1) := by decide +kernel
theorem dX3_stockOf_48 : decode cX3_stockOf 48 = .ok (.ireturn, 1) := by decide +kernel
theorem dX3_noteThere_0 : decode cX3_noteThere 0 = .ok (.iconst 0, 1) := by decide +kernel
theorem dX3_noteThere_1 : decode cX3_noteThere 1 = .ok (.istore_n 2, 1) := by decide +kernel
theorem dX3_noteThere_2 : decode cX3_noteThere 2 = .ok (.iconst 0, 1) := by decide +kernel
theorem dX3_noteThere_3 : decode cX3_noteThere 3 = .ok (.istore_n 3, 1) := by decide +kernel
theorem dX3_noteThere_4 : decode cX3_noteThere 4 = .ok (.iload_n 3, 1) := by decide +kernel
theorem dX3_noteThere_5 : decode cX3_noteThere 5 = .ok (.aload_n 0, 1) := by decide +kernel
theorem dX3_noteThere_6 : decode cX3_noteThere 6 = .ok (.getfield 35, 3) := by decide +kernel
theorem dX3_noteThere_9 : decode cX3_noteThere 9 = .ok (.if_icmp .ge 64, 3) := by decide +kernel
theorem dX3_noteThere_12 : decode cX3_noteThere 12 = .ok (.aload_n 0, 1) := by decide +kernel
theorem dX3_noteThere_13 : decode cX3_noteThere 13 = .ok (.iload_n 3, 1) := by decide +kernel
theorem dX3_noteThere_14 : decode cX3_noteThere 14 = .ok (.invokevirtual 43, 3) := by decide +kernel
theorem dX3_noteThere_17 : decode cX3_noteThere 17 = .ok (.astore 4, 2) := by decide +kernel
theorem dX3_noteThere_19 : decode cX3_noteThere 19 = .ok (.aload 4, 2) := by decide +kernel
theorem dX3_noteThere_21 : decode cX3_noteThere 21 = .ok (.ifnull 46, 3) := by decide +kernel
theorem dX3_noteThere_24 : decode cX3_noteThere 24 = .ok (.iload_n 2, 1) := by decide +kernel
theorem dX3_noteThere_25 : decode cX3_noteThere 25 = .ok (.aload 4, 2) := by decide +kernel
theorem dX3_noteThere_27 : decode cX3_noteThere 27 = .ok (.getfield 56, 3) := by decide +kernel
theorem dX3_noteThere_30 : decode cX3_noteThere 30 = .ok (.ishr, 1) := by decide +kernel
theorem dX3_noteThere_31 : decode cX3_noteThere 31 = .ok (.iconst 1, 1) := by decide +kernel
theorem dX3_noteThere_32 : decode cX3_noteThere 32 = .ok (.iand, 1) := by decide +kernel
theorem dX3_noteThere_33 : decode cX3_noteThere 33 = .ok (.ifCond .ne 34, 3) := by decide +kernel
theorem dX3_noteThere_36 : decode cX3_noteThere 36 = .ok (.aload_n 0, 1) := by decide +kernel
theorem dX3_noteThere_37 : decode cX3_noteThere 37 = .ok (.iload_n 3, 1) := by decide +kernel
theorem dX3_noteThere_38 : decode cX3_noteThere 38 = .ok (.invokevirtual 59, 3) := by decide +kernel
theorem dX3_noteThere_41 : decode cX3_noteThere 41 = .ok (.ifnull 26, 3) := by decide +kernel
theorem dX3_noteThere_44 : decode cX3_noteThere 44 = .ok (.iload_n 2, 1) := by decide +kernel
theorem dX3_noteThere_45 : decode cX3_noteThere 45 = .ok (.iconst 1, 1) := by decide +kernel
theorem dX3_noteThere_46 : decode cX3_noteThere 46 = .ok (.aload 4, 2) := by decide +kernel
theorem dX3_noteThere_48 : decode cX3_noteThere 48 = .ok (.getfield 56, 3) := by decide +kernel
theorem dX3_noteThere_51 : decode cX3_noteThere 51 = .ok (.ishl, 1) := by decide +kernel
theorem dX3_noteThere_52 : decode cX3_noteThere 52 = .ok (.ior, 1) := by decide +kernel
theorem dX3_noteThere_53 : decode cX3_noteThere 53 = .ok (.istore_n 2, 1) := by decide +kernel
theorem dX3_noteThere_54 : decode cX3_noteThere 54 = .ok (.aload_n 0, 1) := by decide +kernel
theorem dX3_noteThere_55 : decode cX3_noteThere 55 = .ok (.getfield 27, 3) := by decide +kernel
theorem dX3_noteThere_58 : decode cX3_noteThere 58 = .ok (.aload 4, 2) := by decide +kernel
theorem dX3_noteThere_60 : decode cX3_noteThere 60 = .ok (.getfield 56, 3) := by decide +kernel
theorem dX3_noteThere_63 : decode cX3_noteThere 63 = .ok (.iload_n 1, 1) := by decide +kernel
theorem dX3_noteThere_64 : decode cX3_noteThere 64 = .ok (.invokevirtual 62, 3) := by decide +kernel
theorem dX3_noteThere_67 : decode cX3_noteThere 67 = .ok (.iinc 3 1, 3) := by decide +kernel
theorem dX3_noteThere_70 : decode cX3_noteThere 70 = .ok (.goto (-66), 3) := by decide +kernel
theorem dX3_noteThere_73 : decode cX3_noteThere 73 = .ok (.return_, 1) := by decide +kernel
theorem dX3_passHourOfPower_0 : decode cX3_passHourOfPower 0 = .ok (.aload_n 0, 1) := by decide +kernel
theorem dX3_passHourOfPower_1 : decode cX3_passHourOfPower 1 = .ok (.getfield 31, 3) := by decide +kernel
theorem dX3_passHourOfPower_4 : decode cX3_passHourOfPower 4 = .ok (.ifCond .eq 4, 3) := by decide +kernel
theorem dX3_passHourOfPower_7 : decode cX3_passHourOfPower 7 = .ok (.return_, 1) := by decide +kernel
theorem dX3_passHourOfPower_8 : decode cX3_passHourOfPower 8 = .ok (.aload_n 0, 1) := by decide +kernel
theorem dX3_passHourOfPower_9 : decode cX3_passHourOfPower 9 = .ok (.dup, 1) := by decide +kernel
theorem dX3_passHourOfPower_10 : decode cX3_passHourOfPower 10 = .ok (.getfield 66, 3) := by decide +kernel
theorem dX3_passHourOfPower_13 : decode cX3_passHourOfPower 13 = .ok (.iconst 1, 1) := by decide +kernel
theorem dX3_passHourOfPower_14 : decode cX3_passHourOfPower 14 = .ok (.iadd, 1) := by decide +kernel
theorem dX3_passHourOfPower_15 : decode cX3_passHourOfPower 15 = .ok (.putfield 66, 3) := by decide +kernel
theorem dX3_passHourOfPower_18 : decode cX3_passHourOfPower 18 = .ok (.iconst 0, 1) := by decide +kernel
theorem dX3_passHourOfPower_19 : decode cX3_passHourOfPower 19 = .ok (.istore_n 1, 1) := by decide +kernel
theorem dX3_passHourOfPower_20 : decode cX3_passHourOfPower 20 = .ok (.iload_n 1, 1) := by decide +kernel
theorem dX3_passHourOfPower_21 : decode cX3_passHourOfPower 21 = .ok (.aload_n 0, 1) := by decide +kernel
theorem dX3_passHourOfPower_22 : decode cX3_passHourOfPower 22 = .ok (.getfield 35, 3) := by decide +kernel
theorem dX3_passHourOfPower_25 : decode cX3_passHourOfPower 25 = .ok (.if_icmp .ge 27, 3) := by decide +kernel
theorem dX3_passHourOfPower_28 : decode cX3_passHourOfPower 28 = .ok (.aload_n 0, 1) := by decide +kernel
theorem dX3_passHourOfPower_29 : decode cX3_passHourOfPower 29 = .ok (.iload_n 1, 1) := by decide +kernel
theorem dX3_passHourOfPower_30 : decode cX3_passHourOfPower 30 = .ok (.invokevirtual 43, 3) := by decide +kernel
theorem dX3_passHourOfPower_33 : decode cX3_passHourOfPower 33 = .ok (.astore_n 2, 1) := by decide +kernel
theorem dX3_passHourOfPower_34 : decode cX3_passHourOfPower 34 = .ok (.aload_n 2, 1) := by decide +kernel
theorem dX3_passHourOfPower_35 : decode cX3_passHourOfPower 35 = .ok (.ifnull 11, 3) := by decide +kernel
theorem dX3_passHourOfPower_38 : decode cX3_passHourOfPower 38 = .ok (.aload_n 2, 1) := by decide +kernel
theorem dX3_passHourOfPower_39 : decode cX3_passHourOfPower 39 = .ok (.aload_n 0, 1) := by decide +kernel
theorem dX3_passHourOfPower_40 : decode cX3_passHourOfPower 40 = .ok (.getfield 66, 3) := by decide +kernel
theorem dX3_passHourOfPower_43 : decode cX3_passHourOfPower 43 = .ok (.invokevirtual 69, 3) := by decide +kernel
theorem dX3_passHourOfPower_46 : decode cX3_passHourOfPower 46 = .ok (.iinc 1 1, 3) := by decide +kernel
theorem dX3_passHourOfPower_49 : decode cX3_passHourOfPower 49 = .ok (.goto (-29), 3) := by decide +kernel
theorem dX3_passHourOfPower_52 : decode cX3_passHourOfPower 52 = .ok (.return_, 1) := by decide +kernel
theorem dX3_goodsAgree_0 : decode cX3_goodsAgree 0 = .ok (.iconst 0, 1) := by decide +kernel
theorem dX3_goodsAgree_1 : decode cX3_goodsAgree 1 = .ok (.istore_n 1, 1) := by decide +kernel
theorem dX3_goodsAgree_2 : decode cX3_goodsAgree 2 = .ok (.iconst 0, 1) := by decide +kernel
theorem dX3_goodsAgree_3 : decode cX3_goodsAgree 3 = .ok (.istore_n 2, 1) := by decide +kernel
theorem dX3_goodsAgree_4 : decode cX3_goodsAgree 4 = .ok (.iload_n 2, 1) := by decide +kernel
theorem dX3_goodsAgree_5 : decode cX3_goodsAgree 5 = .ok (.aload_n 0, 1) := by decide +kernel
theorem dX3_goodsAgree_6 : decode cX3_goodsAgree 6 = .ok (.getfield 35, 3) := by decide +kernel
theorem dX3_goodsAgree_9 : decode cX3_goodsAgree 9 = .ok (.if_icmp .ge 26, 3) := by decide +kernel
theorem dX3_goodsAgree_12 : decode cX3_goodsAgree 12 = .ok (.aload_n 0, 1) := by decide +kernel
theorem dX3_goodsAgree_13 : decode cX3_goodsAgree 13 = .ok (.iload_n 2, 1) := by decide +kernel
theorem dX3_goodsAgree_14 : decode cX3_goodsAgree 14 = .ok (.invokevirtual 43, 3) := by decide +kernel
theorem dX3_goodsAgree_17 : decode cX3_goodsAgree 17 = .ok (.astore_n 3, 1) := by decide +kernel
theorem dX3_goodsAgree_18 : decode cX3_goodsAgree 18 = .ok (.aload_n 3, 1) := by decide +kernel
theorem dX3_goodsAgree_19 : decode cX3_goodsAgree 19 = .ok (.ifnull 10, 3) := by decide +kernel
theorem dX3_goodsAgree_22 : decode cX3_goodsAgree 22 = .ok (.iload_n 1, 1) := by decide +kernel
theorem dX3_goodsAgree_23 : decode cX3_goodsAgree 23 = .ok (.aload_n 3, 1) := by decide +kernel
theorem dX3_goodsAgree_24 : decode cX3_goodsAgree 24 = .ok (.getfield 50, 3) := by decide +kernel
theorem dX3_goodsAgree_27 : decode cX3_goodsAgree 27 = .ok (.iadd, 1) := by decide +kernel
theorem dX3_goodsAgree_28 : decode cX3_goodsAgree 28 = .ok (.istore_n 1, 1) := by decide +kernel
theorem dX3_goodsAgree_29 : decode cX3_goodsAgree 29 = .ok (.iinc 2 1, 3) := by decide +kernel
theorem dX3_goodsAgree_32 : decode cX3_goodsAgree 32 = .ok (.goto (-28), 3) := by decide +kernel
theorem dX3_goodsAgree_35 : decode cX3_goodsAgree 35 = .ok (.aload_n 0, 1) := by decide +kernel
theorem dX3_goodsAgree_36 : decode cX3_goodsAgree 36 = .ok (.getfield 73, 3) := by decide +kernel
theorem dX3_goodsAgree_39 : decode cX3_goodsAgree 39 = .ok (.aload_n 0, 1) := by decide +kernel
theorem dX3_goodsAgree_40 : decode cX3_goodsAgree 40 = .ok (.getfield 76, 3) := by decide +kernel
theorem dX3_goodsAgree_43 : decode cX3_goodsAgree 43 = .ok (.iload_n 1, 1) := by decide +kernel
theorem dX3_goodsAgree_44 : decode cX3_goodsAgree 44 = .ok (.iadd, 1) := by decide +kernel
theorem dX3_goodsAgree_45 : decode cX3_goodsAgree 45 = .ok (.aload_n 0, 1) := by decide +kernel
theorem dX3_goodsAgree_46 : decode cX3_goodsAgree 46 = .ok (.getfield 79, 3) := by decide +kernel
theorem dX3_goodsAgree_49 : decode cX3_goodsAgree 49 = .ok (.iadd, 1) := by decide +kernel
theorem dX3_goodsAgree_50 : decode cX3_goodsAgree 50 = .ok (.aload_n 0, 1) := by decide +kernel
theorem dX3_goodsAgree_51 : decode cX3_goodsAgree 51 = .ok (.getfield 82, 3) := by decide +kernel
theorem dX3_goodsAgree_54 : decode cX3_goodsAgree 54 = .ok (.iadd, 1) := by decide +kernel
theorem dX3_goodsAgree_55 : decode cX3_goodsAgree 55 = .ok (.if_icmp .ne 7, 3) := by decide +kernel
theorem dX3_goodsAgree_58 : decode cX3_goodsAgree 58 = .ok (.iconst 1, 1) := by decide +kernel
theorem dX3_goodsAgree_59 : decode cX3_goodsAgree 59 = .ok (.goto 4, 3) := by decide +kernel
theorem dX3_goodsAgree_62 : decode cX3_goodsAgree 62 = .ok (.iconst 0, 1) := by decide +kernel
theorem dX3_goodsAgree_63 : decode cX3_goodsAgree 63 = .ok (.ireturn, 1) := by decide +kernel
theorem dX4_init_0 : decode cX4_init 0 = .ok (.aload_n 0, 1) := by decide +kernel
theorem dX4_init_1 : decode cX4_init 1 = .ok (.invokespecial 3, 3) := by decide +kernel
theorem dX4_init_4 : decode cX4_init 4 = .ok (.aload_n 0, 1) := by decide +kernel
theorem dX4_init_5 : decode cX4_init 5 = .ok (.getstatic 9, 3) := by decide +kernel
theorem dX4_init_8 : decode cX4_init 8 = .ok (.arraylength, 1) := by decide +kernel
theorem dX4_init_9 : decode cX4_init 9 = .ok (.newarray .int, 2) := by decide +kernel
theorem dX4_init_11 : decode cX4_init 11 = .ok (.putfield 13, 3) := by decide +kernel
theorem dX4_init_14 : decode cX4_init 14 = .ok (.aload_n 0, 1) := by decide +kernel
theorem dX4_init_15 : decode cX4_init 15 = .ok (.getstatic 9, 3) := by decide +kernel
theorem dX4_init_18 : decode cX4_init 18 = .ok (.arraylength, 1) := by decide +kernel
theorem dX4_init_19 : decode cX4_init 19 = .ok (.newarray .int, 2) := by decide +kernel
theorem dX4_init_21 : decode cX4_init 21 = .ok (.putfield 18, 3) := by decide +kernel
theorem dX4_init_24 : decode cX4_init 24 = .ok (.aload_n 0, 1) := by decide +kernel
theorem dX4_init_25 : decode cX4_init 25 = .ok (.getstatic 9, 3) := by decide +kernel
theorem dX4_init_28 : decode cX4_init 28 = .ok (.arraylength, 1) := by decide +kernel
theorem dX4_init_29 : decode cX4_init 29 = .ok (.newarray .int, 2) := by decide +kernel
theorem dX4_init_31 : decode cX4_init 31 = .ok (.putfield 21, 3) := by decide +kernel
theorem dX4_init_34 : decode cX4_init 34 = .ok (.aload_n 0, 1) := by decide +kernel
theorem dX4_init_35 : decode cX4_init 35 = .ok (.getstatic 9, 3) := by decide +kernel
theorem dX4_init_38 : decode cX4_init 38 = .ok (.arraylength, 1) := by decide +kernel
theorem dX4_init_39 : decode cX4_init 39 = .ok (.newarray .int, 2) := by decide +kernel
theorem dX4_init_41 : decode cX4_init 41 = .ok (.putfield 24, 3) := by decide +kernel
theorem dX4_init_44 : decode cX4_init 44 = .ok (.aload_n 0, 1) := by decide +kernel
theorem dX4_init_45 : decode cX4_init 45 = .ok (.getstatic 9, 3) := by decide +kernel
theorem dX4_init_48 : decode cX4_init 48 = .ok (.arraylength, 1) := by decide +kernel
theorem dX4_init_49 : decode cX4_init 49 = .ok (.newarray .int, 2) := by decide +kernel
theorem dX4_init_51 : decode cX4_init 51 = .ok (.putfield 27, 3) := by decide +kernel
theorem dX4_init_54 : decode cX4_init 54 = .ok (.aload_n 0, 1) := by decide +kernel
theorem dX4_init_55 : decode cX4_init 55 = .ok (.getstatic 9, 3) := by decide +kernel
theorem dX4_init_58 : decode cX4_init 58 = .ok (.arraylength, 1) := by decide +kernel
theorem dX4_init_59 : decode cX4_init 59 = .ok (.newarray .int, 2) := by decide +kernel
theorem dX4_init_61 : decode cX4_init 61 = .ok (.putfield 30, 3) := by decide +kernel
theorem dX4_init_64 : decode cX4_init 64 = .ok (.aload_n 0, 1) := by decide +kernel
theorem dX4_init_65 : decode cX4_init 65 = .ok (.getstatic 9, 3) := by decide +kernel
theorem dX4_init_68 : decode cX4_init 68 = .ok (.arraylength, 1) := by decide +kernel
theorem dX4_init_69 : decode cX4_init 69 = .ok (.newarray .int, 2) := by decide +kernel
theorem dX4_init_71 : decode cX4_init 71 = .ok (.putfield 33, 3) := by decide +kernel
theorem dX4_init_74 : decode cX4_init 74 = .ok (.return_, 1) := by decide +kernel
theorem dX4_addToTube_0 : decode cX4_addToTube 0 = .ok (.aload_n 0, 1) := by decide +kernel
theorem dX4_addToTube_1 : decode cX4_addToTube 1 = .ok (.getfield 13, 3) := by decide +kernel
theorem dX4_addToTube_4 : decode cX4_addToTube 4 = .ok (.iload_n 1, 1) := by decide +kernel
theorem dX4_addToTube_5 : decode cX4_addToTube 5 = .ok (.dup2, 1) := by decide +kernel
theorem dX4_addToTube_6 : decode cX4_addToTube 6 = .ok (.iaload, 1) := by decide +kernel
theorem dX4_addToTube_7 : decode cX4_addToTube 7 = .ok (.iload_n 2, 1) := by decide +kernel
theorem dX4_addToTube_8 : decode cX4_addToTube 8 = .ok (.iadd, 1) := by decide +kernel
theorem dX4_addToTube_9 : decode cX4_addToTube 9 = .ok (.iastore, 1) := by decide +kernel
theorem dX4_addToTube_10 : decode cX4_addToTube 10 = .ok (.aload_n 0, 1) := by decide +kernel
theorem dX4_addToTube_11 : decode cX4_addToTube 11 = .ok (.getfield 24, 3) := by decide +kernel
theorem dX4_addToTube_14 : decode cX4_addToTube 14 = .ok (.iload_n 1, 1) := by decide +kernel
theorem dX4_addToTube_15 : decode cX4_addToTube 15 = .ok (.dup2, 1) := by decide +kernel
theorem dX4_addToTube_16 : decode cX4_addToTube 16 = .ok (.iaload, 1) := by decide +kernel
theorem dX4_addToTube_17 : decode cX4_addToTube 17 = .ok (.iload_n 2, 1) := by decide +kernel
theorem dX4_addToTube_18 : decode cX4_addToTube 18 = .ok (.iadd, 1) := by decide +kernel
theorem dX4_addToTube_19 : decode cX4_addToTube 19 = .ok (.iastore, 1) := by decide +kernel
theorem dX4_addToTube_20 : decode cX4_addToTube 20 = .ok (.return_, 1) := by decide +kernel
theorem dX4_takeIn_0 : decode cX4_takeIn 0 = .ok (.aload_n 0, 1) := by decide +kernel
theorem dX4_takeIn_1 : decode cX4_takeIn 1 = .ok (.getfield 21, 3) := by decide +kernel
theorem dX4_takeIn_4 : decode cX4_takeIn 4 = .ok (.iload_n 1, 1) := by decide +kernel
theorem dX4_takeIn_5 : decode cX4_takeIn 5 = .ok (.dup2, 1) := by decide +kernel
theorem dX4_takeIn_6 : decode cX4_takeIn 6 = .ok (.iaload, 1) := by decide +kernel
theorem dX4_takeIn_7 : decode cX4_takeIn 7 = .ok (.iconst 1, 1) := by decide +kernel
theorem dX4_takeIn_8 : decode cX4_takeIn 8 = .ok (.iadd, 1) := by decide +kernel
theorem dX4_takeIn_9 : decode cX4_takeIn 9 = .ok (.iastore, 1) := by decide +kernel
theorem dX4_takeIn_10 : decode cX4_takeIn 10 = .ok (.aload_n 0, 1) := by decide +kernel
theorem dX4_takeIn_11 : decode cX4_takeIn 11 = .ok (.getfield 24, 3) := by decide +kernel
theorem dX4_takeIn_14 : decode cX4_takeIn 14 = .ok (.iload_n 1, 1) := by decide +kernel
theorem dX4_takeIn_15 : decode cX4_takeIn 15 = .ok (.dup2, 1) := by decide +kernel
theorem dX4_takeIn_16 : decode cX4_takeIn 16 = .ok (.iaload, 1) := by decide +kernel
theorem dX4_takeIn_17 : decode cX4_takeIn 17 = .ok (.iconst 1, 1) := by decide +kernel
theorem dX4_takeIn_18 : decode cX4_takeIn 18 = .ok (.iadd, 1) := by decide +kernel
theorem dX4_takeIn_19 : decode cX4_takeIn 19 = .ok (.iastore, 1) := by decide +kernel
theorem dX4_takeIn_20 : decode cX4_takeIn 20 = .ok (.aload_n 0, 1) := by decide +kernel
theorem dX4_takeIn_21 : decode cX4_takeIn 21 = .ok (.dup, 1) := by decide +kernel
theorem dX4_takeIn_22 : decode cX4_takeIn 22 = .ok (.getfield 36, 3) := by decide +kernel
theorem dX4_takeIn_25 : decode cX4_takeIn 25 = .ok (.iconst 1, 1) := by decide +kernel
theorem dX4_takeIn_26 : decode cX4_takeIn 26 = .ok (.iadd, 1) := by decide +kernel
theorem dX4_takeIn_27 : decode cX4_takeIn 27 = .ok (.putfield 36, 3) := by decide +kernel
theorem dX4_takeIn_30 : decode cX4_takeIn 30 = .ok (.return_, 1) := by decide +kernel
theorem dX4_giveBack_0 : decode cX4_giveBack 0 = .ok (.aload_n 0, 1) := by decide +kernel
theorem dX4_giveBack_1 : decode cX4_giveBack 1 = .ok (.getfield 21, 3) := by decide +kernel
theorem dX4_giveBack_4 : decode cX4_giveBack 4 = .ok (.invokestatic 40, 3) := by decide +kernel
theorem dX4_giveBack_7 : decode cX4_giveBack 7 = .ok (.istore_n 1, 1) := by decide +kernel
theorem dX4_giveBack_8 : decode cX4_giveBack 8 = .ok (.iconst 0, 1) := by decide +kernel
theorem dX4_giveBack_9 : decode cX4_giveBack 9 = .ok (.istore_n 2, 1) := by decide +kernel
theorem dX4_giveBack_10 : decode cX4_giveBack 10 = .ok (.iload_n 2, 1) := by decide +kernel
theorem dX4_giveBack_11 : decode cX4_giveBack 11 = .ok (.aload_n 0, 1) := by decide +kernel
theorem dX4_giveBack_12 : decode cX4_giveBack 12 = .ok (.getfield 21, 3) := by decide +kernel
theorem dX4_giveBack_15 : decode cX4_giveBack 15 = .ok (.arraylength, 1) := by decide +kernel
theorem dX4_giveBack_16 : decode cX4_giveBack 16 = .ok (.if_icmp .ge 31, 3) := by decide +kernel
theorem dX4_giveBack_19 : decode cX4_giveBack 19 = .ok (.aload_n 0, 1) := by decide +kernel
theorem dX4_giveBack_20 : decode cX4_giveBack 20 = .ok (.getfield 27, 3) := by decide +kernel
theorem dX4_giveBack_23 : decode cX4_giveBack 23 = .ok (.iload_n 2, 1) := by decide +kernel
theorem dX4_giveBack_24 : decode cX4_giveBack 24 = .ok (.dup2, 1) := by decide +kernel
theorem dX4_giveBack_25 : decode cX4_giveBack 25 = .ok (.iaload, 1) := by decide +kernel
theorem dX4_giveBack_26 : decode cX4_giveBack 26 = .ok (.aload_n 0, 1) := by decide +kernel
theorem dX4_giveBack_27 : decode cX4_giveBack 27 = .ok (.getfield 21, 3) := by decide +kernel
theorem dX4_giveBack_30 : decode cX4_giveBack 30 = .ok (.iload_n 2, 1) := by decide +kernel
theorem dX4_giveBack_31 : decode cX4_giveBack 31 = .ok (.iaload, 1) := by decide +kernel
theorem dX4_giveBack_32 : decode cX4_giveBack 32 = .ok (.iadd, 1) := by decide +kernel
theorem dX4_giveBack_33 : decode cX4_giveBack 33 = .ok (.iastore, 1) := by decide +kernel
theorem dX4_giveBack_34 : decode cX4_giveBack 34 = .ok (.aload_n 0, 1) := by decide +kernel
theorem dX4_giveBack_35 : decode cX4_giveBack 35 = .ok (.getfield 21, 3) := by decide +kernel
theorem dX4_giveBack_38 : decode cX4_giveBack 38 = .ok (.iload_n 2, 1) := by decide +kernel
theorem dX4_giveBack_39 : decode cX4_giveBack 39 = .ok (.iconst 0, 1) := by decide +kernel
theorem dX4_giveBack_40 : decode cX4_giveBack 40 = .ok (.iastore, 1) := by decide +kernel
theorem dX4_giveBack_41 : decode cX4_giveBack 41 = .ok (.iinc 2 1, 3) := by decide +kernel
theorem dX4_giveBack_44 : decode cX4_giveBack 44 = .ok (.goto (-34), 3) := by decide +kernel
theorem dX4_giveBack_47 : decode cX4_giveBack 47 = .ok (.aload_n 0, 1) := by decide +kernel
theorem dX4_giveBack_48 : decode cX4_giveBack 48 = .ok (.iconst 0, 1) := by decide +kernel
theorem dX4_giveBack_49 : decode cX4_giveBack 49 = .ok (.putfield 36, 3) := by decide +kernel
theorem dX4_giveBack_52 : decode cX4_giveBack 52 = .ok (.iload_n 1, 1) := by decide +kernel
theorem dX4_giveBack_53 : decode cX4_giveBack 53 = .ok (.ireturn, 1) := by decide +kernel
theorem dX4_settle_0 : decode cX4_settle 0 = .ok (.iconst 0, 1) := by decide +kernel
theorem dX4_settle_1 : decode cX4_settle 1 = .ok (.istore_n 2, 1) := by decide +kernel
theorem dX4_settle_2 : decode cX4_settle 2 = .ok (.iload_n 2, 1) := by decide +kernel
theorem dX4_settle_3 : decode cX4_settle 3 = .ok (.aload_n 0, 1) := by decide +kernel
theorem dX4_settle_4 : decode cX4_settle 4 = .ok (.getfield 13, 3) := by decide +kernel
theorem dX4_settle_7 : decode cX4_settle 7 = .ok (.arraylength, 1) := by decide +kernel
theorem dX4_settle_8 : decode cX4_settle 8 = .ok (.if_icmp .ge 81, 3) := by decide +kernel
theorem dX4_settle_11 : decode cX4_settle 11 = .ok (.iload_n 2, 1) := by decide +kernel
theorem dX4_settle_12 : decode cX4_settle 12 = .ok (.aload_n 1, 1) := by decide +kernel
theorem dX4_settle_13 : decode cX4_settle 13 = .ok (.arraylength, 1) := by decide +kernel
theorem dX4_settle_14 : decode cX4_settle 14 = .ok (.if_icmp .ge 75, 3) := by decide +kernel
theorem dX4_settle_17 : decode cX4_settle 17 = .ok (.aload_n 0, 1) := by decide +kernel
theorem dX4_settle_18 : decode cX4_settle 18 = .ok (.getfield 13, 3) := by decide +kernel
theorem dX4_settle_21 : decode cX4_settle 21 = .ok (.iload_n 2, 1) := by decide +kernel
theorem dX4_settle_22 : decode cX4_settle 22 = .ok (.iaload, 1) := by decide +kernel
theorem dX4_settle_23 : decode cX4_settle 23 = .ok (.aload_n 0, 1) := by decide +kernel
theorem dX4_settle_24 : decode cX4_settle 24 = .ok (.getfield 21, 3) := by decide +kernel
theorem dX4_settle_27 : decode cX4_settle 27 = .ok (.iload_n 2, 1) := by decide +kernel
theorem dX4_settle_28 : decode cX4_settle 28 = .ok (.iaload, 1) := by decide +kernel
theorem dX4_settle_29 : decode cX4_settle 29 = .ok (.iadd, 1) := by decide +kernel
theorem dX4_settle_30 : decode cX4_settle 30 = .ok (.aload_n 1, 1) := by decide +kernel
theorem dX4_settle_31 : decode cX4_settle 31 = .ok (.iload_n 2, 1) := by decide +kernel
theorem dX4_settle_32 : decode cX4_settle 32 = .ok (.iaload, 1) := by decide +kernel
theorem dX4_settle_33 : decode cX4_settle 33 = .ok (.isub, 1) := by decide +kernel
theorem dX4_settle_34 : decode cX4_settle 34 = .ok (.istore_n 3, 1) := by decide +kernel
theorem dX4_settle_35 : decode cX4_settle 35 = .ok (.aload_n 0, 1) := by decide +kernel
theorem dX4_settle_36 : decode cX4_settle 36 = .ok (.getfield 13, 3) := by decide +kernel
theorem dX4_settle_39 : decode cX4_settle 39 = .ok (.iload_n 2, 1) := by decide +kernel
theorem dX4_settle_40 : decode cX4_settle 40 = .ok (.iload_n 3, 1) := by decide +kernel
theorem dX4_settle_41 : decode cX4_settle 41 = .ok (.bipush 50, 2) := by decide +kernel
theorem dX4_settle_43 : decode cX4_settle 43 = .ok (.invokestatic 44, 3) := by decide +kernel
theorem dX4_settle_46 : decode cX4_settle 46 = .ok (.iastore, 1) := by decide +kernel
theorem dX4_settle_47 : decode cX4_settle 47 = .ok (.aload_n 0, 1) := by decide +kernel
theorem dX4_settle_48 : decode cX4_settle 48 = .ok (.getfield 18, 3) := by decide +kernel
theorem dX4_settle_51 : decode cX4_settle 51 = .ok (.iload_n 2, 1) := by decide +kernel
theorem dX4_settle_52 : decode cX4_settle 52 = .ok (.dup2, 1) := by decide +kernel
theorem dX4_settle_53 : decode cX4_settle 53 = .ok (.iaload, 1) := by decide +kernel
theorem dX4_settle_54 : decode cX4_settle 54 = .ok (.iload_n 3, 1) := by decide +kernel
theorem dX4_settle_55 : decode cX4_settle 55 = .ok (.aload_n 0, 1) := by decide +kernel
theorem dX4_settle_56 : decode cX4_settle 56 = .ok (.getfield 13, 3) := by decide +kernel
theorem dX4_settle_59 : decode cX4_settle 59 = .ok (.iload_n 2, 1) := by decide +kernel
theorem dX4_settle_60 : decode cX4_settle 60 = .ok (.iaload, 1) := by decide +kernel
theorem dX4_settle_61 : decode cX4_settle 61 = .ok (.isub, 1) := by decide +kernel
theorem dX4_settle_62 : decode cX4_settle 62 = .ok (.iadd, 1) := by decide +kernel
theorem dX4_settle_63 : decode cX4_settle 63 = .ok (.iastore, 1) := by decide +kernel
theorem dX4_settle_64 : decode cX4_settle 64 = .ok (.aload_n 0, 1) := by decide +kernel
theorem dX4_settle_65 : decode cX4_settle 65 = .ok (.getfield 30, 3) := by decide +kernel
theorem dX4_settle_68 : decode cX4_settle 68 = .ok (.iload_n 2, 1) := by decide +kernel
theorem dX4_settle_69 : decode cX4_settle 69 = .ok (.dup2, 1) := by decide +kernel
theorem dX4_settle_70 : decode cX4_settle 70 = .ok (.iaload, 1) := by decide +kernel
theorem dX4_settle_71 : decode cX4_settle 71 = .ok (.aload_n 1, 1) := by decide +kernel
theorem dX4_settle_72 : decode cX4_settle 72 = .ok (.iload_n 2, 1) := by decide +kernel
theorem dX4_settle_73 : decode cX4_settle 73 = .ok (.iaload, 1) := by decide +kernel
theorem dX4_settle_74 : decode cX4_settle 74 = .ok (.iadd, 1) := by decide +kernel
theorem dX4_settle_75 : decode cX4_settle 75 = .ok (.iastore, 1) := by decide +kernel
theorem dX4_settle_76 : decode cX4_settle 76 = .ok (.aload_n 0, 1) := by decide +kernel
theorem dX4_settle_77 : decode cX4_settle 77 = .ok (.getfield 21, 3) := by decide +kernel
theorem dX4_settle_80 : decode cX4_settle 80 = .ok (.iload_n 2, 1) := by decide +kernel
theorem dX4_settle_81 : decode cX4_settle 81 = .ok (.iconst 0, 1) := by decide +kernel
theorem dX4_settle_82 : decode cX4_settle 82 = .ok (.iastore, 1) := by decide +kernel
theorem dX4_settle_83 : decode cX4_settle 83 = .ok (.iinc 2 1, 3) := by decide +kernel
theorem dX4_settle_86 : decode cX4_settle 86 = .ok (.goto (-84), 3) := by decide +kernel
theorem dX4_settle_89 : decode cX4_settle 89 = .ok (.aload_n 0, 1) := by decide +kernel
theorem dX4_settle_90 : decode cX4_settle 90 = .ok (.iconst 0, 1) := by decide +kernel
theorem dX4_settle_91 : decode cX4_settle 91 = .ok (.putfield 36, 3) := by decide +kernel
theorem dX4_settle_94 : decode cX4_settle 94 = .ok (.return_, 1) := by decide +kernel
theorem dX4_emptyBox_0 : decode cX4_emptyBox 0 = .ok (.aload_n 0, 1) := by decide +kernel
theorem dX4_emptyBox_1 : decode cX4_emptyBox 1 = .ok (.getfield 18, 3) := by decide +kernel
theorem dX4_emptyBox_4 : decode cX4_emptyBox 4 = .ok (.invokestatic 40, 3) := by decide +kernel
theorem dX4_emptyBox_7 : decode cX4_emptyBox 7 = .ok (.istore_n 1, 1) := by decide +kernel
theorem dX4_emptyBox_8 : decode cX4_emptyBox 8 = .ok (.iconst 0, 1) := by decide +kernel
theorem dX4_emptyBox_9 : decode cX4_emptyBox 9 = .ok (.istore_n 2, 1) := by decide +kernel
theorem dX4_emptyBox_10 : decode cX4_emptyBox 10 = .ok (.iload_n 2, 1) := by decide +kernel
theorem dX4_emptyBox_11 : decode cX4_emptyBox 11 = .ok (.aload_n 0, 1) := by decide +kernel
theorem dX4_emptyBox_12 : decode cX4_emptyBox 12 = .ok (.getfield 18, 3) := by decide +kernel
theorem dX4_emptyBox_15 : decode cX4_emptyBox 15 = .ok (.arraylength, 1) := by decide +kernel
theorem dX4_emptyBox_16 : decode cX4_emptyBox 16 = .ok (.if_icmp .ge 31, 3) := by decide +kernel
theorem dX4_emptyBox_19 : decode cX4_emptyBox 19 = .ok (.aload_n 0, 1) := by decide +kernel
theorem dX4_emptyBox_20 : decode cX4_emptyBox 20 = .ok (.getfield 33, 3) := by decide +kernel
theorem dX4_emptyBox_23 : decode cX4_emptyBox 23 = .ok (.iload_n 2, 1) := by decide +kernel
theorem dX4_emptyBox_24 : decode cX4_emptyBox 24 = .ok (.dup2, 1) := by decide +kernel
theorem dX4_emptyBox_25 : decode cX4_emptyBox 25 = .ok (.iaload, 1) := by decide +kernel
theorem dX4_emptyBox_26 : decode cX4_emptyBox 26 = .ok (.aload_n 0, 1) := by decide +kernel
theorem dX4_emptyBox_27 : decode cX4_emptyBox 27 = .ok (.getfield 18, 3) := by decide +kernel
theorem dX4_emptyBox_30 : decode cX4_emptyBox 30 = .ok (.iload_n 2, 1) := by decide +kernel
theorem dX4_emptyBox_31 : decode cX4_emptyBox 31 = .ok (.iaload, 1) := by decide +kernel
theorem dX4_emptyBox_32 : decode cX4_emptyBox 32 = .ok (.iadd, 1) := by decide +kernel
theorem dX4_emptyBox_33 : decode cX4_emptyBox 33 = .ok (.iastore, 1) := by decide +kernel
theorem dX4_emptyBox_34 : decode cX4_emptyBox 34 = .ok (.aload_n 0, 1) := by decide +kernel
theorem dX4_emptyBox_35 : decode cX4_emptyBox 35 = .ok (.getfield 18, 3) := by decide +kernel
theorem dX4_emptyBox_38 : decode cX4_emptyBox 38 = .ok (.iload_n 2, 1) := by decide +kernel
theorem dX4_emptyBox_39 : decode cX4_emptyBox 39 = .ok (.iconst 0, 1) := by decide +kernel
theorem dX4_emptyBox_40 : decode cX4_emptyBox 40 = .ok (.iastore, 1) := by decide +kernel
theorem dX4_emptyBox_41 : decode cX4_emptyBox 41 = .ok (.iinc 2 1, 3) := by decide +kernel
theorem dX4_emptyBox_44 : decode cX4_emptyBox 44 = .ok (.goto (-34), 3) := by decide +kernel
theorem dX4_emptyBox_47 : decode cX4_emptyBox 47 = .ok (.iload_n 1, 1) := by decide +kernel
theorem dX4_emptyBox_48 : decode cX4_emptyBox 48 = .ok (.ireturn, 1) := by decide +kernel
theorem dX4_coinsAgree_0 : decode cX4_coinsAgree 0 = .ok (.iconst 0, 1) := by decide +kernel
theorem dX4_coinsAgree_1 : decode cX4_coinsAgree 1 = .ok (.istore_n 1, 1) := by decide +kernel
theorem dX4_coinsAgree_2 : decode cX4_coinsAgree 2 = .ok (.iload_n 1, 1) := by decide +kernel
theorem dX4_coinsAgree_3 : decode cX4_coinsAgree 3 = .ok (.aload_n 0, 1) := by decide +kernel
theorem dX4_coinsAgree_4 : decode cX4_coinsAgree 4 = .ok (.getfield 24, 3) := by decide +kernel
theorem dX4_coinsAgree_7 : decode cX4_coinsAgree 7 = .ok (.arraylength, 1) := by decide +kernel
theorem dX4_coinsAgree_8 : decode cX4_coinsAgree 8 = .ok (.if_icmp .ge 63, 3) := by decide +kernel
theorem dX4_coinsAgree_11 : decode cX4_coinsAgree 11 = .ok (.aload_n 0, 1) := by decide +kernel
theorem dX4_coinsAgree_12 : decode cX4_coinsAgree 12 = .ok (.getfield 13, 3) := by decide +kernel
theorem dX4_coinsAgree_15 : decode cX4_coinsAgree 15 = .ok (.iload_n 1, 1) := by decide +kernel
theorem dX4_coinsAgree_16 : decode cX4_coinsAgree 16 = .ok (.iaload, 1) := by decide +kernel
theorem dX4_coinsAgree_17 : decode cX4_coinsAgree 17 = .ok (.aload_n 0, 1) := by decide +kernel
theorem dX4_coinsAgree_18 : decode cX4_coinsAgree 18 = .ok (.getfield 18, 3) := by decide +kernel
theorem dX4_coinsAgree_21 : decode cX4_coinsAgree 21 = .ok (.iload_n 1, 1) := by decide +kernel
theorem dX4_coinsAgree_22 : decode cX4_coinsAgree 22 = .ok (.iaload, 1) := by decide +kernel
theorem dX4_coinsAgree_23 : decode cX4_coinsAgree 23 = .ok (.iadd, 1) := by decide +kernel
theorem dX4_coinsAgree_24 : decode cX4_coinsAgree 24 = .ok (.aload_n 0, 1) := by decide +kernel
theorem dX4_coinsAgree_25 : decode cX4_coinsAgree 25 = .ok (.getfield 21, 3) := by decide +kernel
theorem dX4_coinsAgree_28 : decode cX4_coinsAgree 28 = .ok (.iload_n 1, 1) := by decide +kernel
theorem dX4_coinsAgree_29 : decode cX4_coinsAgree 29 = .ok (.iaload, 1) := by decide +kernel
theorem dX4_coinsAgree_30 : decode cX4_coinsAgree 30 = .ok (.iadd, 1) := by decide +kernel
theorem dX4_coinsAgree_31 : decode cX4_coinsAgree 31 = .ok (.aload_n 0, 1) := by decide +kernel
theorem dX4_coinsAgree_32 : decode cX4_coinsAgree 32 = .ok (.getfield 27, 3) := by decide +kernel
theorem dX4_coinsAgree_35 : decode cX4_coinsAgree 35 = .ok (.iload_n 1, 1) := by decide +kernel
theorem dX4_coinsAgree_36 : decode cX4_coinsAgree 36 = .ok (.iaload, 1) := by decide +kernel
theorem dX4_coinsAgree_37 : decode cX4_coinsAgree 37 = .ok (.iadd, 1) := by decide +kernel
theorem dX4_coinsAgree_38 : decode cX4_coinsAgree 38 = .ok (.aload_n 0, 1) := by decide +kernel
theorem dX4_coinsAgree_39 : decode cX4_coinsAgree 39 = .ok (.getfield 30, 3) := by decide +kernel
theorem dX4_coinsAgree_42 : decode cX4_coinsAgree 42 = .ok (.iload_n 1, 1) := by decide +kernel
theorem dX4_coinsAgree_43 : decode cX4_coinsAgree 43 = .ok (.iaload, 1) := by decide +kernel
theorem dX4_coinsAgree_44 : decode cX4_coinsAgree 44 = .ok (.iadd, 1) := by decide +kernel
theorem dX4_coinsAgree_45 : decode cX4_coinsAgree 45 = .ok (.aload_n 0, 1) := by decide +kernel
theorem dX4_coinsAgree_46 : decode cX4_coinsAgree 46 = .ok (.getfield 33, 3) := by decide +kernel
theorem dX4_coinsAgree_49 : decode cX4_coinsAgree 49 = .ok (.iload_n 1, 1) := by decide +kernel
theorem dX4_coinsAgree_50 : decode cX4_coinsAgree 50 = .ok (.iaload, 1) := by decide +kernel
theorem dX4_coinsAgree_51 : decode cX4_coinsAgree 51 = .ok (.iadd, 1) := by decide +kernel
theorem dX4_coinsAgree_52 : decode cX4_coinsAgree 52 = .ok (.istore_n 2, 1) := by decide +kernel
theorem dX4_coinsAgree_53 : decode cX4_coinsAgree 53 = .ok (.aload_n 0, 1) := by decide +kernel
theorem dX4_coinsAgree_54 : decode cX4_coinsAgree 54 = .ok (.getfield 24, 3) := by decide +kernel
theorem dX4_coinsAgree_57 : decode cX4_coinsAgree 57 = .ok (.iload_n 1, 1) := by decide +kernel
theorem dX4_coinsAgree_58 : decode cX4_coinsAgree 58 = .ok (.iaload, 1) := by decide +kernel
theorem dX4_coinsAgree_59 : decode cX4_coinsAgree 59 = .ok (.iload_n 2, 1) := by decide +kernel
theorem dX4_coinsAgree_60 : decode cX4_coinsAgree 60 = .ok (.if_icmp .eq 5, 3) := by decide +kernel
theorem dX4_coinsAgree_63 : decode cX4_coinsAgree 63 = .ok (.iconst 0, 1) := by decide +kernel
theorem dX4_coinsAgree_64 : decode cX4_coinsAgree 64 = .ok (.ireturn, 1) := by decide +kernel
theorem dX4_coinsAgree_65 : decode cX4_coinsAgree 65 = .ok (.iinc 1 1, 3) := by decide +kernel
theorem dX4_coinsAgree_68 : decode cX4_coinsAgree 68 = .ok (.goto (-66), 3) := by decide +kernel
theorem dX4_coinsAgree_71 : decode cX4_coinsAgree 71 = .ok (.iconst 1, 1) := by decide +kernel
theorem dX4_coinsAgree_72 : decode cX4_coinsAgree 72 = .ok (.ireturn, 1) := by decide +kernel
theorem dX5_init_0 : decode cX5_init 0 = .ok (.aload_n 0, 1) := by decide +kernel
theorem dX5_init_1 : decode cX5_init 1 = .ok (.invokespecial 3, 3) := by decide +kernel
theorem dX5_init_4 : decode cX5_init 4 = .ok (.aload_n 0, 1) := by decide +kernel
theorem dX5_init_5 : decode cX5_init 5 = .ok (.bipush 9, 2) := by decide +kernel
theorem dX5_init_7 : decode cX5_init 7 = .ok (.sipush 201, 3) := by decide +kernel
theorem dX5_init_10 : decode cX5_init 10 = .ok (.multianewarray 9 2, 4) := by decide +kernel
theorem dX5_init_14 : decode cX5_init 14 = .ok (.putfield 11, 3) := by decide +kernel
theorem dX5_init_17 : decode cX5_init 17 = .ok (.aload_n 0, 1) := by decide +kernel
theorem dX5_init_18 : decode cX5_init 18 = .ok (.bipush 8, 2) := by decide +kernel
theorem dX5_init_20 : decode cX5_init 20 = .ok (.newarray .int, 2) := by decide +kernel
theorem dX5_init_22 : decode cX5_init 22 = .ok (.putfield 16, 3) := by decide +kernel
theorem dX5_init_25 : decode cX5_init 25 = .ok (.return_, 1) := by decide +kernel
theorem dX5_plan_0 : decode cX5_plan 0 = .ok (.aload_n 0, 1) := by decide +kernel
theorem dX5_plan_1 : decode cX5_plan 1 = .ok (.getfield 11, 3) := by decide +kernel
theorem dX5_plan_4 : decode cX5_plan 4 = .ok (.aload_n 1, 1) := by decide +kernel
theorem dX5_plan_5 : decode cX5_plan 5 = .ok (.getfield 20, 3) := by decide +kernel
theorem dX5_plan_8 : decode cX5_plan 8 = .ok (.aaload, 1) := by decide +kernel
theorem dX5_plan_9 : decode cX5_plan 9 = .ok (.iconst 0, 1) := by decide +kernel
theorem dX5_plan_10 : decode cX5_plan 10 = .ok (.invokestatic 26, 3) := by decide +kernel
theorem dX5_plan_13 : decode cX5_plan 13 = .ok (.aload_n 1, 1) := by decide +kernel
theorem dX5_plan_14 : decode cX5_plan 14 = .ok (.getfield 20, 3) := by decide +kernel
theorem dX5_plan_17 : decode cX5_plan 17 = .ok (.iconst 1, 1) := by decide +kernel
theorem dX5_plan_18 : decode cX5_plan 18 = .ok (.isub, 1) := by decide +kernel
theorem dX5_plan_19 : decode cX5_plan 19 = .ok (.istore 4, 2) := by decide +kernel
theorem dX5_plan_21 : decode cX5_plan 21 = .ok (.iload 4, 2) := by decide +kernel
theorem dX5_plan_23 : decode cX5_plan 23 = .ok (.ifCond .lt 38, 3) := by decide +kernel
theorem dX5_plan_26 : decode cX5_plan 26 = .ok (.aload_n 1, 1) := by decide +kernel
theorem dX5_plan_27 : decode cX5_plan 27 = .ok (.iload 4, 2) := by decide +kernel
theorem dX5_plan_29 : decode cX5_plan 29 = .ok (.invokevirtual 32, 3) := by decide +kernel
theorem dX5_plan_32 : decode cX5_plan 32 = .ok (.astore 5, 2) := by decide +kernel
theorem dX5_plan_34 : decode cX5_plan 34 = .ok (.aload 5, 2) := by decide +kernel
theorem dX5_plan_36 : decode cX5_plan 36 = .ok (.ifnull 19, 3) := by decide +kernel
theorem dX5_plan_39 : decode cX5_plan 39 = .ok (.aload_n 0, 1) := by decide +kernel
theorem dX5_plan_40 : decode cX5_plan 40 = .ok (.iload 4, 2) := by decide +kernel
theorem dX5_plan_42 : decode cX5_plan 42 = .ok (.aload 5, 2) := by decide +kernel
theorem dX5_plan_44 : decode cX5_plan 44 = .ok (.aload_n 2, 1) := by decide +kernel
theorem dX5_plan_45 : decode cX5_plan 45 = .ok (.aload 5, 2) := by decide +kernel
theorem dX5_plan_47 : decode cX5_plan 47 = .ok (.getfield 36, 3) := by decide +kernel
theorem dX5_plan_50 : decode cX5_plan 50 = .ok (.iaload, 1) := by decide +kernel
theorem dX5_plan_51 : decode cX5_plan 51 = .ok (.iload_n 3, 1) := by decide +kernel
theorem dX5_plan_52 : decode cX5_plan 52 = .ok (.invokevirtual 41, 3) := by decide +kernel
theorem dX5_plan_55 : decode cX5_plan 55 = .ok (.iinc 4 (-1), 3) := by decide +kernel
theorem dX5_plan_58 : decode cX5_plan 58 = .ok (.goto (-37), 3) := by decide +kernel
theorem dX5_plan_61 : decode cX5_plan 61 = .ok (.aload_n 0, 1) := by decide +kernel
theorem dX5_plan_62 : decode cX5_plan 62 = .ok (.aload_n 1, 1) := by decide +kernel
theorem dX5_plan_63 : decode cX5_plan 63 = .ok (.aload_n 2, 1) := by decide +kernel
theorem dX5_plan_64 : decode cX5_plan 64 = .ok (.iload_n 3, 1) := by decide +kernel
theorem dX5_plan_65 : decode cX5_plan 65 = .ok (.invokevirtual 45, 3) := by decide +kernel
theorem dX5_plan_68 : decode cX5_plan 68 = .ok (.ireturn, 1) := by decide +kernel
theorem dX5_piecesFor_0 : decode cX5_piecesFor 0 = .ok (.iload_n 1, 1) := by decide +kernel
theorem dX5_piecesFor_1 : decode cX5_piecesFor 1 = .ok (.ifCond .lt 21, 3) := by decide +kernel
theorem dX5_piecesFor_4 : decode cX5_piecesFor 4 = .ok (.iload_n 1, 1) := by decide +kernel
theorem dX5_piecesFor_5 : decode cX5_piecesFor 5 = .ok (.aload_n 0, 1) := by decide +kernel
theorem dX5_piecesFor_6 : decode cX5_piecesFor 6 = .ok (.getfield 16, 3) := by decide +kernel
theorem dX5_piecesFor_9 : decode cX5_piecesFor 9 = .ok (.arraylength, 1) := by decide +kernel
theorem dX5_piecesFor_10 : decode cX5_piecesFor 10 = .ok (.if_icmp .ge 12, 3) := by decide +kernel
theorem dX5_piecesFor_13 : decode cX5_piecesFor 13 = .ok (.aload_n 0, 1) := by decide +kernel
theorem dX5_piecesFor_14 : decode cX5_piecesFor 14 = .ok (.getfield 16, 3) := by decide +kernel
theorem dX5_piecesFor_17 : decode cX5_piecesFor 17 = .ok (.iload_n 1, 1) := by decide +kernel
theorem dX5_piecesFor_18 : decode cX5_piecesFor 18 = .ok (.iaload, 1) := by decide +kernel
theorem dX5_piecesFor_19 : decode cX5_piecesFor 19 = .ok (.goto 4, 3) := by decide +kernel
theorem dX5_piecesFor_22 : decode cX5_piecesFor 22 = .ok (.iconst 0, 1) := by decide +kernel
theorem dX5_piecesFor_23 : decode cX5_piecesFor 23 = .ok (.ireturn, 1) := by decide +kernel
theorem dX5_fillRow_0 : decode cX5_fillRow 0 = .ok (.aload_n 2, 1) := by decide +kernel
theorem dX5_fillRow_1 : decode cX5_fillRow 1 = .ok (.invokestatic 49, 3) := by decide +kernel
theorem dX5_fillRow_4 : decode cX5_fillRow 4 = .ok (.istore 5, 2) := by decide +kernel
theorem dX5_fillRow_6 : decode cX5_fillRow 6 = .ok (.aload_n 2, 1) := by decide +kernel
theorem dX5_fillRow_7 : decode cX5_fillRow 7 = .ok (.iload_n 3, 1) := by decide +kernel
theorem dX5_fillRow_8 : decode cX5_fillRow 8 = .ok (.invokestatic 53, 3) := by decide +kernel
theorem dX5_fillRow_11 : decode cX5_fillRow 11 = .ok (.istore 6, 2) := by decide +kernel
theorem dX5_fillRow_13 : decode cX5_fillRow 13 = .ok (.iconst 0, 1) := by decide +kernel
theorem dX5_fillRow_14 : decode cX5_fillRow 14 = .ok (.istore 7, 2) := by decide +kernel
theorem dX5_fillRow_16 : decode cX5_fillRow 16 = .ok (.iload 7, 2) := by decide +kernel
theorem dX5_fillRow_18 : decode cX5_fillRow 18 = .ok (.iload 4, 2) := by decide +kernel
theorem dX5_fillRow_20 : decode cX5_fillRow 20 = .ok (.if_icmp .gt 78, 3) := by decide +kernel
theorem dX5_fillRow_23 : decode cX5_fillRow 23 = .ok (.iconst 0, 1) := by decide +kernel
theorem dX5_fillRow_24 : decode cX5_fillRow 24 = .ok (.istore 8, 2) := by decide +kernel
theorem dX5_fillRow_26 : decode cX5_fillRow 26 = .ok (.iload 7, 2) := by decide +kernel
theorem dX5_fillRow_28 : decode cX5_fillRow 28 = .ok (.istore 9, 2) := by decide +kernel
theorem dX5_fillRow_30 : decode cX5_fillRow 30 = .ok (.iconst 0, 1) := by decide +kernel
theorem dX5_fillRow_31 : decode cX5_fillRow 31 = .ok (.istore 10, 2) := by decide +kernel
theorem dX5_fillRow_33 : decode cX5_fillRow 33 = .ok (.iload 10, 2) := by decide +kernel
theorem dX5_fillRow_35 : decode cX5_fillRow 35 = .ok (.iload 5, 2) := by decide +kernel
theorem dX5_fillRow_37 : decode cX5_fillRow 37 = .ok (.if_icmp .gt 44, 3) := by decide +kernel
theorem dX5_fillRow_40 : decode cX5_fillRow 40 = .ok (.iload 9, 2) := by decide +kernel
theorem dX5_fillRow_42 : decode cX5_fillRow 42 = .ok (.ifCond .lt 39, 3) := by decide +kernel
theorem dX5_fillRow_45 : decode cX5_fillRow 45 = .ok (.iload 8, 2) := by decide +kernel
theorem dX5_fillRow_47 : decode cX5_fillRow 47 = .ok (.iload 10, 2) := by decide +kernel
theorem dX5_fillRow_49 : decode cX5_fillRow 49 = .ok (.iload 6, 2) := by decide +kernel
theorem dX5_fillRow_51 : decode cX5_fillRow 51 = .ok (.imul, 1) := by decide +kernel
theorem dX5_fillRow_52 : decode cX5_fillRow 52 = .ok (.aload_n 0, 1) := by decide +kernel
theorem dX5_fillRow_53 : decode cX5_fillRow 53 = .ok (.getfield 11, 3) := by decide +kernel
theorem dX5_fillRow_56 : decode cX5_fillRow 56 = .ok (.iload_n 1, 1) := by decide +kernel
theorem dX5_fillRow_57 : decode cX5_fillRow 57 = .ok (.iconst 1, 1) := by decide +kernel
theorem dX5_fillRow_58 : decode cX5_fillRow 58 = .ok (.iadd, 1) := by decide +kernel
theorem dX5_fillRow_59 : decode cX5_fillRow 59 = .ok (.aaload, 1) := by decide +kernel
theorem dX5_fillRow_60 : decode cX5_fillRow 60 = .ok (.iload 9, 2) := by decide +kernel
theorem dX5_fillRow_62 : decode cX5_fillRow 62 = .ok (.iaload, 1) := by decide +kernel
theorem dX5_fillRow_63 : decode cX5_fillRow 63 = .ok (.iadd, 1) := by decide +kernel
theorem dX5_fillRow_64 : decode cX5_fillRow 64 = .ok (.invokestatic 57, 3) := by decide +kernel
theorem dX5_fillRow_67 : decode cX5_fillRow 67 = .ok (.istore 8, 2) := by decide +kernel
theorem dX5_fillRow_69 : decode cX5_fillRow 69 = .ok (.iload 9, 2) := by decide +kernel
theorem dX5_fillRow_71 : decode cX5_fillRow 71 = .ok (.iload_n 3, 1) := by decide +kernel
theorem dX5_fillRow_72 : decode cX5_fillRow 72 = .ok (.isub, 1) := by decide +kernel
theorem dX5_fillRow_73 : decode cX5_fillRow 73 = .ok (.istore 9, 2) := by decide +kernel
theorem dX5_fillRow_75 : decode cX5_fillRow 75 = .ok (.iinc 10 1, 3) := by decide +kernel
theorem dX5_fillRow_78 : decode cX5_fillRow 78 = .ok (.goto (-45), 3) := by decide +kernel
theorem dX5_fillRow_81 : decode cX5_fillRow 81 = .ok (.aload_n 0, 1) := by decide +kernel
theorem dX5_fillRow_82 : decode cX5_fillRow 82 = .ok (.getfield 11, 3) := by decide +kernel
theorem dX5_fillRow_85 : decode cX5_fillRow 85 = .ok (.iload_n 1, 1) := by decide +kernel
theorem dX5_fillRow_86 : decode cX5_fillRow 86 = .ok (.aaload, 1) := by decide +kernel
theorem dX5_fillRow_87 : decode cX5_fillRow 87 = .ok (.iload 7, 2) := by decide +kernel
theorem dX5_fillRow_89 : decode cX5_fillRow 89 = .ok (.iload 8, 2) := by decide +kernel
theorem dX5_fillRow_91 : decode cX5_fillRow 91 = .ok (.iastore, 1) := by decide +kernel
theorem dX5_fillRow_92 : decode cX5_fillRow 92 = .ok (.iinc 7 1, 3) := by decide +kernel
theorem dX5_fillRow_95 : decode cX5_fillRow 95 = .ok (.goto (-79), 3) := by decide +kernel
theorem dX5_fillRow_98 : decode cX5_fillRow 98 = .ok (.return_, 1) := by decide +kernel
theorem dX5_takePieces_0 : decode cX5_takePieces 0 = .ok (.aload_n 0, 1) := by decide +kernel
theorem dX5_takePieces_1 : decode cX5_takePieces 1 = .ok (.getfield 16, 3) := by decide +kernel
theorem dX5_takePieces_4 : decode cX5_takePieces 4 = .ok (.iconst 0, 1) := by decide +kernel
theorem dX5_takePieces_5 : decode cX5_takePieces 5 = .ok (.invokestatic 26, 3) := by decide +kernel
theorem dX5_takePieces_8 : decode cX5_takePieces 8 = .ok (.iload_n 3, 1) := by decide +kernel
theorem dX5_takePieces_9 : decode cX5_takePieces 9 = .ok (.istore 4, 2) := by decide +kernel
theorem dX5_takePieces_11 : decode cX5_takePieces 11 = .ok (.iconst 0, 1) := by decide +kernel
theorem dX5_takePieces_12 : decode cX5_takePieces 12 = .ok (.istore 5, 2) := by decide +kernel
theorem dX5_takePieces_14 : decode cX5_takePieces 14 = .ok (.iconst 0, 1) := by decide +kernel
theorem dX5_takePieces_15 : decode cX5_takePieces 15 = .ok (.istore 6, 2) := by decide +kernel
theorem dX5_takePieces_17 : decode cX5_takePieces 17 = .ok (.iload 6, 2) := by decide +kernel
theorem dX5_takePieces_19 : decode cX5_takePieces 19 = .ok (.aload_n 1, 1) := by decide +kernel
theorem dX5_takePieces_20 : decode cX5_takePieces 20 = .ok (.getfield 20, 3) := by decide +kernel
theorem dX5_takePieces_23 : decode cX5_takePieces 23 = .ok (.if_icmp .ge 84, 3) := by decide +kernel
theorem dX5_takePieces_26 : decode cX5_takePieces 26 = .ok (.aload_n 1, 1) := by decide +kernel
theorem dX5_takePieces_27 : decode cX5_takePieces 27 = .ok (.iload 6, 2) := by decide +kernel
theorem dX5_takePieces_29 : decode cX5_takePieces 29 = .ok (.invokevirtual 32, 3) := by decide +kernel
theorem dX5_takePieces_32 : decode cX5_takePieces 32 = .ok (.astore 7, 2) := by decide +kernel
theorem dX5_takePieces_34 : decode cX5_takePieces 34 = .ok (.aload 7, 2) := by decide +kernel
theorem dX5_takePieces_36 : decode cX5_takePieces 36 = .ok (.ifnull 65, 3) := by decide +kernel
theorem dX5_takePieces_39 : decode cX5_takePieces 39 = .ok (.aload_n 0, 1) := by decide +kernel
theorem dX5_takePieces_40 : decode cX5_takePieces 40 = .ok (.getfield 16, 3) := by decide +kernel
theorem dX5_takePieces_43 : decode cX5_takePieces 43 = .ok (.iload 6, 2) := by decide +kernel
theorem dX5_takePieces_45 : decode cX5_takePieces 45 = .ok (.aload_n 0, 1) := by decide +kernel
theorem dX5_takePieces_46 : decode cX5_takePieces 46 = .ok (.iload 6, 2) := by decide +kernel
theorem dX5_takePieces_48 : decode cX5_takePieces 48 = .ok (.aload 7, 2) := by decide +kernel
theorem dX5_takePieces_50 : decode cX5_takePieces 50 = .ok (.aload_n 2, 1) := by decide +kernel
theorem dX5_takePieces_51 : decode cX5_takePieces 51 = .ok (.aload 7, 2) := by decide +kernel
theorem dX5_takePieces_53 : decode cX5_takePieces 53 = .ok (.getfield 36, 3) := by decide +kernel
theorem dX5_takePieces_56 : decode cX5_takePieces 56 = .ok (.iaload, 1) := by decide +kernel
theorem dX5_takePieces_57 : decode cX5_takePieces 57 = .ok (.iload 4, 2) := by decide +kernel
theorem dX5_takePieces_59 : decode cX5_takePieces 59 = .ok (.invokevirtual 63, 3) := by decide +kernel
theorem dX5_takePieces_62 : decode cX5_takePieces 62 = .ok (.iastore, 1) := by decide +kernel
theorem dX5_takePieces_63 : decode cX5_takePieces 63 = .ok (.iload 4, 2) := by decide +kernel
theorem dX5_takePieces_65 : decode cX5_takePieces 65 = .ok (.aload_n 0, 1) := by decide +kernel
theorem dX5_takePieces_66 : decode cX5_takePieces 66 = .ok (.getfield 16, 3) := by decide +kernel
theorem dX5_takePieces_69 : decode cX5_takePieces 69 = .ok (.iload 6, 2) := by decide +kernel
theorem dX5_takePieces_71 : decode cX5_takePieces 71 = .ok (.iaload, 1) := by decide +kernel
theorem dX5_takePieces_72 : decode cX5_takePieces 72 = .ok (.aload_n 2, 1) := by decide +kernel
theorem dX5_takePieces_73 : decode cX5_takePieces 73 = .ok (.aload 7, 2) := by decide +kernel
theorem dX5_takePieces_75 : decode cX5_takePieces 75 = .ok (.getfield 36, 3) := by decide +kernel
theorem dX5_takePieces_78 : decode cX5_takePieces 78 = .ok (.iaload, 1) := by decide +kernel
theorem dX5_takePieces_79 : decode cX5_takePieces 79 = .ok (.imul, 1) := by decide +kernel
theorem dX5_takePieces_80 : decode cX5_takePieces 80 = .ok (.isub, 1) := by decide +kernel
theorem dX5_takePieces_81 : decode cX5_takePieces 81 = .ok (.istore 4, 2) := by decide +kernel
theorem dX5_takePieces_83 : decode cX5_takePieces 83 = .ok (.iload 5, 2) := by decide +kernel
theorem dX5_takePieces_85 : decode cX5_takePieces 85 = .ok (.aload_n 0, 1) := by decide +kernel
theorem dX5_takePieces_86 : decode cX5_takePieces 86 = .ok (.getfield 16, 3) := by decide +kernel
theorem dX5_takePieces_89 : decode cX5_takePieces 89 = .ok (.iload 6, 2) := by decide +kernel
theorem dX5_takePieces_91 : decode cX5_takePieces 91 = .ok (.iaload, 1) := by decide +kernel
theorem dX5_takePieces_92 : decode cX5_takePieces 92 = .ok (.aload 7, 2) := by decide +kernel
theorem dX5_takePieces_94 : decode cX5_takePieces 94 = .ok (.getfield 67, 3) := by decide +kernel
theorem dX5_takePieces_97 : decode cX5_takePieces 97 = .ok (.imul, 1) := by decide +kernel
theorem dX5_takePieces_98 : decode cX5_takePieces 98 = .ok (.iadd, 1) := by decide +kernel
theorem dX5_takePieces_99 : decode cX5_takePieces 99 = .ok (.istore 5, 2) := by decide +kernel
theorem dX5_takePieces_101 : decode cX5_takePieces 101 = .ok (.iinc 6 1, 3) := by decide +kernel
theorem dX5_takePieces_104 : decode cX5_takePieces 104 = .ok (.goto (-87), 3) := by decide +kernel
theorem dX5_takePieces_107 : decode cX5_takePieces 107 = .ok (.iload 5, 2) := by decide +kernel
theorem dX5_takePieces_109 : decode cX5_takePieces 109 = .ok (.ireturn, 1) := by decide +kernel
theorem dX5_mostAtBest_0 : decode cX5_mostAtBest 0 = .ok (.aload_n 2, 1) := by decide +kernel
theorem dX5_mostAtBest_1 : decode cX5_mostAtBest 1 = .ok (.iload_n 3, 1) := by decide +kernel
theorem dX5_mostAtBest_2 : decode cX5_mostAtBest 2 = .ok (.invokestatic 53, 3) := by decide +kernel
theorem dX5_mostAtBest_5 : decode cX5_mostAtBest 5 = .ok (.istore 5, 2) := by decide +kernel
theorem dX5_mostAtBest_7 : decode cX5_mostAtBest 7 = .ok (.iconst 0, 1) := by decide +kernel
theorem dX5_mostAtBest_8 : decode cX5_mostAtBest 8 = .ok (.istore 6, 2) := by decide +kernel
theorem dX5_mostAtBest_10 : decode cX5_mostAtBest 10 = .ok (.iload 4, 2) := by decide +kernel
theorem dX5_mostAtBest_12 : decode cX5_mostAtBest 12 = .ok (.istore 7, 2) := by decide +kernel
theorem dX5_mostAtBest_14 : decode cX5_mostAtBest 14 = .ok (.iconst 0, 1) := by decide +kernel
theorem dX5_mostAtBest_15 : decode cX5_mostAtBest 15 = .ok (.istore 8, 2) := by decide +kernel
theorem dX5_mostAtBest_17 : decode cX5_mostAtBest 17 = .ok (.iload 8, 2) := by decide +kernel
theorem dX5_mostAtBest_19 : decode cX5_mostAtBest 19 = .ok (.aload_n 2, 1) := by decide +kernel
theorem dX5_mostAtBest_20 : decode cX5_mostAtBest 20 = .ok (.invokestatic 49, 3) := by decide +kernel
theorem dX5_mostAtBest_23 : decode cX5_mostAtBest 23 = .ok (.if_icmp .gt 53, 3) := by decide +kernel
theorem dX5_mostAtBest_26 : decode cX5_mostAtBest 26 = .ok (.iload 7, 2) := by decide +kernel
theorem dX5_mostAtBest_28 : decode cX5_mostAtBest 28 = .ok (.ifCond .lt 48, 3) := by decide +kernel
theorem dX5_mostAtBest_31 : decode cX5_mostAtBest 31 = .ok (.iload 8, 2) := by decide +kernel
theorem dX5_mostAtBest_33 : decode cX5_mostAtBest 33 = .ok (.iload 5, 2) := by decide +kernel
theorem dX5_mostAtBest_35 : decode cX5_mostAtBest 35 = .ok (.imul, 1) := by decide +kernel
theorem dX5_mostAtBest_36 : decode cX5_mostAtBest 36 = .ok (.aload_n 0, 1) := by decide +kernel
theorem dX5_mostAtBest_37 : decode cX5_mostAtBest 37 = .ok (.getfield 11, 3) := by decide +kernel
theorem dX5_mostAtBest_40 : decode cX5_mostAtBest 40 = .ok (.iload_n 1, 1) := by decide +kernel
theorem dX5_mostAtBest_41 : decode cX5_mostAtBest 41 = .ok (.iconst 1, 1) := by decide +kernel
theorem dX5_mostAtBest_42 : decode cX5_mostAtBest 42 = .ok (.iadd, 1) := by decide +kernel
theorem dX5_mostAtBest_43 : decode cX5_mostAtBest 43 = .ok (.aaload, 1) := by decide +kernel
theorem dX5_mostAtBest_44 : decode cX5_mostAtBest 44 = .ok (.iload 7, 2) := by decide +kernel
theorem dX5_mostAtBest_46 : decode cX5_mostAtBest 46 = .ok (.iaload, 1) := by decide +kernel
theorem dX5_mostAtBest_47 : decode cX5_mostAtBest 47 = .ok (.iadd, 1) := by decide +kernel
theorem dX5_mostAtBest_48 : decode cX5_mostAtBest 48 = .ok (.aload_n 0, 1) := by decide +kernel
theorem dX5_mostAtBest_49 : decode cX5_mostAtBest 49 = .ok (.getfield 11, 3) := by decide +kernel
theorem dX5_mostAtBest_52 : decode cX5_mostAtBest 52 = .ok (.iload_n 1, 1) := by decide +kernel
theorem dX5_mostAtBest_53 : decode cX5_mostAtBest 53 = .ok (.aaload, 1) := by decide +kernel
theorem dX5_mostAtBest_54 : decode cX5_mostAtBest 54 = .ok (.iload 4, 2) := by decide +kernel
theorem dX5_mostAtBest_56 : decode cX5_mostAtBest 56 = .ok (.iaload, 1) := by decide +kernel
theorem dX5_mostAtBest_57 : decode cX5_mostAtBest 57 = .ok (.if_icmp .ne 7, 3) := by decide +kernel
theorem dX5_mostAtBest_60 : decode cX5_mostAtBest 60 = .ok (.iload 8, 2) := by decide +kernel
theorem dX5_mostAtBest_62 : decode cX5_mostAtBest 62 = .ok (.istore 6, 2) := by decide +kernel
theorem dX5_mostAtBest_64 : decode cX5_mostAtBest 64 = .ok (.iload 7, 2) := by decide +kernel
theorem dX5_mostAtBest_66 : decode cX5_mostAtBest 66 = .ok (.iload_n 3, 1) := by decide +kernel
theorem dX5_mostAtBest_67 : decode cX5_mostAtBest 67 = .ok (.isub, 1) := by decide +kernel
theorem dX5_mostAtBest_68 : decode cX5_mostAtBest 68 = .ok (.istore 7, 2) := by decide +kernel
theorem dX5_mostAtBest_70 : decode cX5_mostAtBest 70 = .ok (.iinc 8 1, 3) := by decide +kernel
theorem dX5_mostAtBest_73 : decode cX5_mostAtBest 73 = .ok (.goto (-56), 3) := by decide +kernel
theorem dX5_mostAtBest_76 : decode cX5_mostAtBest 76 = .ok (.iload 6, 2) := by decide +kernel
theorem dX5_mostAtBest_78 : decode cX5_mostAtBest 78 = .ok (.ireturn, 1) := by decide +kernel
theorem dX5_spaceIn_0 : decode cX5_spaceIn 0 = .ok (.aload_n 0, 1) := by decide +kernel
theorem dX5_spaceIn_1 : decode cX5_spaceIn 1 = .ok (.invokevirtual 70, 3) := by decide +kernel
theorem dX5_spaceIn_4 : decode cX5_spaceIn 4 = .ok (.ifCond .eq 7, 3) := by decide +kernel
theorem dX5_spaceIn_7 : decode cX5_spaceIn 7 = .ok (.iconst 0, 1) := by decide +kernel
theorem dX5_spaceIn_8 : decode cX5_spaceIn 8 = .ok (.goto 12, 3) := by decide +kernel
theorem dX5_spaceIn_11 : decode cX5_spaceIn 11 = .ok (.aload_n 0, 1) := by decide +kernel
theorem dX5_spaceIn_12 : decode cX5_spaceIn 12 = .ok (.getfield 74, 3) := by decide +kernel
theorem dX5_spaceIn_15 : decode cX5_spaceIn 15 = .ok (.aload_n 0, 1) := by decide +kernel
theorem dX5_spaceIn_16 : decode cX5_spaceIn 16 = .ok (.getfield 77, 3) := by decide +kernel
theorem dX5_spaceIn_19 : decode cX5_spaceIn 19 = .ok (.isub, 1) := by decide +kernel
theorem dX5_spaceIn_20 : decode cX5_spaceIn 20 = .ok (.ireturn, 1) := by decide +kernel
theorem dX5_gainOf_0 : decode cX5_gainOf 0 = .ok (.aload_n 0, 1) := by decide +kernel
theorem dX5_gainOf_1 : decode cX5_gainOf 1 = .ok (.getfield 67, 3) := by decide +kernel
theorem dX5_gainOf_4 : decode cX5_gainOf 4 = .ok (.sipush 256, 3) := by decide +kernel
theorem dX5_gainOf_7 : decode cX5_gainOf 7 = .ok (.imul, 1) := by decide +kernel
theorem dX5_gainOf_8 : decode cX5_gainOf 8 = .ok (.iload_n 1, 1) := by decide +kernel
theorem dX5_gainOf_9 : decode cX5_gainOf 9 = .ok (.isub, 1) := by decide +kernel
theorem dX5_gainOf_10 : decode cX5_gainOf 10 = .ok (.ireturn, 1) := by decide +kernel
theorem dJ9_max_7cf53_0 : decode cJ9_max_7cf53 0 = .ok (.iload_n 0, 1) := by decide +kernel
theorem dJ9_max_7cf53_1 : decode cJ9_max_7cf53 1 = .ok (.iload_n 1, 1) := by decide +kernel
theorem dJ9_max_7cf53_2 : decode cJ9_max_7cf53 2 = .ok (.if_icmp .lt 7, 3) := by decide +kernel
theorem dJ9_max_7cf53_5 : decode cJ9_max_7cf53 5 = .ok (.iload_n 0, 1) := by decide +kernel
theorem dJ9_max_7cf53_6 : decode cJ9_max_7cf53 6 = .ok (.goto 4, 3) := by decide +kernel
theorem dJ9_max_7cf53_9 : decode cJ9_max_7cf53 9 = .ok (.iload_n 1, 1) := by decide +kernel
theorem dJ9_max_7cf53_10 : decode cJ9_max_7cf53 10 = .ok (.ireturn, 1) := by decide +kernel
theorem dJ9_min_7cf53_0 : decode cJ9_min_7cf53 0 = .ok (.iload_n 0, 1) := by decide +kernel
theorem dJ9_min_7cf53_1 : decode cJ9_min_7cf53 1 = .ok (.iload_n 1, 1) := by decide +kernel
theorem dJ9_min_7cf53_2 : decode cJ9_min_7cf53 2 = .ok (.if_icmp .gt 7, 3) := by decide +kernel
theorem dJ9_min_7cf53_5 : decode cJ9_min_7cf53 5 = .ok (.iload_n 0, 1) := by decide +kernel
theorem dJ9_min_7cf53_6 : decode cJ9_min_7cf53 6 = .ok (.goto 4, 3) := by decide +kernel
theorem dJ9_min_7cf53_9 : decode cJ9_min_7cf53 9 = .ok (.iload_n 1, 1) := by decide +kernel
theorem dJ9_min_7cf53_10 : decode cJ9_min_7cf53 10 = .ok (.ireturn, 1) := by decide +kernel
theorem dJ7_fill_53178_0 : decode cJ7_fill_53178 0 = .ok (.iconst 0, 1) := by decide +kernel
theorem dJ7_fill_53178_1 : decode cJ7_fill_53178 1 = .ok (.istore_n 2, 1) := by decide +kernel
theorem dJ7_fill_53178_2 : decode cJ7_fill_53178 2 = .ok (.aload_n 0, 1) := by decide +kernel
theorem dJ7_fill_53178_3 : decode cJ7_fill_53178 3 = .ok (.arraylength, 1) := by decide +kernel
theorem dJ7_fill_53178_4 : decode cJ7_fill_53178 4 = .ok (.istore_n 3, 1) := by decide +kernel
theorem dJ7_fill_53178_5 : decode cJ7_fill_53178 5 = .ok (.iload_n 2, 1) := by decide +kernel
theorem dJ7_fill_53178_6 : decode cJ7_fill_53178 6 = .ok (.iload_n 3, 1) := by decide +kernel
theorem dJ7_fill_53178_7 : decode cJ7_fill_53178 7 = .ok (.if_icmp .ge 13, 3) := by decide +kernel
theorem dJ7_fill_53178_10 : decode cJ7_fill_53178 10 = .ok (.aload_n 0, 1) := by decide +kernel
theorem dJ7_fill_53178_11 : decode cJ7_fill_53178 11 = .ok (.iload_n 2, 1) := by decide +kernel
theorem dJ7_fill_53178_12 : decode cJ7_fill_53178 12 = .ok (.iload_n 1, 1) := by decide +kernel
theorem dJ7_fill_53178_13 : decode cJ7_fill_53178 13 = .ok (.iastore, 1) := by decide +kernel
theorem dJ7_fill_53178_14 : decode cJ7_fill_53178 14 = .ok (.iinc 2 1, 3) := by decide +kernel
theorem dJ7_fill_53178_17 : decode cJ7_fill_53178 17 = .ok (.goto (-12), 3) := by decide +kernel
theorem dJ7_fill_53178_20 : decode cJ7_fill_53178 20 = .ok (.return_, 1) := by decide +kernel
end
section
theorem dX6_init_0 : decode cX6_init 0 = .ok (.aload_n 0, 1) := by decide +kernel
theorem dX6_init_1 : decode cX6_init 1 = .ok (.invokespecial 1, 3) := by decide +kernel
theorem dX6_init_4 : decode cX6_init 4 = .ok (.aload_n 0, 1) := by decide +kernel
theorem dX6_init_5 : decode cX6_init 5 = .ok (.bipush 6, 2) := by decide +kernel
theorem dX6_init_7 : decode cX6_init 7 = .ok (.anewarray 9, 3) := by decide +kernel
theorem dX6_init_10 : decode cX6_init 10 = .ok (.putfield 11, 3) := by decide +kernel
theorem dX6_init_13 : decode cX6_init 13 = .ok (.aload_n 0, 1) := by decide +kernel
theorem dX6_init_14 : decode cX6_init 14 = .ok (.bipush 16, 2) := by decide +kernel
theorem dX6_init_16 : decode cX6_init 16 = .ok (.newarray .int, 2) := by decide +kernel
theorem dX6_init_18 : decode cX6_init 18 = .ok (.putfield 15, 3) := by decide +kernel
theorem dX6_init_21 : decode cX6_init 21 = .ok (.aload_n 0, 1) := by decide +kernel
theorem dX6_init_22 : decode cX6_init 22 = .ok (.getfield 15, 3) := by decide +kernel
theorem dX6_init_25 : decode cX6_init 25 = .ok (.iconst 1, 1) := by decide +kernel
theorem dX6_init_26 : decode cX6_init 26 = .ok (.invokestatic 19, 3) := by decide +kernel
theorem dX6_init_29 : decode cX6_init 29 = .ok (.aload_n 0, 1) := by decide +kernel
theorem dX6_init_30 : decode cX6_init 30 = .ok (.bipush 7, 2) := by decide +kernel
theorem dX6_init_32 : decode cX6_init 32 = .ok (.newarray .int, 2) := by decide +kernel
theorem dX6_init_34 : decode cX6_init 34 = .ok (.putfield 25, 3) := by decide +kernel
theorem dX6_init_37 : decode cX6_init 37 = .ok (.aload_n 0, 1) := by decide +kernel
theorem dX6_init_38 : decode cX6_init 38 = .ok (.getstatic 28, 3) := by decide +kernel
theorem dX6_init_41 : decode cX6_init 41 = .ok (.arraylength, 1) := by decide +kernel
theorem dX6_init_42 : decode cX6_init 42 = .ok (.newarray .int, 2) := by decide +kernel
theorem dX6_init_44 : decode cX6_init 44 = .ok (.putfield 31, 3) := by decide +kernel
theorem dX6_init_47 : decode cX6_init 47 = .ok (.aload_n 0, 1) := by decide +kernel
theorem dX6_init_48 : decode cX6_init 48 = .ok (.new 34, 3) := by decide +kernel
theorem dX6_init_51 : decode cX6_init 51 = .ok (.dup, 1) := by decide +kernel
theorem dX6_init_52 : decode cX6_init 52 = .ok (.invokespecial 36, 3) := by decide +kernel
theorem dX6_init_55 : decode cX6_init 55 = .ok (.putfield 37, 3) := by decide +kernel
theorem dX6_init_58 : decode cX6_init 58 = .ok (.aload_n 0, 1) := by decide +kernel
theorem dX6_init_59 : decode cX6_init 59 = .ok (.new 41, 3) := by decide +kernel
theorem dX6_init_62 : decode cX6_init 62 = .ok (.dup, 1) := by decide +kernel
theorem dX6_init_63 : decode cX6_init 63 = .ok (.invokespecial 43, 3) := by decide +kernel
theorem dX6_init_66 : decode cX6_init 66 = .ok (.putfield 44, 3) := by decide +kernel
theorem dX6_init_69 : decode cX6_init 69 = .ok (.return_, 1) := by decide +kernel
theorem dX6_machine_0 : decode cX6_machine 0 = .ok (.aload_n 0, 1) := by decide +kernel
theorem dX6_machine_1 : decode cX6_machine 1 = .ok (.getfield 48, 3) := by decide +kernel
theorem dX6_machine_4 : decode cX6_machine 4 = .ok (.aload_n 0, 1) := by decide +kernel
theorem dX6_machine_5 : decode cX6_machine 5 = .ok (.getfield 11, 3) := by decide +kernel
theorem dX6_machine_8 : decode cX6_machine 8 = .ok (.arraylength, 1) := by decide +kernel
theorem dX6_machine_9 : decode cX6_machine 9 = .ok (.if_icmp .lt 10, 3) := by decide +kernel
theorem dX6_machine_12 : decode cX6_machine 12 = .ok (.aload_n 0, 1) := by decide +kernel
theorem dX6_machine_13 : decode cX6_machine 13 = .ok (.bipush (-6), 2) := by decide +kernel
theorem dX6_machine_15 : decode cX6_machine 15 = .ok (.invokevirtual 52, 3) := by decide +kernel
theorem dX6_machine_18 : decode cX6_machine 18 = .ok (.ireturn, 1) := by decide +kernel
theorem dX6_machine_19 : decode cX6_machine 19 = .ok (.aload_n 0, 1) := by decide +kernel
theorem dX6_machine_20 : decode cX6_machine 20 = .ok (.getfield 11, 3) := by decide +kernel
theorem dX6_machine_23 : decode cX6_machine 23 = .ok (.aload_n 0, 1) := by decide +kernel
theorem dX6_machine_24 : decode cX6_machine 24 = .ok (.getfield 48, 3) := by decide +kernel
theorem dX6_machine_27 : decode cX6_machine 27 = .ok (.new 9, 3) := by decide +kernel
theorem dX6_machine_30 : decode cX6_machine 30 = .ok (.dup, 1) := by decide +kernel
theorem dX6_machine_31 : decode cX6_machine 31 = .ok (.invokespecial 56, 3) := by decide +kernel
theorem dX6_machine_34 : decode cX6_machine 34 = .ok (.aastore, 1) := by decide +kernel
theorem dX6_machine_35 : decode cX6_machine 35 = .ok (.aload_n 0, 1) := by decide +kernel
theorem dX6_machine_36 : decode cX6_machine 36 = .ok (.dup, 1) := by decide +kernel
theorem dX6_machine_37 : decode cX6_machine 37 = .ok (.getfield 48, 3) := by decide +kernel
theorem dX6_machine_40 : decode cX6_machine 40 = .ok (.iconst 1, 1) := by decide +kernel
theorem dX6_machine_41 : decode cX6_machine 41 = .ok (.iadd, 1) := by decide +kernel
theorem dX6_machine_42 : decode cX6_machine 42 = .ok (.putfield 48, 3) := by decide +kernel
theorem dX6_machine_45 : decode cX6_machine 45 = .ok (.aload_n 0, 1) := by decide +kernel
theorem dX6_machine_46 : decode cX6_machine 46 = .ok (.getfield 48, 3) := by decide +kernel
theorem dX6_machine_49 : decode cX6_machine 49 = .ok (.iconst 1, 1) := by decide +kernel
theorem dX6_machine_50 : decode cX6_machine 50 = .ok (.isub, 1) := by decide +kernel
theorem dX6_machine_51 : decode cX6_machine 51 = .ok (.ireturn, 1) := by decide +kernel
theorem dX6_lane_0 : decode cX6_lane 0 = .ok (.aload_n 0, 1) := by decide +kernel
theorem dX6_lane_1 : decode cX6_lane 1 = .ok (.iload_n 1, 1) := by decide +kernel
theorem dX6_lane_2 : decode cX6_lane 2 = .ok (.invokevirtual 57, 3) := by decide +kernel
theorem dX6_lane_5 : decode cX6_lane 5 = .ok (.astore 7, 2) := by decide +kernel
theorem dX6_lane_7 : decode cX6_lane 7 = .ok (.aload 7, 2) := by decide +kernel
theorem dX6_lane_9 : decode cX6_lane 9 = .ok (.ifnull 10, 3) := by decide +kernel
theorem dX6_lane_12 : decode cX6_lane 12 = .ok (.iload_n 2, 1) := by decide +kernel
theorem dX6_lane_13 : decode cX6_lane 13 = .ok (.invokestatic 61, 3) := by decide +kernel
theorem dX6_lane_16 : decode cX6_lane 16 = .ok (.ifCond .ne 9, 3) := by decide +kernel
theorem dX6_lane_19 : decode cX6_lane 19 = .ok (.aload_n 0, 1) := by decide +kernel
theorem dX6_lane_20 : decode cX6_lane 20 = .ok (.iconst (-1), 1) := by decide +kernel
theorem dX6_lane_21 : decode cX6_lane 21 = .ok (.invokevirtual 52, 3) := by decide +kernel
theorem dX6_lane_24 : decode cX6_lane 24 = .ok (.ireturn, 1) := by decide +kernel
theorem dX6_lane_25 : decode cX6_lane 25 = .ok (.iload 5, 2) := by decide +kernel
theorem dX6_lane_27 : decode cX6_lane 27 = .ok (.ifCond .lt 9, 3) := by decide +kernel
theorem dX6_lane_30 : decode cX6_lane 30 = .ok (.iload 5, 2) := by decide +kernel
theorem dX6_lane_32 : decode cX6_lane 32 = .ok (.iconst 3, 1) := by decide +kernel
theorem dX6_lane_33 : decode cX6_lane 33 = .ok (.if_icmp .le 10, 3) := by decide +kernel
theorem dX6_lane_36 : decode cX6_lane 36 = .ok (.aload_n 0, 1) := by decide +kernel
theorem dX6_lane_37 : decode cX6_lane 37 = .ok (.bipush (-2), 2) := by decide +kernel
theorem dX6_lane_39 : decode cX6_lane 39 = .ok (.invokevirtual 52, 3) := by decide +kernel
theorem dX6_lane_42 : decode cX6_lane 42 = .ok (.ireturn, 1) := by decide +kernel
theorem dX6_lane_43 : decode cX6_lane 43 = .ok (.iload 5, 2) := by decide +kernel
theorem dX6_lane_45 : decode cX6_lane 45 = .ok (.iconst 2, 1) := by decide +kernel
theorem dX6_lane_46 : decode cX6_lane 46 = .ok (.if_icmp .ne 8, 3) := by decide +kernel
theorem dX6_lane_49 : decode cX6_lane 49 = .ok (.iload 6, 2) := by decide +kernel
theorem dX6_lane_51 : decode cX6_lane 51 = .ok (.goto 4, 3) := by decide +kernel
theorem dX6_lane_54 : decode cX6_lane 54 = .ok (.iconst 0, 1) := by decide +kernel
theorem dX6_lane_55 : decode cX6_lane 55 = .ok (.istore 8, 2) := by decide +kernel
theorem dX6_lane_57 : decode cX6_lane 57 = .ok (.iload_n 3, 1) := by decide +kernel
theorem dX6_lane_58 : decode cX6_lane 58 = .ok (.invokestatic 65, 3) := by decide +kernel
theorem dX6_lane_61 : decode cX6_lane 61 = .ok (.ifCond .ne 14, 3) := by decide +kernel
theorem dX6_lane_64 : decode cX6_lane 64 = .ok (.iload 4, 2) := by decide +kernel
theorem dX6_lane_66 : decode cX6_lane 66 = .ok (.iconst 1, 1) := by decide +kernel
theorem dX6_lane_67 : decode cX6_lane 67 = .ok (.if_icmp .lt 8, 3) := by decide +kernel
theorem dX6_lane_70 : decode cX6_lane 70 = .ok (.iload 8, 2) := by decide +kernel
theorem dX6_lane_72 : decode cX6_lane 72 = .ok (.ifCond .ge 10, 3) := by decide +kernel
theorem dX6_lane_75 : decode cX6_lane 75 = .ok (.aload_n 0, 1) := by decide +kernel
theorem dX6_lane_76 : decode cX6_lane 76 = .ok (.bipush (-4), 2) := by decide +kernel
theorem dX6_lane_78 : decode cX6_lane 78 = .ok (.invokevirtual 52, 3) := by decide +kernel
theorem dX6_lane_81 : decode cX6_lane 81 = .ok (.ireturn, 1) := by decide +kernel
theorem dX6_lane_82 : decode cX6_lane 82 = .ok (.iload_n 3, 1) := by decide +kernel
theorem dX6_lane_83 : decode cX6_lane 83 = .ok (.sipush 5000, 3) := by decide +kernel
theorem dX6_lane_86 : decode cX6_lane 86 = .ok (.if_icmp .gt 25, 3) := by decide +kernel
theorem dX6_lane_89 : decode cX6_lane 89 = .ok (.iload 4, 2) := by decide +kernel
theorem dX6_lane_91 : decode cX6_lane 91 = .ok (.bipush 20, 2) := by decide +kernel
theorem dX6_lane_93 : decode cX6_lane 93 = .ok (.if_icmp .gt 18, 3) := by decide +kernel
theorem dX6_lane_96 : decode cX6_lane 96 = .ok (.iload 8, 2) := by decide +kernel
theorem dX6_lane_98 : decode cX6_lane 98 = .ok (.bipush 48, 2) := by decide +kernel
theorem dX6_lane_100 : decode cX6_lane 100 = .ok (.if_icmp .gt 11, 3) := by decide +kernel
theorem dX6_lane_103 : decode cX6_lane 103 = .ok (.aload 7, 2) := by decide +kernel
theorem dX6_lane_105 : decode cX6_lane 105 = .ok (.invokevirtual 68, 3) := by decide +kernel
theorem dX6_lane_108 : decode cX6_lane 108 = .ok (.ifCond .eq 10, 3) := by decide +kernel
theorem dX6_lane_111 : decode cX6_lane 111 = .ok (.aload_n 0, 1) := by decide +kernel
theorem dX6_lane_112 : decode cX6_lane 112 = .ok (.bipush (-6), 2) := by decide +kernel
theorem dX6_lane_114 : decode cX6_lane 114 = .ok (.invokevirtual 52, 3) := by decide +kernel
theorem dX6_lane_117 : decode cX6_lane 117 = .ok (.ireturn, 1) := by decide +kernel
theorem dX6_lane_118 : decode cX6_lane 118 = .ok (.aload 7, 2) := by decide +kernel
theorem dX6_lane_120 : decode cX6_lane 120 = .ok (.new 72, 3) := by decide +kernel
theorem dX6_lane_123 : decode cX6_lane 123 = .ok (.dup, 1) := by decide +kernel
theorem dX6_lane_124 : decode cX6_lane 124 = .ok (.iload_n 2, 1) := by decide +kernel
theorem dX6_lane_125 : decode cX6_lane 125 = .ok (.iload_n 3, 1) := by decide +kernel
theorem dX6_lane_126 : decode cX6_lane 126 = .ok (.iload 4, 2) := by decide +kernel
theorem dX6_lane_128 : decode cX6_lane 128 = .ok (.iload 5, 2) := by decide +kernel
theorem dX6_lane_130 : decode cX6_lane 130 = .ok (.iload 8, 2) := by decide +kernel
theorem dX6_lane_132 : decode cX6_lane 132 = .ok (.invokespecial 74, 3) := by decide +kernel
theorem dX6_lane_135 : decode cX6_lane 135 = .ok (.invokevirtual 77, 3) := by decide +kernel
theorem dX6_lane_138 : decode cX6_lane 138 = .ok (.ireturn, 1) := by decide +kernel
theorem dX6_size_0 : decode cX6_size 0 = .ok (.iload_n 1, 1) := by decide +kernel
theorem dX6_size_1 : decode cX6_size 1 = .ok (.invokestatic 61, 3) := by decide +kernel
theorem dX6_size_4 : decode cX6_size 4 = .ok (.ifCond .ne 9, 3) := by decide +kernel
theorem dX6_size_7 : decode cX6_size 7 = .ok (.aload_n 0, 1) := by decide +kernel
theorem dX6_size_8 : decode cX6_size 8 = .ok (.iconst (-1), 1) := by decide +kernel
theorem dX6_size_9 : decode cX6_size 9 = .ok (.invokevirtual 52, 3) := by decide +kernel
theorem dX6_size_12 : decode cX6_size 12 = .ok (.ireturn, 1) := by decide +kernel
theorem dX6_size_13 : decode cX6_size 13 = .ok (.iload_n 2, 1) := by decide +kernel
theorem dX6_size_14 : decode cX6_size 14 = .ok (.iconst 1, 1) := by decide +kernel
theorem dX6_size_15 : decode cX6_size 15 = .ok (.if_icmp .ge 10, 3) := by decide +kernel
theorem dX6_size_18 : decode cX6_size 18 = .ok (.aload_n 0, 1) := by decide +kernel
theorem dX6_size_19 : decode cX6_size 19 = .ok (.bipush (-4), 2) := by decide +kernel
theorem dX6_size_21 : decode cX6_size 21 = .ok (.invokevirtual 52, 3) := by decide +kernel
theorem dX6_size_24 : decode cX6_size 24 = .ok (.ireturn, 1) := by decide +kernel
theorem dX6_size_25 : decode cX6_size 25 = .ok (.iload_n 2, 1) := by decide +kernel
theorem dX6_size_26 : decode cX6_size 26 = .ok (.bipush 9, 2) := by decide +kernel
theorem dX6_size_28 : decode cX6_size 28 = .ok (.if_icmp .le 10, 3) := by decide +kernel
theorem dX6_size_31 : decode cX6_size 31 = .ok (.aload_n 0, 1) := by decide +kernel
theorem dX6_size_32 : decode cX6_size 32 = .ok (.bipush (-6), 2) := by decide +kernel
theorem dX6_size_34 : decode cX6_size 34 = .ok (.invokevirtual 52, 3) := by decide +kernel
theorem dX6_size_37 : decode cX6_size 37 = .ok (.ireturn, 1) := by decide +kernel
theorem dX6_size_38 : decode cX6_size 38 = .ok (.aload_n 0, 1) := by decide +kernel
theorem dX6_size_39 : decode cX6_size 39 = .ok (.getfield 15, 3) := by decide +kernel
theorem dX6_size_42 : decode cX6_size 42 = .ok (.iload_n 1, 1) := by decide +kernel
theorem dX6_size_43 : decode cX6_size 43 = .ok (.iaload, 1) := by decide +kernel
theorem dX6_size_44 : decode cX6_size 44 = .ok (.istore_n 3, 1) := by decide +kernel
theorem dX6_size_45 : decode cX6_size 45 = .ok (.aload_n 0, 1) := by decide +kernel
theorem dX6_size_46 : decode cX6_size 46 = .ok (.getfield 15, 3) := by decide +kernel
theorem dX6_size_49 : decode cX6_size 49 = .ok (.iload_n 1, 1) := by decide +kernel
theorem dX6_size_50 : decode cX6_size 50 = .ok (.iload_n 2, 1) := by decide +kernel
theorem dX6_size_51 : decode cX6_size 51 = .ok (.iastore, 1) := by decide +kernel
theorem dX6_size_52 : decode cX6_size 52 = .ok (.iload_n 3, 1) := by decide +kernel
theorem dX6_size_53 : decode cX6_size 53 = .ok (.ireturn, 1) := by decide +kernel
theorem dX6_price_0 : decode cX6_price 0 = .ok (.aload_n 0, 1) := by decide +kernel
theorem dX6_price_1 : decode cX6_price 1 = .ok (.iload_n 1, 1) := by decide +kernel
theorem dX6_price_2 : decode cX6_price 2 = .ok (.iload_n 2, 1) := by decide +kernel
theorem dX6_price_3 : decode cX6_price 3 = .ok (.invokevirtual 81, 3) := by decide +kernel
theorem dX6_price_6 : decode cX6_price 6 = .ok (.astore 4, 2) := by decide +kernel
theorem dX6_price_8 : decode cX6_price 8 = .ok (.aload 4, 2) := by decide +kernel
theorem dX6_price_10 : decode cX6_price 10 = .ok (.ifnonnull 9, 3) := by decide +kernel
theorem dX6_price_13 : decode cX6_price 13 = .ok (.aload_n 0, 1) := by decide +kernel
theorem dX6_price_14 : decode cX6_price 14 = .ok (.iconst (-1), 1) := by decide +kernel
theorem dX6_price_15 : decode cX6_price 15 = .ok (.invokevirtual 52, 3) := by decide +kernel
theorem dX6_price_18 : decode cX6_price 18 = .ok (.ireturn, 1) := by decide +kernel
theorem dX6_price_19 : decode cX6_price 19 = .ok (.iload_n 3, 1) := by decide +kernel
theorem dX6_price_20 : decode cX6_price 20 = .ok (.invokestatic 65, 3) := by decide +kernel
theorem dX6_price_23 : decode cX6_price 23 = .ok (.ifCond .eq 10, 3) := by decide +kernel
theorem dX6_price_26 : decode cX6_price 26 = .ok (.aload_n 0, 1) := by decide +kernel
theorem dX6_price_27 : decode cX6_price 27 = .ok (.bipush (-4), 2) := by decide +kernel
theorem dX6_price_29 : decode cX6_price 29 = .ok (.invokevirtual 52, 3) := by decide +kernel
theorem dX6_price_32 : decode cX6_price 32 = .ok (.ireturn, 1) := by decide +kernel
theorem dX6_price_33 : decode cX6_price 33 = .ok (.iload_n 3, 1) := by decide +kernel
theorem dX6_price_34 : decode cX6_price 34 = .ok (.sipush 5000, 3) := by decide +kernel
theorem dX6_price_37 : decode cX6_price 37 = .ok (.if_icmp .le 10, 3) := by decide +kernel
theorem dX6_price_40 : decode cX6_price 40 = .ok (.aload_n 0, 1) := by decide +kernel
theorem dX6_price_41 : decode cX6_price 41 = .ok (.bipush (-6), 2) := by decide +kernel
theorem dX6_price_43 : decode cX6_price 43 = .ok (.invokevirtual 52, 3) := by decide +kernel
theorem dX6_price_46 : decode cX6_price 46 = .ok (.ireturn, 1) := by decide +kernel
theorem dX6_price_47 : decode cX6_price 47 = .ok (.aload 4, 2) := by decide +kernel
theorem dX6_price_49 : decode cX6_price 49 = .ok (.getfield 85, 3) := by decide +kernel
theorem dX6_price_52 : decode cX6_price 52 = .ok (.istore 5, 2) := by decide +kernel
theorem dX6_price_54 : decode cX6_price 54 = .ok (.aload 4, 2) := by decide +kernel
theorem dX6_price_56 : decode cX6_price 56 = .ok (.iload_n 3, 1) := by decide +kernel
theorem dX6_price_57 : decode cX6_price 57 = .ok (.putfield 85, 3) := by decide +kernel
theorem dX6_price_60 : decode cX6_price 60 = .ok (.iload 5, 2) := by decide +kernel
theorem dX6_price_62 : decode cX6_price 62 = .ok (.ireturn, 1) := by decide +kernel
theorem dX6_tube_0 : decode cX6_tube 0 = .ok (.aload_n 0, 1) := by decide +kernel
theorem dX6_tube_1 : decode cX6_tube 1 = .ok (.iload_n 1, 1) := by decide +kernel
theorem dX6_tube_2 : decode cX6_tube 2 = .ok (.invokevirtual 57, 3) := by decide +kernel
theorem dX6_tube_5 : decode cX6_tube 5 = .ok (.astore 4, 2) := by decide +kernel
theorem dX6_tube_7 : decode cX6_tube 7 = .ok (.aload 4, 2) := by decide +kernel
theorem dX6_tube_9 : decode cX6_tube 9 = .ok (.ifnull 10, 3) := by decide +kernel
theorem dX6_tube_12 : decode cX6_tube 12 = .ok (.iload_n 2, 1) := by decide +kernel
theorem dX6_tube_13 : decode cX6_tube 13 = .ok (.invokestatic 88, 3) := by decide +kernel
theorem dX6_tube_16 : decode cX6_tube 16 = .ok (.ifCond .ne 9, 3) := by decide +kernel
theorem dX6_tube_19 : decode cX6_tube 19 = .ok (.aload_n 0, 1) := by decide +kernel
theorem dX6_tube_20 : decode cX6_tube 20 = .ok (.iconst (-1), 1) := by decide +kernel
theorem dX6_tube_21 : decode cX6_tube 21 = .ok (.invokevirtual 52, 3) := by decide +kernel
theorem dX6_tube_24 : decode cX6_tube 24 = .ok (.ireturn, 1) := by decide +kernel
theorem dX6_tube_25 : decode cX6_tube 25 = .ok (.iload_n 3, 1) := by decide +kernel
theorem dX6_tube_26 : decode cX6_tube 26 = .ok (.ifCond .ge 10, 3) := by decide +kernel
theorem dX6_tube_29 : decode cX6_tube 29 = .ok (.aload_n 0, 1) := by decide +kernel
theorem dX6_tube_30 : decode cX6_tube 30 = .ok (.bipush (-4), 2) := by decide +kernel
theorem dX6_tube_32 : decode cX6_tube 32 = .ok (.invokevirtual 52, 3) := by decide +kernel
theorem dX6_tube_35 : decode cX6_tube 35 = .ok (.ireturn, 1) := by decide +kernel
theorem dX6_tube_36 : decode cX6_tube 36 = .ok (.iload_n 3, 1) := by decide +kernel
theorem dX6_tube_37 : decode cX6_tube 37 = .ok (.bipush 50, 2) := by decide +kernel
theorem dX6_tube_39 : decode cX6_tube 39 = .ok (.aload 4, 2) := by decide +kernel
theorem dX6_tube_41 : decode cX6_tube 41 = .ok (.getfield 91, 3) := by decide +kernel
theorem dX6_tube_44 : decode cX6_tube 44 = .ok (.getfield 95, 3) := by decide +kernel
theorem dX6_tube_47 : decode cX6_tube 47 = .ok (.iload_n 2, 1) := by decide +kernel
theorem dX6_tube_48 : decode cX6_tube 48 = .ok (.iaload, 1) := by decide +kernel
theorem dX6_tube_49 : decode cX6_tube 49 = .ok (.isub, 1) := by decide +kernel
theorem dX6_tube_50 : decode cX6_tube 50 = .ok (.if_icmp .le 10, 3) := by decide +kernel
theorem dX6_tube_53 : decode cX6_tube 53 = .ok (.aload_n 0, 1) := by decide +kernel
theorem dX6_tube_54 : decode cX6_tube 54 = .ok (.bipush (-6), 2) := by decide +kernel
theorem dX6_tube_56 : decode cX6_tube 56 = .ok (.invokevirtual 52, 3) := by decide +kernel
theorem dX6_tube_59 : decode cX6_tube 59 = .ok (.ireturn, 1) := by decide +kernel
theorem dX6_tube_60 : decode cX6_tube 60 = .ok (.aload 4, 2) := by decide +kernel
theorem dX6_tube_62 : decode cX6_tube 62 = .ok (.getfield 91, 3) := by decide +kernel
theorem dX6_tube_65 : decode cX6_tube 65 = .ok (.iload_n 2, 1) := by decide +kernel
theorem dX6_tube_66 : decode cX6_tube 66 = .ok (.iload_n 3, 1) := by decide +kernel
theorem dX6_tube_67 : decode cX6_tube 67 = .ok (.invokevirtual 100, 3) := by decide +kernel
theorem dX6_tube_70 : decode cX6_tube 70 = .ok (.aload 4, 2) := by decide +kernel
theorem dX6_tube_72 : decode cX6_tube 72 = .ok (.getfield 91, 3) := by decide +kernel
theorem dX6_tube_75 : decode cX6_tube 75 = .ok (.getfield 95, 3) := by decide +kernel
theorem dX6_tube_78 : decode cX6_tube 78 = .ok (.iload_n 2, 1) := by decide +kernel
theorem dX6_tube_79 : decode cX6_tube 79 = .ok (.iaload, 1) := by decide +kernel
theorem dX6_tube_80 : decode cX6_tube 80 = .ok (.ireturn, 1) := by decide +kernel
theorem dX6_stick_0 : decode cX6_stick 0 = .ok (.aload_n 0, 1) := by decide +kernel
theorem dX6_stick_1 : decode cX6_stick 1 = .ok (.iload_n 1, 1) := by decide +kernel
theorem dX6_stick_2 : decode cX6_stick 2 = .ok (.iload_n 2, 1) := by decide +kernel
theorem dX6_stick_3 : decode cX6_stick 3 = .ok (.invokevirtual 81, 3) := by decide +kernel
theorem dX6_stick_6 : decode cX6_stick 6 = .ok (.astore 4, 2) := by decide +kernel
theorem dX6_stick_8 : decode cX6_stick 8 = .ok (.aload 4, 2) := by decide +kernel
theorem dX6_stick_10 : decode cX6_stick 10 = .ok (.ifnonnull 9, 3) := by decide +kernel
theorem dX6_stick_13 : decode cX6_stick 13 = .ok (.aload_n 0, 1) := by decide +kernel
theorem dX6_stick_14 : decode cX6_stick 14 = .ok (.iconst (-1), 1) := by decide +kernel
theorem dX6_stick_15 : decode cX6_stick 15 = .ok (.invokevirtual 52, 3) := by decide +kernel
theorem dX6_stick_18 : decode cX6_stick 18 = .ok (.ireturn, 1) := by decide +kernel
theorem dX6_stick_19 : decode cX6_stick 19 = .ok (.aload 4, 2) := by decide +kernel
theorem dX6_stick_21 : decode cX6_stick 21 = .ok (.getfield 104, 3) := by decide +kernel
theorem dX6_stick_24 : decode cX6_stick 24 = .ok (.iconst 1, 1) := by decide +kernel
theorem dX6_stick_25 : decode cX6_stick 25 = .ok (.if_icmp .eq 10, 3) := by decide +kernel
theorem dX6_stick_28 : decode cX6_stick 28 = .ok (.aload_n 0, 1) := by decide +kernel
theorem dX6_stick_29 : decode cX6_stick 29 = .ok (.bipush (-2), 2) := by decide +kernel
theorem dX6_stick_31 : decode cX6_stick 31 = .ok (.invokevirtual 52, 3) := by decide +kernel
theorem dX6_stick_34 : decode cX6_stick 34 = .ok (.ireturn, 1) := by decide +kernel
theorem dX6_stick_35 : decode cX6_stick 35 = .ok (.iload_n 3, 1) := by decide +kernel
theorem dX6_stick_36 : decode cX6_stick 36 = .ok (.ifCond .ge 10, 3) := by decide +kernel
theorem dX6_stick_39 : decode cX6_stick 39 = .ok (.aload_n 0, 1) := by decide +kernel
theorem dX6_stick_40 : decode cX6_stick 40 = .ok (.bipush (-4), 2) := by decide +kernel
theorem dX6_stick_42 : decode cX6_stick 42 = .ok (.invokevirtual 52, 3) := by decide +kernel
theorem dX6_stick_45 : decode cX6_stick 45 = .ok (.ireturn, 1) := by decide +kernel
theorem dX6_stick_46 : decode cX6_stick 46 = .ok (.iload_n 3, 1) := by decide +kernel
theorem dX6_stick_47 : decode cX6_stick 47 = .ok (.bipush 9, 2) := by decide +kernel
theorem dX6_stick_49 : decode cX6_stick 49 = .ok (.aload 4, 2) := by decide +kernel
theorem dX6_stick_51 : decode cX6_stick 51 = .ok (.getfield 107, 3) := by decide +kernel
theorem dX6_stick_54 : decode cX6_stick 54 = .ok (.isub, 1) := by decide +kernel
theorem dX6_stick_55 : decode cX6_stick 55 = .ok (.if_icmp .le 10, 3) := by decide +kernel
theorem dX6_stick_58 : decode cX6_stick 58 = .ok (.aload_n 0, 1) := by decide +kernel
theorem dX6_stick_59 : decode cX6_stick 59 = .ok (.bipush (-6), 2) := by decide +kernel
theorem dX6_stick_61 : decode cX6_stick 61 = .ok (.invokevirtual 52, 3) := by decide +kernel
theorem dX6_stick_64 : decode cX6_stick 64 = .ok (.ireturn, 1) := by decide +kernel
theorem dX6_stick_65 : decode cX6_stick 65 = .ok (.aload 4, 2) := by decide +kernel
theorem dX6_stick_67 : decode cX6_stick 67 = .ok (.dup, 1) := by decide +kernel
theorem dX6_stick_68 : decode cX6_stick 68 = .ok (.getfield 107, 3) := by decide +kernel
theorem dX6_stick_71 : decode cX6_stick 71 = .ok (.iload_n 3, 1) := by decide +kernel
theorem dX6_stick_72 : decode cX6_stick 72 = .ok (.iadd, 1) := by decide +kernel
theorem dX6_stick_73 : decode cX6_stick 73 = .ok (.putfield 107, 3) := by decide +kernel
theorem dX6_stick_76 : decode cX6_stick 76 = .ok (.aload 4, 2) := by decide +kernel
theorem dX6_stick_78 : decode cX6_stick 78 = .ok (.getfield 107, 3) := by decide +kernel
theorem dX6_stick_81 : decode cX6_stick 81 = .ok (.ireturn, 1) := by decide +kernel
theorem dX6_shut_0 : decode cX6_shut 0 = .ok (.aload_n 0, 1) := by decide +kernel
theorem dX6_shut_1 : decode cX6_shut 1 = .ok (.iload_n 1, 1) := by decide +kernel
theorem dX6_shut_2 : decode cX6_shut 2 = .ok (.iload_n 2, 1) := by decide +kernel
theorem dX6_shut_3 : decode cX6_shut 3 = .ok (.invokevirtual 81, 3) := by decide +kernel
theorem dX6_shut_6 : decode cX6_shut 6 = .ok (.astore 4, 2) := by decide +kernel
theorem dX6_shut_8 : decode cX6_shut 8 = .ok (.aload 4, 2) := by decide +kernel
theorem dX6_shut_10 : decode cX6_shut 10 = .ok (.ifnull 12, 3) := by decide +kernel
theorem dX6_shut_13 : decode cX6_shut 13 = .ok (.aload 4, 2) := by decide +kernel
theorem dX6_shut_15 : decode cX6_shut 15 = .ok (.getfield 110, 3) := by decide +kernel
theorem dX6_shut_18 : decode cX6_shut 18 = .ok (.iload_n 3, 1) := by decide +kernel
theorem dX6_shut_19 : decode cX6_shut 19 = .ok (.if_icmp .ne 5, 3) := by decide +kernel
theorem dX6_shut_22 : decode cX6_shut 22 = .ok (.iconst 0, 1) := by decide +kernel
theorem dX6_shut_23 : decode cX6_shut 23 = .ok (.ireturn, 1) := by decide +kernel
theorem dX6_shut_24 : decode cX6_shut 24 = .ok (.aload 4, 2) := by decide +kernel
theorem dX6_shut_26 : decode cX6_shut 26 = .ok (.iload_n 3, 1) := by decide +kernel
theorem dX6_shut_27 : decode cX6_shut 27 = .ok (.putfield 110, 3) := by decide +kernel
theorem dX6_shut_30 : decode cX6_shut 30 = .ok (.iload_n 3, 1) := by decide +kernel
theorem dX6_shut_31 : decode cX6_shut 31 = .ok (.ifCond .ne 9, 3) := by decide +kernel
theorem dX6_shut_34 : decode cX6_shut 34 = .ok (.aload 4, 2) := by decide +kernel
theorem dX6_shut_36 : decode cX6_shut 36 = .ok (.iconst 0, 1) := by decide +kernel
theorem dX6_shut_37 : decode cX6_shut 37 = .ok (.putfield 114, 3) := by decide +kernel
theorem dX6_shut_40 : decode cX6_shut 40 = .ok (.iconst 1, 1) := by decide +kernel
theorem dX6_shut_41 : decode cX6_shut 41 = .ok (.ireturn, 1) := by decide +kernel
theorem dX6_power_0 : decode cX6_power 0 = .ok (.aload_n 0, 1) := by decide +kernel
theorem dX6_power_1 : decode cX6_power 1 = .ok (.iload_n 1, 1) := by decide +kernel
theorem dX6_power_2 : decode cX6_power 2 = .ok (.invokevirtual 57, 3) := by decide +kernel
theorem dX6_power_5 : decode cX6_power 5 = .ok (.astore_n 3, 1) := by decide +kernel
theorem dX6_power_6 : decode cX6_power 6 = .ok (.aload_n 3, 1) := by decide +kernel
theorem dX6_power_7 : decode cX6_power 7 = .ok (.ifnull 11, 3) := by decide +kernel
theorem dX6_power_10 : decode cX6_power 10 = .ok (.aload_n 3, 1) := by decide +kernel
theorem dX6_power_11 : decode cX6_power 11 = .ok (.getfield 117, 3) := by decide +kernel
theorem dX6_power_14 : decode cX6_power 14 = .ok (.iload_n 2, 1) := by decide +kernel
theorem dX6_power_15 : decode cX6_power 15 = .ok (.if_icmp .ne 5, 3) := by decide +kernel
theorem dX6_power_18 : decode cX6_power 18 = .ok (.iconst 0, 1) := by decide +kernel
theorem dX6_power_19 : decode cX6_power 19 = .ok (.ireturn, 1) := by decide +kernel
theorem dX6_power_20 : decode cX6_power 20 = .ok (.aload_n 3, 1) := by decide +kernel
theorem dX6_power_21 : decode cX6_power 21 = .ok (.iload_n 2, 1) := by decide +kernel
theorem dX6_power_22 : decode cX6_power 22 = .ok (.putfield 117, 3) := by decide +kernel
theorem dX6_power_25 : decode cX6_power 25 = .ok (.aload_n 3, 1) := by decide +kernel
theorem dX6_power_26 : decode cX6_power 26 = .ok (.iconst 0, 1) := by decide +kernel
theorem dX6_power_27 : decode cX6_power 27 = .ok (.putfield 120, 3) := by decide +kernel
theorem dX6_power_30 : decode cX6_power 30 = .ok (.iconst 1, 1) := by decide +kernel
theorem dX6_power_31 : decode cX6_power 31 = .ok (.ireturn, 1) := by decide +kernel
theorem dX6_fill_0 : decode cX6_fill 0 = .ok (.aload_n 0, 1) := by decide +kernel
theorem dX6_fill_1 : decode cX6_fill 1 = .ok (.iload_n 1, 1) := by decide +kernel
theorem dX6_fill_2 : decode cX6_fill 2 = .ok (.invokevirtual 57, 3) := by decide +kernel
theorem dX6_fill_5 : decode cX6_fill 5 = .ok (.astore 4, 2) := by decide +kernel
theorem dX6_fill_7 : decode cX6_fill 7 = .ok (.aload_n 0, 1) := by decide +kernel
theorem dX6_fill_8 : decode cX6_fill 8 = .ok (.iload_n 1, 1) := by decide +kernel
theorem dX6_fill_9 : decode cX6_fill 9 = .ok (.iload_n 2, 1) := by decide +kernel
theorem dX6_fill_10 : decode cX6_fill 10 = .ok (.invokevirtual 81, 3) := by decide +kernel
theorem dX6_fill_13 : decode cX6_fill 13 = .ok (.astore 5, 2) := by decide +kernel
theorem dX6_fill_15 : decode cX6_fill 15 = .ok (.aload 4, 2) := by decide +kernel
theorem dX6_fill_17 : decode cX6_fill 17 = .ok (.ifnull 8, 3) := by decide +kernel
theorem dX6_fill_20 : decode cX6_fill 20 = .ok (.aload 5, 2) := by decide +kernel
theorem dX6_fill_22 : decode cX6_fill 22 = .ok (.ifnonnull 9, 3) := by decide +kernel
theorem dX6_fill_25 : decode cX6_fill 25 = .ok (.aload_n 0, 1) := by decide +kernel
theorem dX6_fill_26 : decode cX6_fill 26 = .ok (.iconst (-1), 1) := by decide +kernel
theorem dX6_fill_27 : decode cX6_fill 27 = .ok (.invokevirtual 52, 3) := by decide +kernel
theorem dX6_fill_30 : decode cX6_fill 30 = .ok (.ireturn, 1) := by decide +kernel
theorem dX6_fill_31 : decode cX6_fill 31 = .ok (.aload 5, 2) := by decide +kernel
theorem dX6_fill_33 : decode cX6_fill 33 = .ok (.getfield 123, 3) := by decide +kernel
theorem dX6_fill_36 : decode cX6_fill 36 = .ok (.ifCond .eq 10, 3) := by decide +kernel
theorem dX6_fill_39 : decode cX6_fill 39 = .ok (.aload_n 0, 1) := by decide +kernel
theorem dX6_fill_40 : decode cX6_fill 40 = .ok (.bipush (-3), 2) := by decide +kernel
theorem dX6_fill_42 : decode cX6_fill 42 = .ok (.invokevirtual 52, 3) := by decide +kernel
theorem dX6_fill_45 : decode cX6_fill 45 = .ok (.ireturn, 1) := by decide +kernel
theorem dX6_fill_46 : decode cX6_fill 46 = .ok (.iload_n 3, 1) := by decide +kernel
theorem dX6_fill_47 : decode cX6_fill 47 = .ok (.ifCond .ge 10, 3) := by decide +kernel
theorem dX6_fill_50 : decode cX6_fill 50 = .ok (.aload_n 0, 1) := by decide +kernel
theorem dX6_fill_51 : decode cX6_fill 51 = .ok (.bipush (-4), 2) := by decide +kernel
theorem dX6_fill_53 : decode cX6_fill 53 = .ok (.invokevirtual 52, 3) := by decide +kernel
theorem dX6_fill_56 : decode cX6_fill 56 = .ok (.ireturn, 1) := by decide +kernel
theorem dX6_fill_57 : decode cX6_fill 57 = .ok (.iload_n 3, 1) := by decide +kernel
theorem dX6_fill_58 : decode cX6_fill 58 = .ok (.aload 5, 2) := by decide +kernel
theorem dX6_fill_60 : decode cX6_fill 60 = .ok (.getfield 126, 3) := by decide +kernel
theorem dX6_fill_63 : decode cX6_fill 63 = .ok (.aload 5, 2) := by decide +kernel
theorem dX6_fill_65 : decode cX6_fill 65 = .ok (.getfield 129, 3) := by decide +kernel
theorem dX6_fill_68 : decode cX6_fill 68 = .ok (.isub, 1) := by decide +kernel
theorem dX6_fill_69 : decode cX6_fill 69 = .ok (.if_icmp .le 10, 3) := by decide +kernel
theorem dX6_fill_72 : decode cX6_fill 72 = .ok (.aload_n 0, 1) := by decide +kernel
theorem dX6_fill_73 : decode cX6_fill 73 = .ok (.bipush (-6), 2) := by decide +kernel
theorem dX6_fill_75 : decode cX6_fill 75 = .ok (.invokevirtual 52, 3) := by decide +kernel
theorem dX6_fill_78 : decode cX6_fill 78 = .ok (.ireturn, 1) := by decide +kernel
theorem dX6_fill_79 : decode cX6_fill 79 = .ok (.aload 5, 2) := by decide +kernel
theorem dX6_fill_81 : decode cX6_fill 81 = .ok (.dup, 1) := by decide +kernel
theorem dX6_fill_82 : decode cX6_fill 82 = .ok (.getfield 129, 3) := by decide +kernel
theorem dX6_fill_85 : decode cX6_fill 85 = .ok (.iload_n 3, 1) := by decide +kernel
theorem dX6_fill_86 : decode cX6_fill 86 = .ok (.iadd, 1) := by decide +kernel
theorem dX6_fill_87 : decode cX6_fill 87 = .ok (.putfield 129, 3) := by decide +kernel
theorem dX6_fill_90 : decode cX6_fill 90 = .ok (.aload 4, 2) := by decide +kernel
theorem dX6_fill_92 : decode cX6_fill 92 = .ok (.dup, 1) := by decide +kernel
theorem dX6_fill_93 : decode cX6_fill 93 = .ok (.getfield 132, 3) := by decide +kernel
theorem dX6_fill_96 : decode cX6_fill 96 = .ok (.iload_n 3, 1) := by decide +kernel
theorem dX6_fill_97 : decode cX6_fill 97 = .ok (.iadd, 1) := by decide +kernel
theorem dX6_fill_98 : decode cX6_fill 98 = .ok (.putfield 132, 3) := by decide +kernel
theorem dX6_fill_101 : decode cX6_fill 101 = .ok (.aload 5, 2) := by decide +kernel
theorem dX6_fill_103 : decode cX6_fill 103 = .ok (.getfield 129, 3) := by decide +kernel
theorem dX6_fill_106 : decode cX6_fill 106 = .ok (.ireturn, 1) := by decide +kernel
theorem dX6_found_0 : decode cX6_found 0 = .ok (.aload_n 0, 1) := by decide +kernel
theorem dX6_found_1 : decode cX6_found 1 = .ok (.iload_n 1, 1) := by decide +kernel
theorem dX6_found_2 : decode cX6_found 2 = .ok (.invokevirtual 57, 3) := by decide +kernel
theorem dX6_found_5 : decode cX6_found 5 = .ok (.astore 4, 2) := by decide +kernel
theorem dX6_found_7 : decode cX6_found 7 = .ok (.aload_n 0, 1) := by decide +kernel
theorem dX6_found_8 : decode cX6_found 8 = .ok (.iload_n 1, 1) := by decide +kernel
theorem dX6_found_9 : decode cX6_found 9 = .ok (.iload_n 2, 1) := by decide +kernel
theorem dX6_found_10 : decode cX6_found 10 = .ok (.invokevirtual 81, 3) := by decide +kernel
theorem dX6_found_13 : decode cX6_found 13 = .ok (.astore 5, 2) := by decide +kernel
theorem dX6_found_15 : decode cX6_found 15 = .ok (.aload 4, 2) := by decide +kernel
theorem dX6_found_17 : decode cX6_found 17 = .ok (.ifnull 8, 3) := by decide +kernel
theorem dX6_found_20 : decode cX6_found 20 = .ok (.aload 5, 2) := by decide +kernel
theorem dX6_found_22 : decode cX6_found 22 = .ok (.ifnonnull 9, 3) := by decide +kernel
theorem dX6_found_25 : decode cX6_found 25 = .ok (.aload_n 0, 1) := by decide +kernel
theorem dX6_found_26 : decode cX6_found 26 = .ok (.iconst (-1), 1) := by decide +kernel
theorem dX6_found_27 : decode cX6_found 27 = .ok (.invokevirtual 52, 3) := by decide +kernel
theorem dX6_found_30 : decode cX6_found 30 = .ok (.ireturn, 1) := by decide +kernel
theorem dX6_found_31 : decode cX6_found 31 = .ok (.iload_n 3, 1) := by decide +kernel
theorem dX6_found_32 : decode cX6_found 32 = .ok (.ifCond .ge 10, 3) := by decide +kernel
theorem dX6_found_35 : decode cX6_found 35 = .ok (.aload_n 0, 1) := by decide +kernel
theorem dX6_found_36 : decode cX6_found 36 = .ok (.bipush (-4), 2) := by decide +kernel
theorem dX6_found_38 : decode cX6_found 38 = .ok (.invokevirtual 52, 3) := by decide +kernel
theorem dX6_found_41 : decode cX6_found 41 = .ok (.ireturn, 1) := by decide +kernel
theorem dX6_found_42 : decode cX6_found 42 = .ok (.iload_n 3, 1) := by decide +kernel
theorem dX6_found_43 : decode cX6_found 43 = .ok (.aload 5, 2) := by decide +kernel
theorem dX6_found_45 : decode cX6_found 45 = .ok (.getfield 126, 3) := by decide +kernel
theorem dX6_found_48 : decode cX6_found 48 = .ok (.if_icmp .le 10, 3) := by decide +kernel
theorem dX6_found_51 : decode cX6_found 51 = .ok (.aload_n 0, 1) := by decide +kernel
theorem dX6_found_52 : decode cX6_found 52 = .ok (.bipush (-6), 2) := by decide +kernel
theorem dX6_found_54 : decode cX6_found 54 = .ok (.invokevirtual 52, 3) := by decide +kernel
theorem dX6_found_57 : decode cX6_found 57 = .ok (.ireturn, 1) := by decide +kernel
theorem dX6_found_58 : decode cX6_found 58 = .ok (.aload 5, 2) := by decide +kernel
theorem dX6_found_60 : decode cX6_found 60 = .ok (.getfield 129, 3) := by decide +kernel
theorem dX6_found_63 : decode cX6_found 63 = .ok (.istore 6, 2) := by decide +kernel
theorem dX6_found_65 : decode cX6_found 65 = .ok (.aload 4, 2) := by decide +kernel
theorem dX6_found_67 : decode cX6_found 67 = .ok (.dup, 1) := by decide +kernel
theorem dX6_found_68 : decode cX6_found 68 = .ok (.getfield 135, 3) := by decide +kernel
theorem dX6_found_71 : decode cX6_found 71 = .ok (.iload 6, 2) := by decide +kernel
theorem dX6_found_73 : decode cX6_found 73 = .ok (.iload_n 3, 1) := by decide +kernel
theorem dX6_found_74 : decode cX6_found 74 = .ok (.isub, 1) := by decide +kernel
theorem dX6_found_75 : decode cX6_found 75 = .ok (.iadd, 1) := by decide +kernel
theorem dX6_found_76 : decode cX6_found 76 = .ok (.putfield 135, 3) := by decide +kernel
theorem dX6_found_79 : decode cX6_found 79 = .ok (.aload 5, 2) := by decide +kernel
theorem dX6_found_81 : decode cX6_found 81 = .ok (.iload_n 3, 1) := by decide +kernel
theorem dX6_found_82 : decode cX6_found 82 = .ok (.putfield 129, 3) := by decide +kernel
theorem dX6_found_85 : decode cX6_found 85 = .ok (.iload 6, 2) := by decide +kernel
theorem dX6_found_87 : decode cX6_found 87 = .ok (.ireturn, 1) := by decide +kernel
theorem dX6_empty_0 : decode cX6_empty 0 = .ok (.aload_n 0, 1) := by decide +kernel
theorem dX6_empty_1 : decode cX6_empty 1 = .ok (.iload_n 1, 1) := by decide +kernel
theorem dX6_empty_2 : decode cX6_empty 2 = .ok (.invokevirtual 57, 3) := by decide +kernel
theorem dX6_empty_5 : decode cX6_empty 5 = .ok (.astore_n 3, 1) := by decide +kernel
theorem dX6_empty_6 : decode cX6_empty 6 = .ok (.aload_n 0, 1) := by decide +kernel
theorem dX6_empty_7 : decode cX6_empty 7 = .ok (.iload_n 1, 1) := by decide +kernel
theorem dX6_empty_8 : decode cX6_empty 8 = .ok (.iload_n 2, 1) := by decide +kernel
theorem dX6_empty_9 : decode cX6_empty 9 = .ok (.invokevirtual 81, 3) := by decide +kernel
theorem dX6_empty_12 : decode cX6_empty 12 = .ok (.astore 4, 2) := by decide +kernel
theorem dX6_empty_14 : decode cX6_empty 14 = .ok (.aload_n 3, 1) := by decide +kernel
theorem dX6_empty_15 : decode cX6_empty 15 = .ok (.ifnull 8, 3) := by decide +kernel
theorem dX6_empty_18 : decode cX6_empty 18 = .ok (.aload 4, 2) := by decide +kernel
theorem dX6_empty_20 : decode cX6_empty 20 = .ok (.ifnonnull 9, 3) := by decide +kernel
theorem dX6_empty_23 : decode cX6_empty 23 = .ok (.aload_n 0, 1) := by decide +kernel
theorem dX6_empty_24 : decode cX6_empty 24 = .ok (.iconst (-1), 1) := by decide +kernel
theorem dX6_empty_25 : decode cX6_empty 25 = .ok (.invokevirtual 52, 3) := by decide +kernel
theorem dX6_empty_28 : decode cX6_empty 28 = .ok (.ireturn, 1) := by decide +kernel
theorem dX6_empty_29 : decode cX6_empty 29 = .ok (.aload 4, 2) := by decide +kernel
theorem dX6_empty_31 : decode cX6_empty 31 = .ok (.getfield 129, 3) := by decide +kernel
theorem dX6_empty_34 : decode cX6_empty 34 = .ok (.istore 5, 2) := by decide +kernel
theorem dX6_empty_36 : decode cX6_empty 36 = .ok (.aload_n 3, 1) := by decide +kernel
theorem dX6_empty_37 : decode cX6_empty 37 = .ok (.dup, 1) := by decide +kernel
theorem dX6_empty_38 : decode cX6_empty 38 = .ok (.getfield 138, 3) := by decide +kernel
theorem dX6_empty_41 : decode cX6_empty 41 = .ok (.iload 5, 2) := by decide +kernel
theorem dX6_empty_43 : decode cX6_empty 43 = .ok (.iadd, 1) := by decide +kernel
theorem dX6_empty_44 : decode cX6_empty 44 = .ok (.putfield 138, 3) := by decide +kernel
theorem dX6_empty_47 : decode cX6_empty 47 = .ok (.aload 4, 2) := by decide +kernel
theorem dX6_empty_49 : decode cX6_empty 49 = .ok (.iconst 0, 1) := by decide +kernel
theorem dX6_empty_50 : decode cX6_empty 50 = .ok (.putfield 129, 3) := by decide +kernel
theorem dX6_empty_53 : decode cX6_empty 53 = .ok (.aload 4, 2) := by decide +kernel
theorem dX6_empty_55 : decode cX6_empty 55 = .ok (.iconst 0, 1) := by decide +kernel
theorem dX6_empty_56 : decode cX6_empty 56 = .ok (.putfield 123, 3) := by decide +kernel
theorem dX6_empty_59 : decode cX6_empty 59 = .ok (.iload 5, 2) := by decide +kernel
theorem dX6_empty_61 : decode cX6_empty 61 = .ok (.ireturn, 1) := by decide +kernel
theorem dX6_insert_0 : decode cX6_insert 0 = .ok (.aload_n 0, 1) := by decide +kernel
theorem dX6_insert_1 : decode cX6_insert 1 = .ok (.iload_n 1, 1) := by decide +kernel
theorem dX6_insert_2 : decode cX6_insert 2 = .ok (.invokevirtual 57, 3) := by decide +kernel
theorem dX6_insert_5 : decode cX6_insert 5 = .ok (.astore_n 3, 1) := by decide +kernel
theorem dX6_insert_6 : decode cX6_insert 6 = .ok (.aload_n 3, 1) := by decide +kernel
theorem dX6_insert_7 : decode cX6_insert 7 = .ok (.ifnull 10, 3) := by decide +kernel
theorem dX6_insert_10 : decode cX6_insert 10 = .ok (.iload_n 2, 1) := by decide +kernel
theorem dX6_insert_11 : decode cX6_insert 11 = .ok (.invokestatic 88, 3) := by decide +kernel
theorem dX6_insert_14 : decode cX6_insert 14 = .ok (.ifCond .ne 9, 3) := by decide +kernel
theorem dX6_insert_17 : decode cX6_insert 17 = .ok (.aload_n 0, 1) := by decide +kernel
theorem dX6_insert_18 : decode cX6_insert 18 = .ok (.iconst (-1), 1) := by decide +kernel
theorem dX6_insert_19 : decode cX6_insert 19 = .ok (.invokevirtual 52, 3) := by decide +kernel
theorem dX6_insert_22 : decode cX6_insert 22 = .ok (.ireturn, 1) := by decide +kernel
theorem dX6_insert_23 : decode cX6_insert 23 = .ok (.aload_n 3, 1) := by decide +kernel
theorem dX6_insert_24 : decode cX6_insert 24 = .ok (.getfield 91, 3) := by decide +kernel
theorem dX6_insert_27 : decode cX6_insert 27 = .ok (.getfield 141, 3) := by decide +kernel
theorem dX6_insert_30 : decode cX6_insert 30 = .ok (.bipush 20, 2) := by decide +kernel
theorem dX6_insert_32 : decode cX6_insert 32 = .ok (.if_icmp .lt 10, 3) := by decide +kernel
theorem dX6_insert_35 : decode cX6_insert 35 = .ok (.aload_n 0, 1) := by decide +kernel
theorem dX6_insert_36 : decode cX6_insert 36 = .ok (.bipush (-6), 2) := by decide +kernel
theorem dX6_insert_38 : decode cX6_insert 38 = .ok (.invokevirtual 52, 3) := by decide +kernel
theorem dX6_insert_41 : decode cX6_insert 41 = .ok (.ireturn, 1) := by decide +kernel
theorem dX6_insert_42 : decode cX6_insert 42 = .ok (.aload_n 3, 1) := by decide +kernel
theorem dX6_insert_43 : decode cX6_insert 43 = .ok (.getfield 91, 3) := by decide +kernel
theorem dX6_insert_46 : decode cX6_insert 46 = .ok (.iload_n 2, 1) := by decide +kernel
theorem dX6_insert_47 : decode cX6_insert 47 = .ok (.invokevirtual 144, 3) := by decide +kernel
theorem dX6_insert_50 : decode cX6_insert 50 = .ok (.aload_n 3, 1) := by decide +kernel
theorem dX6_insert_51 : decode cX6_insert 51 = .ok (.getfield 91, 3) := by decide +kernel
theorem dX6_insert_54 : decode cX6_insert 54 = .ok (.getfield 148, 3) := by decide +kernel
theorem dX6_insert_57 : decode cX6_insert 57 = .ok (.invokestatic 151, 3) := by decide +kernel
theorem dX6_insert_60 : decode cX6_insert 60 = .ok (.ireturn, 1) := by decide +kernel
theorem dX6_back_0 : decode cX6_back 0 = .ok (.aload_n 0, 1) := by decide +kernel
theorem dX6_back_1 : decode cX6_back 1 = .ok (.iload_n 1, 1) := by decide +kernel
theorem dX6_back_2 : decode cX6_back 2 = .ok (.invokevirtual 57, 3) := by decide +kernel
theorem dX6_back_5 : decode cX6_back 5 = .ok (.astore_n 2, 1) := by decide +kernel
theorem dX6_back_6 : decode cX6_back 6 = .ok (.aload_n 2, 1) := by decide +kernel
theorem dX6_back_7 : decode cX6_back 7 = .ok (.ifnonnull 9, 3) := by decide +kernel
theorem dX6_back_10 : decode cX6_back 10 = .ok (.aload_n 0, 1) := by decide +kernel
theorem dX6_back_11 : decode cX6_back 11 = .ok (.iconst (-1), 1) := by decide +kernel
theorem dX6_back_12 : decode cX6_back 12 = .ok (.invokevirtual 52, 3) := by decide +kernel
theorem dX6_back_15 : decode cX6_back 15 = .ok (.ireturn, 1) := by decide +kernel
theorem dX6_back_16 : decode cX6_back 16 = .ok (.aload_n 2, 1) := by decide +kernel
theorem dX6_back_17 : decode cX6_back 17 = .ok (.getfield 91, 3) := by decide +kernel
theorem dX6_back_20 : decode cX6_back 20 = .ok (.invokevirtual 155, 3) := by decide +kernel
theorem dX6_back_23 : decode cX6_back 23 = .ok (.ireturn, 1) := by decide +kernel
theorem dX6_choose_0 : decode cX6_choose 0 = .ok (.aload_n 0, 1) := by decide +kernel
theorem dX6_choose_1 : decode cX6_choose 1 = .ok (.iload_n 1, 1) := by decide +kernel
theorem dX6_choose_2 : decode cX6_choose 2 = .ok (.invokevirtual 57, 3) := by decide +kernel
theorem dX6_choose_5 : decode cX6_choose 5 = .ok (.astore_n 3, 1) := by decide +kernel
theorem dX6_choose_6 : decode cX6_choose 6 = .ok (.aload_n 0, 1) := by decide +kernel
theorem dX6_choose_7 : decode cX6_choose 7 = .ok (.iload_n 1, 1) := by decide +kernel
theorem dX6_choose_8 : decode cX6_choose 8 = .ok (.iload_n 2, 1) := by decide +kernel
theorem dX6_choose_9 : decode cX6_choose 9 = .ok (.invokevirtual 81, 3) := by decide +kernel
theorem dX6_choose_12 : decode cX6_choose 12 = .ok (.astore 4, 2) := by decide +kernel
theorem dX6_choose_14 : decode cX6_choose 14 = .ok (.aload_n 3, 1) := by decide +kernel
theorem dX6_choose_15 : decode cX6_choose 15 = .ok (.ifnull 8, 3) := by decide +kernel
theorem dX6_choose_18 : decode cX6_choose 18 = .ok (.aload 4, 2) := by decide +kernel
theorem dX6_choose_20 : decode cX6_choose 20 = .ok (.ifnonnull 9, 3) := by decide +kernel
theorem dX6_choose_23 : decode cX6_choose 23 = .ok (.aload_n 0, 1) := by decide +kernel
theorem dX6_choose_24 : decode cX6_choose 24 = .ok (.iconst (-1), 1) := by decide +kernel
theorem dX6_choose_25 : decode cX6_choose 25 = .ok (.invokevirtual 52, 3) := by decide +kernel
theorem dX6_choose_28 : decode cX6_choose 28 = .ok (.ireturn, 1) := by decide +kernel
theorem dX6_choose_29 : decode cX6_choose 29 = .ok (.aload_n 3, 1) := by decide +kernel
theorem dX6_choose_30 : decode cX6_choose 30 = .ok (.iload_n 2, 1) := by decide +kernel
theorem dX6_choose_31 : decode cX6_choose 31 = .ok (.invokevirtual 159, 3) := by decide +kernel
theorem dX6_choose_34 : decode cX6_choose 34 = .ok (.astore 5, 2) := by decide +kernel
theorem dX6_choose_36 : decode cX6_choose 36 = .ok (.aload 5, 2) := by decide +kernel
theorem dX6_choose_38 : decode cX6_choose 38 = .ok (.ifnonnull 10, 3) := by decide +kernel
theorem dX6_choose_41 : decode cX6_choose 41 = .ok (.aload_n 0, 1) := by decide +kernel
theorem dX6_choose_42 : decode cX6_choose 42 = .ok (.bipush (-3), 2) := by decide +kernel
theorem dX6_choose_44 : decode cX6_choose 44 = .ok (.invokevirtual 52, 3) := by decide +kernel
theorem dX6_choose_47 : decode cX6_choose 47 = .ok (.ireturn, 1) := by decide +kernel
theorem dX6_choose_48 : decode cX6_choose 48 = .ok (.aload_n 3, 1) := by decide +kernel
theorem dX6_choose_49 : decode cX6_choose 49 = .ok (.getfield 91, 3) := by decide +kernel
theorem dX6_choose_52 : decode cX6_choose 52 = .ok (.getfield 148, 3) := by decide +kernel
theorem dX6_choose_55 : decode cX6_choose 55 = .ok (.invokestatic 151, 3) := by decide +kernel
theorem dX6_choose_58 : decode cX6_choose 58 = .ok (.aload 4, 2) := by decide +kernel
theorem dX6_choose_60 : decode cX6_choose 60 = .ok (.getfield 85, 3) := by decide +kernel
theorem dX6_choose_63 : decode cX6_choose 63 = .ok (.isub, 1) := by decide +kernel
theorem dX6_choose_64 : decode cX6_choose 64 = .ok (.istore 6, 2) := by decide +kernel
theorem dX6_choose_66 : decode cX6_choose 66 = .ok (.iload 6, 2) := by decide +kernel
theorem dX6_choose_68 : decode cX6_choose 68 = .ok (.ifCond .ge 10, 3) := by decide +kernel
theorem dX6_choose_71 : decode cX6_choose 71 = .ok (.aload_n 0, 1) := by decide +kernel
theorem dX6_choose_72 : decode cX6_choose 72 = .ok (.bipush (-5), 2) := by decide +kernel
theorem dX6_choose_74 : decode cX6_choose 74 = .ok (.invokevirtual 52, 3) := by decide +kernel
theorem dX6_choose_77 : decode cX6_choose 77 = .ok (.ireturn, 1) := by decide +kernel
theorem dX6_choose_78 : decode cX6_choose 78 = .ok (.aload_n 0, 1) := by decide +kernel
theorem dX6_choose_79 : decode cX6_choose 79 = .ok (.getfield 37, 3) := by decide +kernel
theorem dX6_choose_82 : decode cX6_choose 82 = .ok (.aload_n 3, 1) := by decide +kernel
theorem dX6_choose_83 : decode cX6_choose 83 = .ok (.getfield 91, 3) := by decide +kernel
theorem dX6_choose_86 : decode cX6_choose 86 = .ok (.iload 6, 2) := by decide +kernel
theorem dX6_choose_88 : decode cX6_choose 88 = .ok (.invokevirtual 163, 3) := by decide +kernel
theorem dX6_choose_91 : decode cX6_choose 91 = .ok (.bipush (-9), 2) := by decide +kernel
theorem dX6_choose_93 : decode cX6_choose 93 = .ok (.if_icmp .ne 10, 3) := by decide +kernel
theorem dX6_choose_96 : decode cX6_choose 96 = .ok (.aload_n 0, 1) := by decide +kernel
theorem dX6_choose_97 : decode cX6_choose 97 = .ok (.bipush (-6), 2) := by decide +kernel
theorem dX6_choose_99 : decode cX6_choose 99 = .ok (.invokevirtual 52, 3) := by decide +kernel
theorem dX6_choose_102 : decode cX6_choose 102 = .ok (.ireturn, 1) := by decide +kernel
theorem dX6_choose_103 : decode cX6_choose 103 = .ok (.aload 4, 2) := by decide +kernel
theorem dX6_choose_105 : decode cX6_choose 105 = .ok (.getfield 107, 3) := by decide +kernel
theorem dX6_choose_108 : decode cX6_choose 108 = .ok (.ifCond .le 29, 3) := by decide +kernel
theorem dX6_choose_111 : decode cX6_choose 111 = .ok (.aload 4, 2) := by decide +kernel
theorem dX6_choose_113 : decode cX6_choose 113 = .ok (.invokevirtual 167, 3) := by decide +kernel
theorem dX6_choose_116 : decode cX6_choose 116 = .ok (.aload_n 3, 1) := by decide +kernel
theorem dX6_choose_117 : decode cX6_choose 117 = .ok (.getfield 91, 3) := by decide +kernel
theorem dX6_choose_120 : decode cX6_choose 120 = .ok (.invokevirtual 155, 3) := by decide +kernel
theorem dX6_choose_123 : decode cX6_choose 123 = .ok (.pop, 1) := by decide +kernel
theorem dX6_choose_124 : decode cX6_choose 124 = .ok (.aload_n 0, 1) := by decide +kernel
theorem dX6_choose_125 : decode cX6_choose 125 = .ok (.dup, 1) := by decide +kernel
theorem dX6_choose_126 : decode cX6_choose 126 = .ok (.getfield 170, 3) := by decide +kernel
theorem dX6_choose_129 : decode cX6_choose 129 = .ok (.iconst 1, 1) := by decide +kernel
theorem dX6_choose_130 : decode cX6_choose 130 = .ok (.iadd, 1) := by decide +kernel
theorem dX6_choose_131 : decode cX6_choose 131 = .ok (.putfield 170, 3) := by decide +kernel
theorem dX6_choose_134 : decode cX6_choose 134 = .ok (.bipush (-7), 2) := by decide +kernel
theorem dX6_choose_136 : decode cX6_choose 136 = .ok (.ireturn, 1) := by decide +kernel
theorem dX6_choose_137 : decode cX6_choose 137 = .ok (.aload 5, 2) := by decide +kernel
theorem dX6_choose_139 : decode cX6_choose 139 = .ok (.dup, 1) := by decide +kernel
theorem dX6_choose_140 : decode cX6_choose 140 = .ok (.getfield 129, 3) := by decide +kernel
theorem dX6_choose_143 : decode cX6_choose 143 = .ok (.iconst 1, 1) := by decide +kernel
theorem dX6_choose_144 : decode cX6_choose 144 = .ok (.isub, 1) := by decide +kernel
theorem dX6_choose_145 : decode cX6_choose 145 = .ok (.putfield 129, 3) := by decide +kernel
theorem dX6_choose_148 : decode cX6_choose 148 = .ok (.aload 4, 2) := by decide +kernel
theorem dX6_choose_150 : decode cX6_choose 150 = .ok (.iconst 0, 1) := by decide +kernel
theorem dX6_choose_151 : decode cX6_choose 151 = .ok (.putfield 114, 3) := by decide +kernel
theorem dX6_choose_154 : decode cX6_choose 154 = .ok (.aload_n 3, 1) := by decide +kernel
theorem dX6_choose_155 : decode cX6_choose 155 = .ok (.dup, 1) := by decide +kernel
theorem dX6_choose_156 : decode cX6_choose 156 = .ok (.getfield 173, 3) := by decide +kernel
theorem dX6_choose_159 : decode cX6_choose 159 = .ok (.iconst 1, 1) := by decide +kernel
theorem dX6_choose_160 : decode cX6_choose 160 = .ok (.iadd, 1) := by decide +kernel
theorem dX6_choose_161 : decode cX6_choose 161 = .ok (.putfield 173, 3) := by decide +kernel
theorem dX6_choose_164 : decode cX6_choose 164 = .ok (.aload_n 3, 1) := by decide +kernel
theorem dX6_choose_165 : decode cX6_choose 165 = .ok (.getfield 176, 3) := by decide +kernel
theorem dX6_choose_168 : decode cX6_choose 168 = .ok (.aload 4, 2) := by decide +kernel
theorem dX6_choose_170 : decode cX6_choose 170 = .ok (.getfield 180, 3) := by decide +kernel
theorem dX6_choose_173 : decode cX6_choose 173 = .ok (.aload_n 0, 1) := by decide +kernel
theorem dX6_choose_174 : decode cX6_choose 174 = .ok (.getfield 183, 3) := by decide +kernel
theorem dX6_choose_177 : decode cX6_choose 177 = .ok (.bipush 24, 2) := by decide +kernel
theorem dX6_choose_179 : decode cX6_choose 179 = .ok (.irem, 1) := by decide +kernel
theorem dX6_choose_180 : decode cX6_choose 180 = .ok (.invokevirtual 186, 3) := by decide +kernel
theorem dX6_choose_183 : decode cX6_choose 183 = .ok (.aload_n 3, 1) := by decide +kernel
theorem dX6_choose_184 : decode cX6_choose 184 = .ok (.getfield 91, 3) := by decide +kernel
theorem dX6_choose_187 : decode cX6_choose 187 = .ok (.aload_n 0, 1) := by decide +kernel
theorem dX6_choose_188 : decode cX6_choose 188 = .ok (.getfield 37, 3) := by decide +kernel
theorem dX6_choose_191 : decode cX6_choose 191 = .ok (.getfield 191, 3) := by decide +kernel
theorem dX6_choose_194 : decode cX6_choose 194 = .ok (.invokevirtual 194, 3) := by decide +kernel
theorem dX6_choose_197 : decode cX6_choose 197 = .ok (.aload_n 0, 1) := by decide +kernel
theorem dX6_choose_198 : decode cX6_choose 198 = .ok (.getfield 37, 3) := by decide +kernel
theorem dX6_choose_201 : decode cX6_choose 201 = .ok (.getfield 191, 3) := by decide +kernel
theorem dX6_choose_204 : decode cX6_choose 204 = .ok (.iconst 0, 1) := by decide +kernel
theorem dX6_choose_205 : decode cX6_choose 205 = .ok (.aload_n 0, 1) := by decide +kernel
theorem dX6_choose_206 : decode cX6_choose 206 = .ok (.getfield 31, 3) := by decide +kernel
theorem dX6_choose_209 : decode cX6_choose 209 = .ok (.iconst 0, 1) := by decide +kernel
theorem dX6_choose_210 : decode cX6_choose 210 = .ok (.aload_n 0, 1) := by decide +kernel
theorem dX6_choose_211 : decode cX6_choose 211 = .ok (.getfield 31, 3) := by decide +kernel
theorem dX6_choose_214 : decode cX6_choose 214 = .ok (.arraylength, 1) := by decide +kernel
theorem dX6_choose_215 : decode cX6_choose 215 = .ok (.invokestatic 198, 3) := by decide +kernel
end
section
theorem dX6_choose_218 : decode cX6_choose 218 = .ok (.iload 6, 2) := by decide +kernel
theorem dX6_choose_220 : decode cX6_choose 220 = .ok (.ireturn, 1) := by decide +kernel
theorem dX6_given_0 : decode cX6_given 0 = .ok (.iload_n 1, 1) := by decide +kernel
theorem dX6_given_1 : decode cX6_given 1 = .ok (.invokestatic 88, 3) := by decide +kernel
theorem dX6_given_4 : decode cX6_given 4 = .ok (.ifCond .eq 12, 3) := by decide +kernel
theorem dX6_given_7 : decode cX6_given 7 = .ok (.aload_n 0, 1) := by decide +kernel
theorem dX6_given_8 : decode cX6_given 8 = .ok (.getfield 31, 3) := by decide +kernel
theorem dX6_given_11 : decode cX6_given 11 = .ok (.iload_n 1, 1) := by decide +kernel
theorem dX6_given_12 : decode cX6_given 12 = .ok (.iaload, 1) := by decide +kernel
theorem dX6_given_13 : decode cX6_given 13 = .ok (.goto 8, 3) := by decide +kernel
theorem dX6_given_16 : decode cX6_given 16 = .ok (.aload_n 0, 1) := by decide +kernel
theorem dX6_given_17 : decode cX6_given 17 = .ok (.iconst (-1), 1) := by decide +kernel
theorem dX6_given_18 : decode cX6_given 18 = .ok (.invokevirtual 52, 3) := by decide +kernel
theorem dX6_given_21 : decode cX6_given 21 = .ok (.ireturn, 1) := by decide +kernel
theorem dX6_change_0 : decode cX6_change 0 = .ok (.aload_n 0, 1) := by decide +kernel
theorem dX6_change_1 : decode cX6_change 1 = .ok (.iload_n 1, 1) := by decide +kernel
theorem dX6_change_2 : decode cX6_change 2 = .ok (.invokevirtual 57, 3) := by decide +kernel
theorem dX6_change_5 : decode cX6_change 5 = .ok (.astore_n 3, 1) := by decide +kernel
theorem dX6_change_6 : decode cX6_change 6 = .ok (.aload_n 3, 1) := by decide +kernel
theorem dX6_change_7 : decode cX6_change 7 = .ok (.ifnonnull 9, 3) := by decide +kernel
theorem dX6_change_10 : decode cX6_change 10 = .ok (.aload_n 0, 1) := by decide +kernel
theorem dX6_change_11 : decode cX6_change 11 = .ok (.iconst (-1), 1) := by decide +kernel
theorem dX6_change_12 : decode cX6_change 12 = .ok (.invokevirtual 52, 3) := by decide +kernel
theorem dX6_change_15 : decode cX6_change 15 = .ok (.ireturn, 1) := by decide +kernel
theorem dX6_change_16 : decode cX6_change 16 = .ok (.iload_n 2, 1) := by decide +kernel
theorem dX6_change_17 : decode cX6_change 17 = .ok (.ifCond .ge 10, 3) := by decide +kernel
theorem dX6_change_20 : decode cX6_change 20 = .ok (.aload_n 0, 1) := by decide +kernel
theorem dX6_change_21 : decode cX6_change 21 = .ok (.bipush (-4), 2) := by decide +kernel
theorem dX6_change_23 : decode cX6_change 23 = .ok (.invokevirtual 52, 3) := by decide +kernel
theorem dX6_change_26 : decode cX6_change 26 = .ok (.ireturn, 1) := by decide +kernel
theorem dX6_change_27 : decode cX6_change 27 = .ok (.iload_n 2, 1) := by decide +kernel
theorem dX6_change_28 : decode cX6_change 28 = .ok (.sipush 20000, 3) := by decide +kernel
theorem dX6_change_31 : decode cX6_change 31 = .ok (.if_icmp .le 10, 3) := by decide +kernel
theorem dX6_change_34 : decode cX6_change 34 = .ok (.aload_n 0, 1) := by decide +kernel
theorem dX6_change_35 : decode cX6_change 35 = .ok (.bipush (-6), 2) := by decide +kernel
theorem dX6_change_37 : decode cX6_change 37 = .ok (.invokevirtual 52, 3) := by decide +kernel
theorem dX6_change_40 : decode cX6_change 40 = .ok (.ireturn, 1) := by decide +kernel
theorem dX6_change_41 : decode cX6_change 41 = .ok (.aload_n 0, 1) := by decide +kernel
theorem dX6_change_42 : decode cX6_change 42 = .ok (.getfield 37, 3) := by decide +kernel
theorem dX6_change_45 : decode cX6_change 45 = .ok (.aload_n 3, 1) := by decide +kernel
theorem dX6_change_46 : decode cX6_change 46 = .ok (.getfield 91, 3) := by decide +kernel
theorem dX6_change_49 : decode cX6_change 49 = .ok (.iload_n 2, 1) := by decide +kernel
theorem dX6_change_50 : decode cX6_change 50 = .ok (.invokevirtual 163, 3) := by decide +kernel
theorem dX6_change_53 : decode cX6_change 53 = .ok (.ireturn, 1) := by decide +kernel
theorem dX6_hours_0 : decode cX6_hours 0 = .ok (.iload_n 1, 1) := by decide +kernel
theorem dX6_hours_1 : decode cX6_hours 1 = .ok (.iconst 1, 1) := by decide +kernel
theorem dX6_hours_2 : decode cX6_hours 2 = .ok (.if_icmp .ge 10, 3) := by decide +kernel
theorem dX6_hours_5 : decode cX6_hours 5 = .ok (.aload_n 0, 1) := by decide +kernel
theorem dX6_hours_6 : decode cX6_hours 6 = .ok (.bipush (-4), 2) := by decide +kernel
theorem dX6_hours_8 : decode cX6_hours 8 = .ok (.invokevirtual 52, 3) := by decide +kernel
theorem dX6_hours_11 : decode cX6_hours 11 = .ok (.ireturn, 1) := by decide +kernel
theorem dX6_hours_12 : decode cX6_hours 12 = .ok (.iload_n 1, 1) := by decide +kernel
theorem dX6_hours_13 : decode cX6_hours 13 = .ok (.sipush 3000, 3) := by decide +kernel
theorem dX6_hours_16 : decode cX6_hours 16 = .ok (.aload_n 0, 1) := by decide +kernel
theorem dX6_hours_17 : decode cX6_hours 17 = .ok (.getfield 183, 3) := by decide +kernel
theorem dX6_hours_20 : decode cX6_hours 20 = .ok (.isub, 1) := by decide +kernel
theorem dX6_hours_21 : decode cX6_hours 21 = .ok (.if_icmp .le 10, 3) := by decide +kernel
theorem dX6_hours_24 : decode cX6_hours 24 = .ok (.aload_n 0, 1) := by decide +kernel
theorem dX6_hours_25 : decode cX6_hours 25 = .ok (.bipush (-6), 2) := by decide +kernel
theorem dX6_hours_27 : decode cX6_hours 27 = .ok (.invokevirtual 52, 3) := by decide +kernel
theorem dX6_hours_30 : decode cX6_hours 30 = .ok (.ireturn, 1) := by decide +kernel
theorem dX6_hours_31 : decode cX6_hours 31 = .ok (.iconst 0, 1) := by decide +kernel
theorem dX6_hours_32 : decode cX6_hours 32 = .ok (.istore_n 2, 1) := by decide +kernel
theorem dX6_hours_33 : decode cX6_hours 33 = .ok (.iload_n 2, 1) := by decide +kernel
theorem dX6_hours_34 : decode cX6_hours 34 = .ok (.iload_n 1, 1) := by decide +kernel
theorem dX6_hours_35 : decode cX6_hours 35 = .ok (.if_icmp .ge 13, 3) := by decide +kernel
theorem dX6_hours_38 : decode cX6_hours 38 = .ok (.aload_n 0, 1) := by decide +kernel
theorem dX6_hours_39 : decode cX6_hours 39 = .ok (.invokevirtual 204, 3) := by decide +kernel
theorem dX6_hours_42 : decode cX6_hours 42 = .ok (.iinc 2 1, 3) := by decide +kernel
theorem dX6_hours_45 : decode cX6_hours 45 = .ok (.goto (-12), 3) := by decide +kernel
theorem dX6_hours_48 : decode cX6_hours 48 = .ok (.aload_n 0, 1) := by decide +kernel
theorem dX6_hours_49 : decode cX6_hours 49 = .ok (.getfield 183, 3) := by decide +kernel
theorem dX6_hours_52 : decode cX6_hours 52 = .ok (.ireturn, 1) := by decide +kernel
theorem dX6_counted_0 : decode cX6_counted 0 = .ok (.aload_n 0, 1) := by decide +kernel
theorem dX6_counted_1 : decode cX6_counted 1 = .ok (.iload_n 1, 1) := by decide +kernel
theorem dX6_counted_2 : decode cX6_counted 2 = .ok (.invokevirtual 57, 3) := by decide +kernel
theorem dX6_counted_5 : decode cX6_counted 5 = .ok (.astore 5, 2) := by decide +kernel
theorem dX6_counted_7 : decode cX6_counted 7 = .ok (.aload 5, 2) := by decide +kernel
theorem dX6_counted_9 : decode cX6_counted 9 = .ok (.ifnull 10, 3) := by decide +kernel
theorem dX6_counted_12 : decode cX6_counted 12 = .ok (.iload_n 2, 1) := by decide +kernel
theorem dX6_counted_13 : decode cX6_counted 13 = .ok (.invokestatic 61, 3) := by decide +kernel
theorem dX6_counted_16 : decode cX6_counted 16 = .ok (.ifCond .ne 9, 3) := by decide +kernel
theorem dX6_counted_19 : decode cX6_counted 19 = .ok (.aload_n 0, 1) := by decide +kernel
theorem dX6_counted_20 : decode cX6_counted 20 = .ok (.iconst (-1), 1) := by decide +kernel
theorem dX6_counted_21 : decode cX6_counted 21 = .ok (.invokevirtual 52, 3) := by decide +kernel
theorem dX6_counted_24 : decode cX6_counted 24 = .ok (.ireturn, 1) := by decide +kernel
theorem dX6_counted_25 : decode cX6_counted 25 = .ok (.iload 4, 2) := by decide +kernel
theorem dX6_counted_27 : decode cX6_counted 27 = .ok (.ifCond .eq 16, 3) := by decide +kernel
theorem dX6_counted_30 : decode cX6_counted 30 = .ok (.iload 4, 2) := by decide +kernel
theorem dX6_counted_32 : decode cX6_counted 32 = .ok (.iconst 1, 1) := by decide +kernel
theorem dX6_counted_33 : decode cX6_counted 33 = .ok (.if_icmp .eq 10, 3) := by decide +kernel
theorem dX6_counted_36 : decode cX6_counted 36 = .ok (.aload_n 0, 1) := by decide +kernel
theorem dX6_counted_37 : decode cX6_counted 37 = .ok (.bipush (-2), 2) := by decide +kernel
theorem dX6_counted_39 : decode cX6_counted 39 = .ok (.invokevirtual 52, 3) := by decide +kernel
theorem dX6_counted_42 : decode cX6_counted 42 = .ok (.ireturn, 1) := by decide +kernel
theorem dX6_counted_43 : decode cX6_counted 43 = .ok (.iload_n 3, 1) := by decide +kernel
theorem dX6_counted_44 : decode cX6_counted 44 = .ok (.ifCond .ge 10, 3) := by decide +kernel
theorem dX6_counted_47 : decode cX6_counted 47 = .ok (.aload_n 0, 1) := by decide +kernel
theorem dX6_counted_48 : decode cX6_counted 48 = .ok (.bipush (-4), 2) := by decide +kernel
theorem dX6_counted_50 : decode cX6_counted 50 = .ok (.invokevirtual 52, 3) := by decide +kernel
theorem dX6_counted_53 : decode cX6_counted 53 = .ok (.ireturn, 1) := by decide +kernel
theorem dX6_counted_54 : decode cX6_counted 54 = .ok (.iload_n 3, 1) := by decide +kernel
theorem dX6_counted_55 : decode cX6_counted 55 = .ok (.bipush 24, 2) := by decide +kernel
theorem dX6_counted_57 : decode cX6_counted 57 = .ok (.if_icmp .lt 10, 3) := by decide +kernel
theorem dX6_counted_60 : decode cX6_counted 60 = .ok (.aload_n 0, 1) := by decide +kernel
theorem dX6_counted_61 : decode cX6_counted 61 = .ok (.bipush (-6), 2) := by decide +kernel
theorem dX6_counted_63 : decode cX6_counted 63 = .ok (.invokevirtual 52, 3) := by decide +kernel
theorem dX6_counted_66 : decode cX6_counted 66 = .ok (.ireturn, 1) := by decide +kernel
theorem dX6_counted_67 : decode cX6_counted 67 = .ok (.iload 4, 2) := by decide +kernel
theorem dX6_counted_69 : decode cX6_counted 69 = .ok (.ifCond .ne 16, 3) := by decide +kernel
theorem dX6_counted_72 : decode cX6_counted 72 = .ok (.aload 5, 2) := by decide +kernel
theorem dX6_counted_74 : decode cX6_counted 74 = .ok (.getfield 176, 3) := by decide +kernel
theorem dX6_counted_77 : decode cX6_counted 77 = .ok (.iload_n 2, 1) := by decide +kernel
theorem dX6_counted_78 : decode cX6_counted 78 = .ok (.iload_n 3, 1) := by decide +kernel
theorem dX6_counted_79 : decode cX6_counted 79 = .ok (.invokevirtual 207, 3) := by decide +kernel
theorem dX6_counted_82 : decode cX6_counted 82 = .ok (.goto 13, 3) := by decide +kernel
theorem dX6_counted_85 : decode cX6_counted 85 = .ok (.aload 5, 2) := by decide +kernel
theorem dX6_counted_87 : decode cX6_counted 87 = .ok (.getfield 176, 3) := by decide +kernel
theorem dX6_counted_90 : decode cX6_counted 90 = .ok (.iload_n 2, 1) := by decide +kernel
theorem dX6_counted_91 : decode cX6_counted 91 = .ok (.iload_n 3, 1) := by decide +kernel
theorem dX6_counted_92 : decode cX6_counted 92 = .ok (.invokevirtual 211, 3) := by decide +kernel
theorem dX6_counted_95 : decode cX6_counted 95 = .ok (.ireturn, 1) := by decide +kernel
theorem dX6_foretell_0 : decode cX6_foretell 0 = .ok (.aload_n 0, 1) := by decide +kernel
theorem dX6_foretell_1 : decode cX6_foretell 1 = .ok (.iload_n 1, 1) := by decide +kernel
theorem dX6_foretell_2 : decode cX6_foretell 2 = .ok (.invokevirtual 57, 3) := by decide +kernel
theorem dX6_foretell_5 : decode cX6_foretell 5 = .ok (.astore 4, 2) := by decide +kernel
theorem dX6_foretell_7 : decode cX6_foretell 7 = .ok (.aload 4, 2) := by decide +kernel
theorem dX6_foretell_9 : decode cX6_foretell 9 = .ok (.ifnull 10, 3) := by decide +kernel
theorem dX6_foretell_12 : decode cX6_foretell 12 = .ok (.iload_n 2, 1) := by decide +kernel
theorem dX6_foretell_13 : decode cX6_foretell 13 = .ok (.invokestatic 61, 3) := by decide +kernel
theorem dX6_foretell_16 : decode cX6_foretell 16 = .ok (.ifCond .ne 9, 3) := by decide +kernel
theorem dX6_foretell_19 : decode cX6_foretell 19 = .ok (.aload_n 0, 1) := by decide +kernel
theorem dX6_foretell_20 : decode cX6_foretell 20 = .ok (.iconst (-1), 1) := by decide +kernel
theorem dX6_foretell_21 : decode cX6_foretell 21 = .ok (.invokevirtual 52, 3) := by decide +kernel
theorem dX6_foretell_24 : decode cX6_foretell 24 = .ok (.ireturn, 1) := by decide +kernel
theorem dX6_foretell_25 : decode cX6_foretell 25 = .ok (.iload_n 3, 1) := by decide +kernel
theorem dX6_foretell_26 : decode cX6_foretell 26 = .ok (.ifCond .ge 10, 3) := by decide +kernel
theorem dX6_foretell_29 : decode cX6_foretell 29 = .ok (.aload_n 0, 1) := by decide +kernel
theorem dX6_foretell_30 : decode cX6_foretell 30 = .ok (.bipush (-4), 2) := by decide +kernel
theorem dX6_foretell_32 : decode cX6_foretell 32 = .ok (.invokevirtual 52, 3) := by decide +kernel
theorem dX6_foretell_35 : decode cX6_foretell 35 = .ok (.ireturn, 1) := by decide +kernel
theorem dX6_foretell_36 : decode cX6_foretell 36 = .ok (.iload_n 3, 1) := by decide +kernel
theorem dX6_foretell_37 : decode cX6_foretell 37 = .ok (.sipush 240, 3) := by decide +kernel
theorem dX6_foretell_40 : decode cX6_foretell 40 = .ok (.if_icmp .le 10, 3) := by decide +kernel
theorem dX6_foretell_43 : decode cX6_foretell 43 = .ok (.aload_n 0, 1) := by decide +kernel
theorem dX6_foretell_44 : decode cX6_foretell 44 = .ok (.bipush (-6), 2) := by decide +kernel
theorem dX6_foretell_46 : decode cX6_foretell 46 = .ok (.invokevirtual 52, 3) := by decide +kernel
theorem dX6_foretell_49 : decode cX6_foretell 49 = .ok (.ireturn, 1) := by decide +kernel
theorem dX6_foretell_50 : decode cX6_foretell 50 = .ok (.aload 4, 2) := by decide +kernel
theorem dX6_foretell_52 : decode cX6_foretell 52 = .ok (.getfield 176, 3) := by decide +kernel
theorem dX6_foretell_55 : decode cX6_foretell 55 = .ok (.iload_n 2, 1) := by decide +kernel
theorem dX6_foretell_56 : decode cX6_foretell 56 = .ok (.aload_n 0, 1) := by decide +kernel
theorem dX6_foretell_57 : decode cX6_foretell 57 = .ok (.getfield 183, 3) := by decide +kernel
theorem dX6_foretell_60 : decode cX6_foretell 60 = .ok (.iload_n 3, 1) := by decide +kernel
theorem dX6_foretell_61 : decode cX6_foretell 61 = .ok (.invokevirtual 214, 3) := by decide +kernel
theorem dX6_foretell_64 : decode cX6_foretell 64 = .ok (.ireturn, 1) := by decide +kernel
theorem dX6_when_0 : decode cX6_when 0 = .ok (.aload_n 0, 1) := by decide +kernel
theorem dX6_when_1 : decode cX6_when 1 = .ok (.iload_n 1, 1) := by decide +kernel
theorem dX6_when_2 : decode cX6_when 2 = .ok (.invokevirtual 57, 3) := by decide +kernel
theorem dX6_when_5 : decode cX6_when 5 = .ok (.astore_n 3, 1) := by decide +kernel
theorem dX6_when_6 : decode cX6_when 6 = .ok (.aload_n 0, 1) := by decide +kernel
theorem dX6_when_7 : decode cX6_when 7 = .ok (.iload_n 1, 1) := by decide +kernel
theorem dX6_when_8 : decode cX6_when 8 = .ok (.iload_n 2, 1) := by decide +kernel
theorem dX6_when_9 : decode cX6_when 9 = .ok (.invokevirtual 81, 3) := by decide +kernel
theorem dX6_when_12 : decode cX6_when 12 = .ok (.astore 4, 2) := by decide +kernel
theorem dX6_when_14 : decode cX6_when 14 = .ok (.aload_n 3, 1) := by decide +kernel
theorem dX6_when_15 : decode cX6_when 15 = .ok (.ifnull 8, 3) := by decide +kernel
theorem dX6_when_18 : decode cX6_when 18 = .ok (.aload 4, 2) := by decide +kernel
theorem dX6_when_20 : decode cX6_when 20 = .ok (.ifnonnull 9, 3) := by decide +kernel
theorem dX6_when_23 : decode cX6_when 23 = .ok (.aload_n 0, 1) := by decide +kernel
theorem dX6_when_24 : decode cX6_when 24 = .ok (.iconst (-1), 1) := by decide +kernel
theorem dX6_when_25 : decode cX6_when 25 = .ok (.invokevirtual 52, 3) := by decide +kernel
theorem dX6_when_28 : decode cX6_when 28 = .ok (.ireturn, 1) := by decide +kernel
theorem dX6_when_29 : decode cX6_when 29 = .ok (.aload_n 3, 1) := by decide +kernel
theorem dX6_when_30 : decode cX6_when 30 = .ok (.aload 4, 2) := by decide +kernel
theorem dX6_when_32 : decode cX6_when 32 = .ok (.getfield 180, 3) := by decide +kernel
theorem dX6_when_35 : decode cX6_when 35 = .ok (.invokevirtual 218, 3) := by decide +kernel
theorem dX6_when_38 : decode cX6_when 38 = .ok (.istore 5, 2) := by decide +kernel
theorem dX6_when_40 : decode cX6_when 40 = .ok (.iload 5, 2) := by decide +kernel
theorem dX6_when_42 : decode cX6_when 42 = .ok (.ifCond .ne 7, 3) := by decide +kernel
theorem dX6_when_45 : decode cX6_when 45 = .ok (.iconst 0, 1) := by decide +kernel
theorem dX6_when_46 : decode cX6_when 46 = .ok (.goto 25, 3) := by decide +kernel
theorem dX6_when_49 : decode cX6_when 49 = .ok (.aload_n 3, 1) := by decide +kernel
theorem dX6_when_50 : decode cX6_when 50 = .ok (.getfield 176, 3) := by decide +kernel
theorem dX6_when_53 : decode cX6_when 53 = .ok (.aload 4, 2) := by decide +kernel
theorem dX6_when_55 : decode cX6_when 55 = .ok (.getfield 180, 3) := by decide +kernel
theorem dX6_when_58 : decode cX6_when 58 = .ok (.aload_n 0, 1) := by decide +kernel
theorem dX6_when_59 : decode cX6_when 59 = .ok (.getfield 183, 3) := by decide +kernel
theorem dX6_when_62 : decode cX6_when 62 = .ok (.sipush 1000, 3) := by decide +kernel
theorem dX6_when_65 : decode cX6_when 65 = .ok (.iload 5, 2) := by decide +kernel
theorem dX6_when_67 : decode cX6_when 67 = .ok (.imul, 1) := by decide +kernel
theorem dX6_when_68 : decode cX6_when 68 = .ok (.invokevirtual 221, 3) := by decide +kernel
theorem dX6_when_71 : decode cX6_when 71 = .ok (.ireturn, 1) := by decide +kernel
theorem dX6_load_0 : decode cX6_load 0 = .ok (.aload_n 0, 1) := by decide +kernel
theorem dX6_load_1 : decode cX6_load 1 = .ok (.iload_n 1, 1) := by decide +kernel
theorem dX6_load_2 : decode cX6_load 2 = .ok (.invokevirtual 57, 3) := by decide +kernel
theorem dX6_load_5 : decode cX6_load 5 = .ok (.astore_n 3, 1) := by decide +kernel
theorem dX6_load_6 : decode cX6_load 6 = .ok (.aload_n 3, 1) := by decide +kernel
theorem dX6_load_7 : decode cX6_load 7 = .ok (.ifnonnull 9, 3) := by decide +kernel
theorem dX6_load_10 : decode cX6_load 10 = .ok (.aload_n 0, 1) := by decide +kernel
theorem dX6_load_11 : decode cX6_load 11 = .ok (.iconst (-1), 1) := by decide +kernel
theorem dX6_load_12 : decode cX6_load 12 = .ok (.invokevirtual 52, 3) := by decide +kernel
theorem dX6_load_15 : decode cX6_load 15 = .ok (.ireturn, 1) := by decide +kernel
theorem dX6_load_16 : decode cX6_load 16 = .ok (.iload_n 2, 1) := by decide +kernel
theorem dX6_load_17 : decode cX6_load 17 = .ok (.ifCond .ge 10, 3) := by decide +kernel
theorem dX6_load_20 : decode cX6_load 20 = .ok (.aload_n 0, 1) := by decide +kernel
theorem dX6_load_21 : decode cX6_load 21 = .ok (.bipush (-4), 2) := by decide +kernel
theorem dX6_load_23 : decode cX6_load 23 = .ok (.invokevirtual 52, 3) := by decide +kernel
theorem dX6_load_26 : decode cX6_load 26 = .ok (.ireturn, 1) := by decide +kernel
theorem dX6_load_27 : decode cX6_load 27 = .ok (.iload_n 2, 1) := by decide +kernel
theorem dX6_load_28 : decode cX6_load 28 = .ok (.sipush 200, 3) := by decide +kernel
theorem dX6_load_31 : decode cX6_load 31 = .ok (.if_icmp .le 10, 3) := by decide +kernel
theorem dX6_load_34 : decode cX6_load 34 = .ok (.aload_n 0, 1) := by decide +kernel
theorem dX6_load_35 : decode cX6_load 35 = .ok (.bipush (-6), 2) := by decide +kernel
theorem dX6_load_37 : decode cX6_load 37 = .ok (.invokevirtual 52, 3) := by decide +kernel
theorem dX6_load_40 : decode cX6_load 40 = .ok (.ireturn, 1) := by decide +kernel
theorem dX6_load_41 : decode cX6_load 41 = .ok (.aload_n 0, 1) := by decide +kernel
theorem dX6_load_42 : decode cX6_load 42 = .ok (.getfield 44, 3) := by decide +kernel
theorem dX6_load_45 : decode cX6_load 45 = .ok (.aload_n 3, 1) := by decide +kernel
theorem dX6_load_46 : decode cX6_load 46 = .ok (.aload_n 0, 1) := by decide +kernel
theorem dX6_load_47 : decode cX6_load 47 = .ok (.getfield 15, 3) := by decide +kernel
theorem dX6_load_50 : decode cX6_load 50 = .ok (.iload_n 2, 1) := by decide +kernel
theorem dX6_load_51 : decode cX6_load 51 = .ok (.invokevirtual 224, 3) := by decide +kernel
theorem dX6_load_54 : decode cX6_load 54 = .ok (.ireturn, 1) := by decide +kernel
theorem dX6_loaded_0 : decode cX6_loaded 0 = .ok (.iload_n 1, 1) := by decide +kernel
theorem dX6_loaded_1 : decode cX6_loaded 1 = .ok (.ifCond .ge 10, 3) := by decide +kernel
theorem dX6_loaded_4 : decode cX6_loaded 4 = .ok (.aload_n 0, 1) := by decide +kernel
theorem dX6_loaded_5 : decode cX6_loaded 5 = .ok (.bipush (-4), 2) := by decide +kernel
theorem dX6_loaded_7 : decode cX6_loaded 7 = .ok (.invokevirtual 52, 3) := by decide +kernel
theorem dX6_loaded_10 : decode cX6_loaded 10 = .ok (.ireturn, 1) := by decide +kernel
theorem dX6_loaded_11 : decode cX6_loaded 11 = .ok (.aload_n 0, 1) := by decide +kernel
theorem dX6_loaded_12 : decode cX6_loaded 12 = .ok (.getfield 44, 3) := by decide +kernel
theorem dX6_loaded_15 : decode cX6_loaded 15 = .ok (.iload_n 1, 1) := by decide +kernel
theorem dX6_loaded_16 : decode cX6_loaded 16 = .ok (.invokevirtual 228, 3) := by decide +kernel
theorem dX6_loaded_19 : decode cX6_loaded 19 = .ok (.ireturn, 1) := by decide +kernel
theorem dX6_laneOf_0 : decode cX6_laneOf 0 = .ok (.aload_n 0, 1) := by decide +kernel
theorem dX6_laneOf_1 : decode cX6_laneOf 1 = .ok (.iload_n 1, 1) := by decide +kernel
theorem dX6_laneOf_2 : decode cX6_laneOf 2 = .ok (.invokevirtual 57, 3) := by decide +kernel
theorem dX6_laneOf_5 : decode cX6_laneOf 5 = .ok (.astore 4, 2) := by decide +kernel
theorem dX6_laneOf_7 : decode cX6_laneOf 7 = .ok (.aload_n 0, 1) := by decide +kernel
theorem dX6_laneOf_8 : decode cX6_laneOf 8 = .ok (.iload_n 1, 1) := by decide +kernel
theorem dX6_laneOf_9 : decode cX6_laneOf 9 = .ok (.iload_n 2, 1) := by decide +kernel
theorem dX6_laneOf_10 : decode cX6_laneOf 10 = .ok (.invokevirtual 81, 3) := by decide +kernel
theorem dX6_laneOf_13 : decode cX6_laneOf 13 = .ok (.astore 5, 2) := by decide +kernel
theorem dX6_laneOf_15 : decode cX6_laneOf 15 = .ok (.aload 4, 2) := by decide +kernel
theorem dX6_laneOf_17 : decode cX6_laneOf 17 = .ok (.ifnull 8, 3) := by decide +kernel
theorem dX6_laneOf_20 : decode cX6_laneOf 20 = .ok (.aload 5, 2) := by decide +kernel
theorem dX6_laneOf_22 : decode cX6_laneOf 22 = .ok (.ifnonnull 9, 3) := by decide +kernel
theorem dX6_laneOf_25 : decode cX6_laneOf 25 = .ok (.aload_n 0, 1) := by decide +kernel
theorem dX6_laneOf_26 : decode cX6_laneOf 26 = .ok (.iconst (-1), 1) := by decide +kernel
theorem dX6_laneOf_27 : decode cX6_laneOf 27 = .ok (.invokevirtual 52, 3) := by decide +kernel
theorem dX6_laneOf_30 : decode cX6_laneOf 30 = .ok (.ireturn, 1) := by decide +kernel
theorem dX6_laneOf_31 : decode cX6_laneOf 31 = .ok (.iload_n 3, 1) := by decide +kernel
theorem dX6_laneOf_32 : decode cX6_laneOf 32 = .ok (.tableswitch 131 0 8 #[52, 58, 64, 70, 76, 82, 96, 102, 116], 52) := by decide +kernel
theorem dX6_laneOf_84 : decode cX6_laneOf 84 = .ok (.aload 5, 2) := by decide +kernel
theorem dX6_laneOf_86 : decode cX6_laneOf 86 = .ok (.getfield 180, 3) := by decide +kernel
theorem dX6_laneOf_89 : decode cX6_laneOf 89 = .ok (.ireturn, 1) := by decide +kernel
theorem dX6_laneOf_90 : decode cX6_laneOf 90 = .ok (.aload 5, 2) := by decide +kernel
theorem dX6_laneOf_92 : decode cX6_laneOf 92 = .ok (.getfield 85, 3) := by decide +kernel
theorem dX6_laneOf_95 : decode cX6_laneOf 95 = .ok (.ireturn, 1) := by decide +kernel
theorem dX6_laneOf_96 : decode cX6_laneOf 96 = .ok (.aload 5, 2) := by decide +kernel
theorem dX6_laneOf_98 : decode cX6_laneOf 98 = .ok (.getfield 126, 3) := by decide +kernel
theorem dX6_laneOf_101 : decode cX6_laneOf 101 = .ok (.ireturn, 1) := by decide +kernel
theorem dX6_laneOf_102 : decode cX6_laneOf 102 = .ok (.aload 5, 2) := by decide +kernel
theorem dX6_laneOf_104 : decode cX6_laneOf 104 = .ok (.getfield 129, 3) := by decide +kernel
theorem dX6_laneOf_107 : decode cX6_laneOf 107 = .ok (.ireturn, 1) := by decide +kernel
theorem dX6_laneOf_108 : decode cX6_laneOf 108 = .ok (.aload 5, 2) := by decide +kernel
theorem dX6_laneOf_110 : decode cX6_laneOf 110 = .ok (.getfield 104, 3) := by decide +kernel
theorem dX6_laneOf_113 : decode cX6_laneOf 113 = .ok (.ireturn, 1) := by decide +kernel
theorem dX6_laneOf_114 : decode cX6_laneOf 114 = .ok (.aload 5, 2) := by decide +kernel
theorem dX6_laneOf_116 : decode cX6_laneOf 116 = .ok (.getfield 110, 3) := by decide +kernel
theorem dX6_laneOf_119 : decode cX6_laneOf 119 = .ok (.ifCond .eq 7, 3) := by decide +kernel
theorem dX6_laneOf_122 : decode cX6_laneOf 122 = .ok (.iconst 1, 1) := by decide +kernel
theorem dX6_laneOf_123 : decode cX6_laneOf 123 = .ok (.goto 4, 3) := by decide +kernel
theorem dX6_laneOf_126 : decode cX6_laneOf 126 = .ok (.iconst 0, 1) := by decide +kernel
theorem dX6_laneOf_127 : decode cX6_laneOf 127 = .ok (.ireturn, 1) := by decide +kernel
theorem dX6_laneOf_128 : decode cX6_laneOf 128 = .ok (.aload 5, 2) := by decide +kernel
theorem dX6_laneOf_130 : decode cX6_laneOf 130 = .ok (.getfield 114, 3) := by decide +kernel
theorem dX6_laneOf_133 : decode cX6_laneOf 133 = .ok (.ireturn, 1) := by decide +kernel
theorem dX6_laneOf_134 : decode cX6_laneOf 134 = .ok (.aload 5, 2) := by decide +kernel
theorem dX6_laneOf_136 : decode cX6_laneOf 136 = .ok (.getfield 123, 3) := by decide +kernel
theorem dX6_laneOf_139 : decode cX6_laneOf 139 = .ok (.ifCond .eq 7, 3) := by decide +kernel
theorem dX6_laneOf_142 : decode cX6_laneOf 142 = .ok (.iconst 1, 1) := by decide +kernel
theorem dX6_laneOf_143 : decode cX6_laneOf 143 = .ok (.goto 4, 3) := by decide +kernel
theorem dX6_laneOf_146 : decode cX6_laneOf 146 = .ok (.iconst 0, 1) := by decide +kernel
theorem dX6_laneOf_147 : decode cX6_laneOf 147 = .ok (.ireturn, 1) := by decide +kernel
theorem dX6_laneOf_148 : decode cX6_laneOf 148 = .ok (.aload 4, 2) := by decide +kernel
theorem dX6_laneOf_150 : decode cX6_laneOf 150 = .ok (.iload_n 2, 1) := by decide +kernel
theorem dX6_laneOf_151 : decode cX6_laneOf 151 = .ok (.invokevirtual 159, 3) := by decide +kernel
theorem dX6_laneOf_154 : decode cX6_laneOf 154 = .ok (.ifnull 7, 3) := by decide +kernel
theorem dX6_laneOf_157 : decode cX6_laneOf 157 = .ok (.iconst 1, 1) := by decide +kernel
theorem dX6_laneOf_158 : decode cX6_laneOf 158 = .ok (.goto 4, 3) := by decide +kernel
theorem dX6_laneOf_161 : decode cX6_laneOf 161 = .ok (.iconst 0, 1) := by decide +kernel
theorem dX6_laneOf_162 : decode cX6_laneOf 162 = .ok (.ireturn, 1) := by decide +kernel
theorem dX6_laneOf_163 : decode cX6_laneOf 163 = .ok (.aload_n 0, 1) := by decide +kernel
theorem dX6_laneOf_164 : decode cX6_laneOf 164 = .ok (.bipush (-2), 2) := by decide +kernel
theorem dX6_laneOf_166 : decode cX6_laneOf 166 = .ok (.invokevirtual 52, 3) := by decide +kernel
theorem dX6_laneOf_169 : decode cX6_laneOf 169 = .ok (.ireturn, 1) := by decide +kernel
theorem dX6_machineOf_0 : decode cX6_machineOf 0 = .ok (.aload_n 0, 1) := by decide +kernel
theorem dX6_machineOf_1 : decode cX6_machineOf 1 = .ok (.iload_n 1, 1) := by decide +kernel
theorem dX6_machineOf_2 : decode cX6_machineOf 2 = .ok (.invokevirtual 57, 3) := by decide +kernel
theorem dX6_machineOf_5 : decode cX6_machineOf 5 = .ok (.astore_n 3, 1) := by decide +kernel
theorem dX6_machineOf_6 : decode cX6_machineOf 6 = .ok (.aload_n 3, 1) := by decide +kernel
theorem dX6_machineOf_7 : decode cX6_machineOf 7 = .ok (.ifnonnull 12, 3) := by decide +kernel
theorem dX6_machineOf_10 : decode cX6_machineOf 10 = .ok (.ldc 231, 2) := by decide +kernel
theorem dX6_machineOf_12 : decode cX6_machineOf 12 = .ok (.aload_n 0, 1) := by decide +kernel
theorem dX6_machineOf_13 : decode cX6_machineOf 13 = .ok (.iconst (-1), 1) := by decide +kernel
theorem dX6_machineOf_14 : decode cX6_machineOf 14 = .ok (.invokevirtual 52, 3) := by decide +kernel
theorem dX6_machineOf_17 : decode cX6_machineOf 17 = .ok (.isub, 1) := by decide +kernel
theorem dX6_machineOf_18 : decode cX6_machineOf 18 = .ok (.ireturn, 1) := by decide +kernel
theorem dX6_machineOf_19 : decode cX6_machineOf 19 = .ok (.iload_n 2, 1) := by decide +kernel
theorem dX6_machineOf_20 : decode cX6_machineOf 20 = .ok (.tableswitch 115 0 8 #[52, 57, 68, 79, 90, 95, 100, 105, 110], 52) := by decide +kernel
theorem dX6_machineOf_72 : decode cX6_machineOf 72 = .ok (.aload_n 3, 1) := by decide +kernel
theorem dX6_machineOf_73 : decode cX6_machineOf 73 = .ok (.getfield 232, 3) := by decide +kernel
theorem dX6_machineOf_76 : decode cX6_machineOf 76 = .ok (.ireturn, 1) := by decide +kernel
theorem dX6_machineOf_77 : decode cX6_machineOf 77 = .ok (.aload_n 3, 1) := by decide +kernel
theorem dX6_machineOf_78 : decode cX6_machineOf 78 = .ok (.getfield 91, 3) := by decide +kernel
theorem dX6_machineOf_81 : decode cX6_machineOf 81 = .ok (.getfield 95, 3) := by decide +kernel
theorem dX6_machineOf_84 : decode cX6_machineOf 84 = .ok (.invokestatic 151, 3) := by decide +kernel
theorem dX6_machineOf_87 : decode cX6_machineOf 87 = .ok (.ireturn, 1) := by decide +kernel
theorem dX6_machineOf_88 : decode cX6_machineOf 88 = .ok (.aload_n 3, 1) := by decide +kernel
theorem dX6_machineOf_89 : decode cX6_machineOf 89 = .ok (.getfield 91, 3) := by decide +kernel
theorem dX6_machineOf_92 : decode cX6_machineOf 92 = .ok (.getfield 235, 3) := by decide +kernel
theorem dX6_machineOf_95 : decode cX6_machineOf 95 = .ok (.invokestatic 151, 3) := by decide +kernel
theorem dX6_machineOf_98 : decode cX6_machineOf 98 = .ok (.ireturn, 1) := by decide +kernel
theorem dX6_machineOf_99 : decode cX6_machineOf 99 = .ok (.aload_n 3, 1) := by decide +kernel
theorem dX6_machineOf_100 : decode cX6_machineOf 100 = .ok (.getfield 91, 3) := by decide +kernel
theorem dX6_machineOf_103 : decode cX6_machineOf 103 = .ok (.getfield 148, 3) := by decide +kernel
theorem dX6_machineOf_106 : decode cX6_machineOf 106 = .ok (.invokestatic 151, 3) := by decide +kernel
theorem dX6_machineOf_109 : decode cX6_machineOf 109 = .ok (.ireturn, 1) := by decide +kernel
theorem dX6_machineOf_110 : decode cX6_machineOf 110 = .ok (.aload_n 3, 1) := by decide +kernel
theorem dX6_machineOf_111 : decode cX6_machineOf 111 = .ok (.getfield 135, 3) := by decide +kernel
theorem dX6_machineOf_114 : decode cX6_machineOf 114 = .ok (.ireturn, 1) := by decide +kernel
theorem dX6_machineOf_115 : decode cX6_machineOf 115 = .ok (.aload_n 3, 1) := by decide +kernel
theorem dX6_machineOf_116 : decode cX6_machineOf 116 = .ok (.getfield 138, 3) := by decide +kernel
theorem dX6_machineOf_119 : decode cX6_machineOf 119 = .ok (.ireturn, 1) := by decide +kernel
theorem dX6_machineOf_120 : decode cX6_machineOf 120 = .ok (.aload_n 3, 1) := by decide +kernel
theorem dX6_machineOf_121 : decode cX6_machineOf 121 = .ok (.getfield 173, 3) := by decide +kernel
theorem dX6_machineOf_124 : decode cX6_machineOf 124 = .ok (.ireturn, 1) := by decide +kernel
theorem dX6_machineOf_125 : decode cX6_machineOf 125 = .ok (.aload_n 3, 1) := by decide +kernel
theorem dX6_machineOf_126 : decode cX6_machineOf 126 = .ok (.getfield 132, 3) := by decide +kernel
theorem dX6_machineOf_129 : decode cX6_machineOf 129 = .ok (.ireturn, 1) := by decide +kernel
theorem dX6_machineOf_130 : decode cX6_machineOf 130 = .ok (.aload_n 3, 1) := by decide +kernel
theorem dX6_machineOf_131 : decode cX6_machineOf 131 = .ok (.getfield 120, 3) := by decide +kernel
theorem dX6_machineOf_134 : decode cX6_machineOf 134 = .ok (.ireturn, 1) := by decide +kernel
theorem dX6_machineOf_135 : decode cX6_machineOf 135 = .ok (.ldc 231, 2) := by decide +kernel
theorem dX6_machineOf_137 : decode cX6_machineOf 137 = .ok (.aload_n 0, 1) := by decide +kernel
theorem dX6_machineOf_138 : decode cX6_machineOf 138 = .ok (.bipush (-2), 2) := by decide +kernel
theorem dX6_machineOf_140 : decode cX6_machineOf 140 = .ok (.invokevirtual 52, 3) := by decide +kernel
theorem dX6_machineOf_143 : decode cX6_machineOf 143 = .ok (.isub, 1) := by decide +kernel
theorem dX6_machineOf_144 : decode cX6_machineOf 144 = .ok (.ireturn, 1) := by decide +kernel
theorem dX6_tubeOf_0 : decode cX6_tubeOf 0 = .ok (.aload_n 0, 1) := by decide +kernel
theorem dX6_tubeOf_1 : decode cX6_tubeOf 1 = .ok (.iload_n 1, 1) := by decide +kernel
theorem dX6_tubeOf_2 : decode cX6_tubeOf 2 = .ok (.invokevirtual 57, 3) := by decide +kernel
theorem dX6_tubeOf_5 : decode cX6_tubeOf 5 = .ok (.astore_n 3, 1) := by decide +kernel
theorem dX6_tubeOf_6 : decode cX6_tubeOf 6 = .ok (.aload_n 3, 1) := by decide +kernel
theorem dX6_tubeOf_7 : decode cX6_tubeOf 7 = .ok (.ifnull 10, 3) := by decide +kernel
theorem dX6_tubeOf_10 : decode cX6_tubeOf 10 = .ok (.iload_n 2, 1) := by decide +kernel
theorem dX6_tubeOf_11 : decode cX6_tubeOf 11 = .ok (.invokestatic 88, 3) := by decide +kernel
theorem dX6_tubeOf_14 : decode cX6_tubeOf 14 = .ok (.ifCond .ne 9, 3) := by decide +kernel
theorem dX6_tubeOf_17 : decode cX6_tubeOf 17 = .ok (.aload_n 0, 1) := by decide +kernel
theorem dX6_tubeOf_18 : decode cX6_tubeOf 18 = .ok (.iconst (-1), 1) := by decide +kernel
theorem dX6_tubeOf_19 : decode cX6_tubeOf 19 = .ok (.invokevirtual 52, 3) := by decide +kernel
theorem dX6_tubeOf_22 : decode cX6_tubeOf 22 = .ok (.ireturn, 1) := by decide +kernel
theorem dX6_tubeOf_23 : decode cX6_tubeOf 23 = .ok (.aload_n 3, 1) := by decide +kernel
theorem dX6_tubeOf_24 : decode cX6_tubeOf 24 = .ok (.getfield 91, 3) := by decide +kernel
theorem dX6_tubeOf_27 : decode cX6_tubeOf 27 = .ok (.getfield 95, 3) := by decide +kernel
theorem dX6_tubeOf_30 : decode cX6_tubeOf 30 = .ok (.iload_n 2, 1) := by decide +kernel
theorem dX6_tubeOf_31 : decode cX6_tubeOf 31 = .ok (.iaload, 1) := by decide +kernel
theorem dX6_tubeOf_32 : decode cX6_tubeOf 32 = .ok (.ireturn, 1) := by decide +kernel
theorem dX6_collect_0 : decode cX6_collect 0 = .ok (.aload_n 0, 1) := by decide +kernel
theorem dX6_collect_1 : decode cX6_collect 1 = .ok (.iload_n 1, 1) := by decide +kernel
theorem dX6_collect_2 : decode cX6_collect 2 = .ok (.invokevirtual 57, 3) := by decide +kernel
theorem dX6_collect_5 : decode cX6_collect 5 = .ok (.astore_n 2, 1) := by decide +kernel
theorem dX6_collect_6 : decode cX6_collect 6 = .ok (.aload_n 2, 1) := by decide +kernel
theorem dX6_collect_7 : decode cX6_collect 7 = .ok (.ifnonnull 9, 3) := by decide +kernel
theorem dX6_collect_10 : decode cX6_collect 10 = .ok (.aload_n 0, 1) := by decide +kernel
theorem dX6_collect_11 : decode cX6_collect 11 = .ok (.iconst (-1), 1) := by decide +kernel
theorem dX6_collect_12 : decode cX6_collect 12 = .ok (.invokevirtual 52, 3) := by decide +kernel
theorem dX6_collect_15 : decode cX6_collect 15 = .ok (.ireturn, 1) := by decide +kernel
theorem dX6_collect_16 : decode cX6_collect 16 = .ok (.aload_n 2, 1) := by decide +kernel
theorem dX6_collect_17 : decode cX6_collect 17 = .ok (.getfield 91, 3) := by decide +kernel
theorem dX6_collect_20 : decode cX6_collect 20 = .ok (.invokevirtual 238, 3) := by decide +kernel
theorem dX6_collect_23 : decode cX6_collect 23 = .ok (.ireturn, 1) := by decide +kernel
theorem dX6_check_0 : decode cX6_check 0 = .ok (.aload_n 0, 1) := by decide +kernel
theorem dX6_check_1 : decode cX6_check 1 = .ok (.iload_n 1, 1) := by decide +kernel
theorem dX6_check_2 : decode cX6_check 2 = .ok (.invokevirtual 57, 3) := by decide +kernel
theorem dX6_check_5 : decode cX6_check 5 = .ok (.astore_n 2, 1) := by decide +kernel
theorem dX6_check_6 : decode cX6_check 6 = .ok (.aload_n 2, 1) := by decide +kernel
theorem dX6_check_7 : decode cX6_check 7 = .ok (.ifnull 24, 3) := by decide +kernel
theorem dX6_check_10 : decode cX6_check 10 = .ok (.aload_n 2, 1) := by decide +kernel
theorem dX6_check_11 : decode cX6_check 11 = .ok (.invokevirtual 241, 3) := by decide +kernel
theorem dX6_check_14 : decode cX6_check 14 = .ok (.ifCond .eq 17, 3) := by decide +kernel
theorem dX6_check_17 : decode cX6_check 17 = .ok (.aload_n 2, 1) := by decide +kernel
theorem dX6_check_18 : decode cX6_check 18 = .ok (.getfield 91, 3) := by decide +kernel
theorem dX6_check_21 : decode cX6_check 21 = .ok (.invokevirtual 244, 3) := by decide +kernel
theorem dX6_check_24 : decode cX6_check 24 = .ok (.ifCond .eq 7, 3) := by decide +kernel
theorem dX6_check_27 : decode cX6_check 27 = .ok (.iconst 1, 1) := by decide +kernel
theorem dX6_check_28 : decode cX6_check 28 = .ok (.goto 4, 3) := by decide +kernel
theorem dX6_check_31 : decode cX6_check 31 = .ok (.iconst 0, 1) := by decide +kernel
theorem dX6_check_32 : decode cX6_check 32 = .ok (.ireturn, 1) := by decide +kernel
theorem dX6_count_0 : decode cX6_count 0 = .ok (.iload_n 1, 1) := by decide +kernel
theorem dX6_count_1 : decode cX6_count 1 = .ok (.bipush 10, 2) := by decide +kernel
theorem dX6_count_3 : decode cX6_count 3 = .ok (.if_icmp .le 19, 3) := by decide +kernel
theorem dX6_count_6 : decode cX6_count 6 = .ok (.iload_n 1, 1) := by decide +kernel
theorem dX6_count_7 : decode cX6_count 7 = .ok (.bipush 16, 2) := by decide +kernel
theorem dX6_count_9 : decode cX6_count 9 = .ok (.if_icmp .gt 13, 3) := by decide +kernel
theorem dX6_count_12 : decode cX6_count 12 = .ok (.aload_n 0, 1) := by decide +kernel
theorem dX6_count_13 : decode cX6_count 13 = .ok (.getfield 25, 3) := by decide +kernel
theorem dX6_count_16 : decode cX6_count 16 = .ok (.iload_n 1, 1) := by decide +kernel
theorem dX6_count_17 : decode cX6_count 17 = .ok (.bipush 10, 2) := by decide +kernel
theorem dX6_count_19 : decode cX6_count 19 = .ok (.isub, 1) := by decide +kernel
theorem dX6_count_20 : decode cX6_count 20 = .ok (.iaload, 1) := by decide +kernel
theorem dX6_count_21 : decode cX6_count 21 = .ok (.ireturn, 1) := by decide +kernel
theorem dX6_count_22 : decode cX6_count 22 = .ok (.iload_n 1, 1) := by decide +kernel
theorem dX6_count_23 : decode cX6_count 23 = .ok (.tableswitch 49 0 3 #[29, 34, 39, 44], 29) := by decide +kernel
theorem dX6_count_52 : decode cX6_count 52 = .ok (.aload_n 0, 1) := by decide +kernel
theorem dX6_count_53 : decode cX6_count 53 = .ok (.getfield 183, 3) := by decide +kernel
theorem dX6_count_56 : decode cX6_count 56 = .ok (.ireturn, 1) := by decide +kernel
theorem dX6_count_57 : decode cX6_count 57 = .ok (.aload_n 0, 1) := by decide +kernel
theorem dX6_count_58 : decode cX6_count 58 = .ok (.getfield 48, 3) := by decide +kernel
theorem dX6_count_61 : decode cX6_count 61 = .ok (.ireturn, 1) := by decide +kernel
theorem dX6_count_62 : decode cX6_count 62 = .ok (.aload_n 0, 1) := by decide +kernel
theorem dX6_count_63 : decode cX6_count 63 = .ok (.invokevirtual 247, 3) := by decide +kernel
theorem dX6_count_66 : decode cX6_count 66 = .ok (.ireturn, 1) := by decide +kernel
theorem dX6_count_67 : decode cX6_count 67 = .ok (.aload_n 0, 1) := by decide +kernel
theorem dX6_count_68 : decode cX6_count 68 = .ok (.getfield 170, 3) := by decide +kernel
theorem dX6_count_71 : decode cX6_count 71 = .ok (.ireturn, 1) := by decide +kernel
theorem dX6_count_72 : decode cX6_count 72 = .ok (.bipush (-9), 2) := by decide +kernel
theorem dX6_count_74 : decode cX6_count 74 = .ok (.ireturn, 1) := by decide +kernel
theorem dX6_refuse_0 : decode cX6_refuse 0 = .ok (.iload_n 1, 1) := by decide +kernel
theorem dX6_refuse_1 : decode cX6_refuse 1 = .ok (.ineg, 1) := by decide +kernel
theorem dX6_refuse_2 : decode cX6_refuse 2 = .ok (.istore_n 2, 1) := by decide +kernel
theorem dX6_refuse_3 : decode cX6_refuse 3 = .ok (.iload_n 2, 1) := by decide +kernel
theorem dX6_refuse_4 : decode cX6_refuse 4 = .ok (.iconst 1, 1) := by decide +kernel
theorem dX6_refuse_5 : decode cX6_refuse 5 = .ok (.if_icmp .lt 22, 3) := by decide +kernel
theorem dX6_refuse_8 : decode cX6_refuse 8 = .ok (.iload_n 2, 1) := by decide +kernel
theorem dX6_refuse_9 : decode cX6_refuse 9 = .ok (.aload_n 0, 1) := by decide +kernel
theorem dX6_refuse_10 : decode cX6_refuse 10 = .ok (.getfield 25, 3) := by decide +kernel
theorem dX6_refuse_13 : decode cX6_refuse 13 = .ok (.arraylength, 1) := by decide +kernel
theorem dX6_refuse_14 : decode cX6_refuse 14 = .ok (.if_icmp .ge 13, 3) := by decide +kernel
theorem dX6_refuse_17 : decode cX6_refuse 17 = .ok (.aload_n 0, 1) := by decide +kernel
theorem dX6_refuse_18 : decode cX6_refuse 18 = .ok (.getfield 25, 3) := by decide +kernel
theorem dX6_refuse_21 : decode cX6_refuse 21 = .ok (.iload_n 2, 1) := by decide +kernel
theorem dX6_refuse_22 : decode cX6_refuse 22 = .ok (.dup2, 1) := by decide +kernel
theorem dX6_refuse_23 : decode cX6_refuse 23 = .ok (.iaload, 1) := by decide +kernel
theorem dX6_refuse_24 : decode cX6_refuse 24 = .ok (.iconst 1, 1) := by decide +kernel
theorem dX6_refuse_25 : decode cX6_refuse 25 = .ok (.iadd, 1) := by decide +kernel
theorem dX6_refuse_26 : decode cX6_refuse 26 = .ok (.iastore, 1) := by decide +kernel
theorem dX6_refuse_27 : decode cX6_refuse 27 = .ok (.iload_n 1, 1) := by decide +kernel
theorem dX6_refuse_28 : decode cX6_refuse 28 = .ok (.ireturn, 1) := by decide +kernel
theorem dX6_machineAt_0 : decode cX6_machineAt 0 = .ok (.iload_n 1, 1) := by decide +kernel
theorem dX6_machineAt_1 : decode cX6_machineAt 1 = .ok (.ifCond .lt 20, 3) := by decide +kernel
theorem dX6_machineAt_4 : decode cX6_machineAt 4 = .ok (.iload_n 1, 1) := by decide +kernel
theorem dX6_machineAt_5 : decode cX6_machineAt 5 = .ok (.aload_n 0, 1) := by decide +kernel
theorem dX6_machineAt_6 : decode cX6_machineAt 6 = .ok (.getfield 48, 3) := by decide +kernel
theorem dX6_machineAt_9 : decode cX6_machineAt 9 = .ok (.if_icmp .ge 12, 3) := by decide +kernel
theorem dX6_machineAt_12 : decode cX6_machineAt 12 = .ok (.aload_n 0, 1) := by decide +kernel
theorem dX6_machineAt_13 : decode cX6_machineAt 13 = .ok (.getfield 11, 3) := by decide +kernel
theorem dX6_machineAt_16 : decode cX6_machineAt 16 = .ok (.iload_n 1, 1) := by decide +kernel
theorem dX6_machineAt_17 : decode cX6_machineAt 17 = .ok (.aaload, 1) := by decide +kernel
theorem dX6_machineAt_18 : decode cX6_machineAt 18 = .ok (.goto 4, 3) := by decide +kernel
theorem dX6_machineAt_21 : decode cX6_machineAt 21 = .ok (.aconst_null, 1) := by decide +kernel
theorem dX6_machineAt_22 : decode cX6_machineAt 22 = .ok (.areturn, 1) := by decide +kernel
theorem dX6_laneAt_0 : decode cX6_laneAt 0 = .ok (.aload_n 0, 1) := by decide +kernel
theorem dX6_laneAt_1 : decode cX6_laneAt 1 = .ok (.iload_n 1, 1) := by decide +kernel
theorem dX6_laneAt_2 : decode cX6_laneAt 2 = .ok (.invokevirtual 57, 3) := by decide +kernel
theorem dX6_laneAt_5 : decode cX6_laneAt 5 = .ok (.astore_n 3, 1) := by decide +kernel
theorem dX6_laneAt_6 : decode cX6_laneAt 6 = .ok (.aload_n 3, 1) := by decide +kernel
theorem dX6_laneAt_7 : decode cX6_laneAt 7 = .ok (.ifnonnull 7, 3) := by decide +kernel
theorem dX6_laneAt_10 : decode cX6_laneAt 10 = .ok (.aconst_null, 1) := by decide +kernel
theorem dX6_laneAt_11 : decode cX6_laneAt 11 = .ok (.goto 8, 3) := by decide +kernel
theorem dX6_laneAt_14 : decode cX6_laneAt 14 = .ok (.aload_n 3, 1) := by decide +kernel
theorem dX6_laneAt_15 : decode cX6_laneAt 15 = .ok (.iload_n 2, 1) := by decide +kernel
theorem dX6_laneAt_16 : decode cX6_laneAt 16 = .ok (.invokevirtual 250, 3) := by decide +kernel
theorem dX6_laneAt_19 : decode cX6_laneAt 19 = .ok (.areturn, 1) := by decide +kernel
theorem dX6_passHour_0 : decode cX6_passHour 0 = .ok (.aload_n 0, 1) := by decide +kernel
theorem dX6_passHour_1 : decode cX6_passHour 1 = .ok (.getfield 183, 3) := by decide +kernel
theorem dX6_passHour_4 : decode cX6_passHour 4 = .ok (.bipush 24, 2) := by decide +kernel
theorem dX6_passHour_6 : decode cX6_passHour 6 = .ok (.irem, 1) := by decide +kernel
theorem dX6_passHour_7 : decode cX6_passHour 7 = .ok (.istore_n 1, 1) := by decide +kernel
theorem dX6_passHour_8 : decode cX6_passHour 8 = .ok (.aload_n 0, 1) := by decide +kernel
theorem dX6_passHour_9 : decode cX6_passHour 9 = .ok (.dup, 1) := by decide +kernel
theorem dX6_passHour_10 : decode cX6_passHour 10 = .ok (.getfield 183, 3) := by decide +kernel
theorem dX6_passHour_13 : decode cX6_passHour 13 = .ok (.iconst 1, 1) := by decide +kernel
theorem dX6_passHour_14 : decode cX6_passHour 14 = .ok (.iadd, 1) := by decide +kernel
theorem dX6_passHour_15 : decode cX6_passHour 15 = .ok (.putfield 183, 3) := by decide +kernel
theorem dX6_passHour_18 : decode cX6_passHour 18 = .ok (.iconst 0, 1) := by decide +kernel
theorem dX6_passHour_19 : decode cX6_passHour 19 = .ok (.istore_n 2, 1) := by decide +kernel
theorem dX6_passHour_20 : decode cX6_passHour 20 = .ok (.iload_n 2, 1) := by decide +kernel
theorem dX6_passHour_21 : decode cX6_passHour 21 = .ok (.aload_n 0, 1) := by decide +kernel
theorem dX6_passHour_22 : decode cX6_passHour 22 = .ok (.getfield 48, 3) := by decide +kernel
theorem dX6_passHour_25 : decode cX6_passHour 25 = .ok (.if_icmp .ge 28, 3) := by decide +kernel
theorem dX6_passHour_28 : decode cX6_passHour 28 = .ok (.aload_n 0, 1) := by decide +kernel
theorem dX6_passHour_29 : decode cX6_passHour 29 = .ok (.iload_n 2, 1) := by decide +kernel
theorem dX6_passHour_30 : decode cX6_passHour 30 = .ok (.invokevirtual 57, 3) := by decide +kernel
theorem dX6_passHour_33 : decode cX6_passHour 33 = .ok (.astore_n 3, 1) := by decide +kernel
theorem dX6_passHour_34 : decode cX6_passHour 34 = .ok (.aload_n 3, 1) := by decide +kernel
theorem dX6_passHour_35 : decode cX6_passHour 35 = .ok (.ifnull 12, 3) := by decide +kernel
theorem dX6_passHour_38 : decode cX6_passHour 38 = .ok (.aload_n 3, 1) := by decide +kernel
theorem dX6_passHour_39 : decode cX6_passHour 39 = .ok (.iload_n 1, 1) := by decide +kernel
theorem dX6_passHour_40 : decode cX6_passHour 40 = .ok (.invokevirtual 253, 3) := by decide +kernel
theorem dX6_passHour_43 : decode cX6_passHour 43 = .ok (.aload_n 3, 1) := by decide +kernel
theorem dX6_passHour_44 : decode cX6_passHour 44 = .ok (.invokevirtual 256, 3) := by decide +kernel
theorem dX6_passHour_47 : decode cX6_passHour 47 = .ok (.iinc 2 1, 3) := by decide +kernel
theorem dX6_passHour_50 : decode cX6_passHour 50 = .ok (.goto (-30), 3) := by decide +kernel
theorem dX6_passHour_53 : decode cX6_passHour 53 = .ok (.return_, 1) := by decide +kernel
theorem dX6_soldOfAll_0 : decode cX6_soldOfAll 0 = .ok (.iconst 0, 1) := by decide +kernel
theorem dX6_soldOfAll_1 : decode cX6_soldOfAll 1 = .ok (.istore_n 1, 1) := by decide +kernel
theorem dX6_soldOfAll_2 : decode cX6_soldOfAll 2 = .ok (.iconst 0, 1) := by decide +kernel
theorem dX6_soldOfAll_3 : decode cX6_soldOfAll 3 = .ok (.istore_n 2, 1) := by decide +kernel
theorem dX6_soldOfAll_4 : decode cX6_soldOfAll 4 = .ok (.iload_n 2, 1) := by decide +kernel
theorem dX6_soldOfAll_5 : decode cX6_soldOfAll 5 = .ok (.aload_n 0, 1) := by decide +kernel
theorem dX6_soldOfAll_6 : decode cX6_soldOfAll 6 = .ok (.getfield 48, 3) := by decide +kernel
theorem dX6_soldOfAll_9 : decode cX6_soldOfAll 9 = .ok (.if_icmp .ge 26, 3) := by decide +kernel
theorem dX6_soldOfAll_12 : decode cX6_soldOfAll 12 = .ok (.aload_n 0, 1) := by decide +kernel
theorem dX6_soldOfAll_13 : decode cX6_soldOfAll 13 = .ok (.iload_n 2, 1) := by decide +kernel
theorem dX6_soldOfAll_14 : decode cX6_soldOfAll 14 = .ok (.invokevirtual 57, 3) := by decide +kernel
theorem dX6_soldOfAll_17 : decode cX6_soldOfAll 17 = .ok (.astore_n 3, 1) := by decide +kernel
theorem dX6_soldOfAll_18 : decode cX6_soldOfAll 18 = .ok (.aload_n 3, 1) := by decide +kernel
theorem dX6_soldOfAll_19 : decode cX6_soldOfAll 19 = .ok (.ifnull 10, 3) := by decide +kernel
theorem dX6_soldOfAll_22 : decode cX6_soldOfAll 22 = .ok (.iload_n 1, 1) := by decide +kernel
theorem dX6_soldOfAll_23 : decode cX6_soldOfAll 23 = .ok (.aload_n 3, 1) := by decide +kernel
theorem dX6_soldOfAll_24 : decode cX6_soldOfAll 24 = .ok (.getfield 173, 3) := by decide +kernel
theorem dX6_soldOfAll_27 : decode cX6_soldOfAll 27 = .ok (.iadd, 1) := by decide +kernel
theorem dX6_soldOfAll_28 : decode cX6_soldOfAll 28 = .ok (.istore_n 1, 1) := by decide +kernel
theorem dX6_soldOfAll_29 : decode cX6_soldOfAll 29 = .ok (.iinc 2 1, 3) := by decide +kernel
theorem dX6_soldOfAll_32 : decode cX6_soldOfAll 32 = .ok (.goto (-28), 3) := by decide +kernel
theorem dX6_soldOfAll_35 : decode cX6_soldOfAll 35 = .ok (.iload_n 1, 1) := by decide +kernel
theorem dX6_soldOfAll_36 : decode cX6_soldOfAll 36 = .ok (.ireturn, 1) := by decide +kernel
theorem dX6_isGood_0 : decode cX6_isGood 0 = .ok (.iload_n 0, 1) := by decide +kernel
theorem dX6_isGood_1 : decode cX6_isGood 1 = .ok (.ifCond .lt 13, 3) := by decide +kernel
theorem dX6_isGood_4 : decode cX6_isGood 4 = .ok (.iload_n 0, 1) := by decide +kernel
theorem dX6_isGood_5 : decode cX6_isGood 5 = .ok (.bipush 16, 2) := by decide +kernel
theorem dX6_isGood_7 : decode cX6_isGood 7 = .ok (.if_icmp .ge 7, 3) := by decide +kernel
theorem dX6_isGood_10 : decode cX6_isGood 10 = .ok (.iconst 1, 1) := by decide +kernel
theorem dX6_isGood_11 : decode cX6_isGood 11 = .ok (.goto 4, 3) := by decide +kernel
theorem dX6_isGood_14 : decode cX6_isGood 14 = .ok (.iconst 0, 1) := by decide +kernel
theorem dX6_isGood_15 : decode cX6_isGood 15 = .ok (.ireturn, 1) := by decide +kernel
theorem dX6_isWorth_0 : decode cX6_isWorth 0 = .ok (.iload_n 0, 1) := by decide +kernel
theorem dX6_isWorth_1 : decode cX6_isWorth 1 = .ok (.ifCond .lt 15, 3) := by decide +kernel
theorem dX6_isWorth_4 : decode cX6_isWorth 4 = .ok (.iload_n 0, 1) := by decide +kernel
theorem dX6_isWorth_5 : decode cX6_isWorth 5 = .ok (.getstatic 28, 3) := by decide +kernel
theorem dX6_isWorth_8 : decode cX6_isWorth 8 = .ok (.arraylength, 1) := by decide +kernel
theorem dX6_isWorth_9 : decode cX6_isWorth 9 = .ok (.if_icmp .ge 7, 3) := by decide +kernel
theorem dX6_isWorth_12 : decode cX6_isWorth 12 = .ok (.iconst 1, 1) := by decide +kernel
theorem dX6_isWorth_13 : decode cX6_isWorth 13 = .ok (.goto 4, 3) := by decide +kernel
theorem dX6_isWorth_16 : decode cX6_isWorth 16 = .ok (.iconst 0, 1) := by decide +kernel
theorem dX6_isWorth_17 : decode cX6_isWorth 17 = .ok (.ireturn, 1) := by decide +kernel
theorem dX6_isPriceBelow_0 : decode cX6_isPriceBelow 0 = .ok (.iload_n 0, 1) := by decide +kernel
theorem dX6_isPriceBelow_1 : decode cX6_isPriceBelow 1 = .ok (.bipush 10, 2) := by decide +kernel
theorem dX6_isPriceBelow_3 : decode cX6_isPriceBelow 3 = .ok (.if_icmp .lt 10, 3) := by decide +kernel
theorem dX6_isPriceBelow_6 : decode cX6_isPriceBelow 6 = .ok (.iload_n 0, 1) := by decide +kernel
theorem dX6_isPriceBelow_7 : decode cX6_isPriceBelow 7 = .ok (.bipush 10, 2) := by decide +kernel
theorem dX6_isPriceBelow_9 : decode cX6_isPriceBelow 9 = .ok (.irem, 1) := by decide +kernel
theorem dX6_isPriceBelow_10 : decode cX6_isPriceBelow 10 = .ok (.ifCond .eq 7, 3) := by decide +kernel
theorem dX6_isPriceBelow_13 : decode cX6_isPriceBelow 13 = .ok (.iconst 1, 1) := by decide +kernel
theorem dX6_isPriceBelow_14 : decode cX6_isPriceBelow 14 = .ok (.goto 4, 3) := by decide +kernel
theorem dX6_isPriceBelow_17 : decode cX6_isPriceBelow 17 = .ok (.iconst 0, 1) := by decide +kernel
theorem dX6_isPriceBelow_18 : decode cX6_isPriceBelow 18 = .ok (.ireturn, 1) := by decide +kernel
theorem dX6_worthOf_0 : decode cX6_worthOf 0 = .ok (.iconst 0, 1) := by decide +kernel
theorem dX6_worthOf_1 : decode cX6_worthOf 1 = .ok (.istore_n 1, 1) := by decide +kernel
theorem dX6_worthOf_2 : decode cX6_worthOf 2 = .ok (.iconst 0, 1) := by decide +kernel
theorem dX6_worthOf_3 : decode cX6_worthOf 3 = .ok (.istore_n 2, 1) := by decide +kernel
theorem dX6_worthOf_4 : decode cX6_worthOf 4 = .ok (.iload_n 2, 1) := by decide +kernel
theorem dX6_worthOf_5 : decode cX6_worthOf 5 = .ok (.getstatic 28, 3) := by decide +kernel
theorem dX6_worthOf_8 : decode cX6_worthOf 8 = .ok (.arraylength, 1) := by decide +kernel
theorem dX6_worthOf_9 : decode cX6_worthOf 9 = .ok (.if_icmp .ge 27, 3) := by decide +kernel
theorem dX6_worthOf_12 : decode cX6_worthOf 12 = .ok (.iload_n 2, 1) := by decide +kernel
theorem dX6_worthOf_13 : decode cX6_worthOf 13 = .ok (.aload_n 0, 1) := by decide +kernel
theorem dX6_worthOf_14 : decode cX6_worthOf 14 = .ok (.arraylength, 1) := by decide +kernel
theorem dX6_worthOf_15 : decode cX6_worthOf 15 = .ok (.if_icmp .ge 21, 3) := by decide +kernel
theorem dX6_worthOf_18 : decode cX6_worthOf 18 = .ok (.iload_n 1, 1) := by decide +kernel
theorem dX6_worthOf_19 : decode cX6_worthOf 19 = .ok (.getstatic 28, 3) := by decide +kernel
theorem dX6_worthOf_22 : decode cX6_worthOf 22 = .ok (.iload_n 2, 1) := by decide +kernel
theorem dX6_worthOf_23 : decode cX6_worthOf 23 = .ok (.iaload, 1) := by decide +kernel
theorem dX6_worthOf_24 : decode cX6_worthOf 24 = .ok (.aload_n 0, 1) := by decide +kernel
theorem dX6_worthOf_25 : decode cX6_worthOf 25 = .ok (.iload_n 2, 1) := by decide +kernel
theorem dX6_worthOf_26 : decode cX6_worthOf 26 = .ok (.iaload, 1) := by decide +kernel
theorem dX6_worthOf_27 : decode cX6_worthOf 27 = .ok (.imul, 1) := by decide +kernel
theorem dX6_worthOf_28 : decode cX6_worthOf 28 = .ok (.iadd, 1) := by decide +kernel
theorem dX6_worthOf_29 : decode cX6_worthOf 29 = .ok (.istore_n 1, 1) := by decide +kernel
theorem dX6_worthOf_30 : decode cX6_worthOf 30 = .ok (.iinc 2 1, 3) := by decide +kernel
theorem dX6_worthOf_33 : decode cX6_worthOf 33 = .ok (.goto (-29), 3) := by decide +kernel
theorem dX6_worthOf_36 : decode cX6_worthOf 36 = .ok (.iload_n 1, 1) := by decide +kernel
theorem dX6_worthOf_37 : decode cX6_worthOf 37 = .ok (.ireturn, 1) := by decide +kernel
end
section
theorem dX7_init_0 : decode cX7_init 0 = .ok (.aload_n 0, 1) := by decide +kernel
theorem dX7_init_1 : decode cX7_init 1 = .ok (.invokespecial 1, 3) := by decide +kernel
theorem dX7_init_4 : decode cX7_init 4 = .ok (.aload_n 0, 1) := by decide +kernel
theorem dX7_init_5 : decode cX7_init 5 = .ok (.bipush 6, 2) := by decide +kernel
theorem dX7_init_7 : decode cX7_init 7 = .ok (.newarray .int, 2) := by decide +kernel
theorem dX7_init_9 : decode cX7_init 9 = .ok (.putfield 7, 3) := by decide +kernel
theorem dX7_init_12 : decode cX7_init 12 = .ok (.aload_n 0, 1) := by decide +kernel
theorem dX7_init_13 : decode cX7_init 13 = .ok (.bipush 36, 2) := by decide +kernel
theorem dX7_init_15 : decode cX7_init 15 = .ok (.newarray .int, 2) := by decide +kernel
theorem dX7_init_17 : decode cX7_init 17 = .ok (.putfield 13, 3) := by decide +kernel
theorem dX7_init_20 : decode cX7_init 20 = .ok (.aload_n 0, 1) := by decide +kernel
theorem dX7_init_21 : decode cX7_init 21 = .ok (.bipush 36, 2) := by decide +kernel
theorem dX7_init_23 : decode cX7_init 23 = .ok (.newarray .int, 2) := by decide +kernel
theorem dX7_init_25 : decode cX7_init 25 = .ok (.putfield 16, 3) := by decide +kernel
theorem dX7_init_28 : decode cX7_init 28 = .ok (.aload_n 0, 1) := by decide +kernel
theorem dX7_init_29 : decode cX7_init 29 = .ok (.bipush 36, 2) := by decide +kernel
theorem dX7_init_31 : decode cX7_init 31 = .ok (.newarray .int, 2) := by decide +kernel
theorem dX7_init_33 : decode cX7_init 33 = .ok (.putfield 19, 3) := by decide +kernel
theorem dX7_init_36 : decode cX7_init 36 = .ok (.aload_n 0, 1) := by decide +kernel
theorem dX7_init_37 : decode cX7_init 37 = .ok (.bipush 36, 2) := by decide +kernel
theorem dX7_init_39 : decode cX7_init 39 = .ok (.newarray .int, 2) := by decide +kernel
theorem dX7_init_41 : decode cX7_init 41 = .ok (.putfield 22, 3) := by decide +kernel
theorem dX7_init_44 : decode cX7_init 44 = .ok (.aload_n 0, 1) := by decide +kernel
theorem dX7_init_45 : decode cX7_init 45 = .ok (.bipush 36, 2) := by decide +kernel
theorem dX7_init_47 : decode cX7_init 47 = .ok (.newarray .int, 2) := by decide +kernel
theorem dX7_init_49 : decode cX7_init 49 = .ok (.putfield 25, 3) := by decide +kernel
theorem dX7_init_52 : decode cX7_init 52 = .ok (.aload_n 0, 1) := by decide +kernel
theorem dX7_init_53 : decode cX7_init 53 = .ok (.bipush 6, 2) := by decide +kernel
theorem dX7_init_55 : decode cX7_init 55 = .ok (.newarray .boolean, 2) := by decide +kernel
theorem dX7_init_57 : decode cX7_init 57 = .ok (.putfield 28, 3) := by decide +kernel
theorem dX7_init_60 : decode cX7_init 60 = .ok (.aload_n 0, 1) := by decide +kernel
theorem dX7_init_61 : decode cX7_init 61 = .ok (.bipush 6, 2) := by decide +kernel
theorem dX7_init_63 : decode cX7_init 63 = .ok (.newarray .int, 2) := by decide +kernel
theorem dX7_init_65 : decode cX7_init 65 = .ok (.putfield 32, 3) := by decide +kernel
theorem dX7_init_68 : decode cX7_init 68 = .ok (.aload_n 0, 1) := by decide +kernel
theorem dX7_init_69 : decode cX7_init 69 = .ok (.bipush 48, 2) := by decide +kernel
theorem dX7_init_71 : decode cX7_init 71 = .ok (.newarray .int, 2) := by decide +kernel
theorem dX7_init_73 : decode cX7_init 73 = .ok (.putfield 35, 3) := by decide +kernel
theorem dX7_init_76 : decode cX7_init 76 = .ok (.aload_n 0, 1) := by decide +kernel
theorem dX7_init_77 : decode cX7_init 77 = .ok (.bipush 48, 2) := by decide +kernel
theorem dX7_init_79 : decode cX7_init 79 = .ok (.newarray .int, 2) := by decide +kernel
theorem dX7_init_81 : decode cX7_init 81 = .ok (.putfield 38, 3) := by decide +kernel
theorem dX7_init_84 : decode cX7_init 84 = .ok (.aload_n 0, 1) := by decide +kernel
theorem dX7_init_85 : decode cX7_init 85 = .ok (.bipush 48, 2) := by decide +kernel
theorem dX7_init_87 : decode cX7_init 87 = .ok (.newarray .int, 2) := by decide +kernel
theorem dX7_init_89 : decode cX7_init 89 = .ok (.putfield 41, 3) := by decide +kernel
theorem dX7_init_92 : decode cX7_init 92 = .ok (.aload_n 0, 1) := by decide +kernel
theorem dX7_init_93 : decode cX7_init 93 = .ok (.bipush 48, 2) := by decide +kernel
theorem dX7_init_95 : decode cX7_init 95 = .ok (.newarray .int, 2) := by decide +kernel
theorem dX7_init_97 : decode cX7_init 97 = .ok (.putfield 44, 3) := by decide +kernel
theorem dX7_init_100 : decode cX7_init 100 = .ok (.aload_n 0, 1) := by decide +kernel
theorem dX7_init_101 : decode cX7_init 101 = .ok (.bipush 48, 2) := by decide +kernel
theorem dX7_init_103 : decode cX7_init 103 = .ok (.newarray .int, 2) := by decide +kernel
theorem dX7_init_105 : decode cX7_init 105 = .ok (.putfield 47, 3) := by decide +kernel
theorem dX7_init_108 : decode cX7_init 108 = .ok (.aload_n 0, 1) := by decide +kernel
theorem dX7_init_109 : decode cX7_init 109 = .ok (.bipush 48, 2) := by decide +kernel
theorem dX7_init_111 : decode cX7_init 111 = .ok (.newarray .int, 2) := by decide +kernel
theorem dX7_init_113 : decode cX7_init 113 = .ok (.putfield 50, 3) := by decide +kernel
theorem dX7_init_116 : decode cX7_init 116 = .ok (.aload_n 0, 1) := by decide +kernel
theorem dX7_init_117 : decode cX7_init 117 = .ok (.bipush 48, 2) := by decide +kernel
theorem dX7_init_119 : decode cX7_init 119 = .ok (.newarray .int, 2) := by decide +kernel
theorem dX7_init_121 : decode cX7_init 121 = .ok (.putfield 53, 3) := by decide +kernel
theorem dX7_init_124 : decode cX7_init 124 = .ok (.aload_n 0, 1) := by decide +kernel
theorem dX7_init_125 : decode cX7_init 125 = .ok (.bipush 48, 2) := by decide +kernel
theorem dX7_init_127 : decode cX7_init 127 = .ok (.newarray .int, 2) := by decide +kernel
theorem dX7_init_129 : decode cX7_init 129 = .ok (.putfield 56, 3) := by decide +kernel
theorem dX7_init_132 : decode cX7_init 132 = .ok (.aload_n 0, 1) := by decide +kernel
theorem dX7_init_133 : decode cX7_init 133 = .ok (.bipush 48, 2) := by decide +kernel
theorem dX7_init_135 : decode cX7_init 135 = .ok (.newarray .boolean, 2) := by decide +kernel
theorem dX7_init_137 : decode cX7_init 137 = .ok (.putfield 59, 3) := by decide +kernel
theorem dX7_init_140 : decode cX7_init 140 = .ok (.aload_n 0, 1) := by decide +kernel
theorem dX7_init_141 : decode cX7_init 141 = .ok (.bipush 48, 2) := by decide +kernel
theorem dX7_init_143 : decode cX7_init 143 = .ok (.newarray .boolean, 2) := by decide +kernel
theorem dX7_init_145 : decode cX7_init 145 = .ok (.putfield 62, 3) := by decide +kernel
theorem dX7_init_148 : decode cX7_init 148 = .ok (.aload_n 0, 1) := by decide +kernel
theorem dX7_init_149 : decode cX7_init 149 = .ok (.bipush 16, 2) := by decide +kernel
theorem dX7_init_151 : decode cX7_init 151 = .ok (.newarray .int, 2) := by decide +kernel
theorem dX7_init_153 : decode cX7_init 153 = .ok (.dup, 1) := by decide +kernel
theorem dX7_init_154 : decode cX7_init 154 = .ok (.iconst 0, 1) := by decide +kernel
theorem dX7_init_155 : decode cX7_init 155 = .ok (.iconst 1, 1) := by decide +kernel
theorem dX7_init_156 : decode cX7_init 156 = .ok (.iastore, 1) := by decide +kernel
theorem dX7_init_157 : decode cX7_init 157 = .ok (.dup, 1) := by decide +kernel
theorem dX7_init_158 : decode cX7_init 158 = .ok (.iconst 1, 1) := by decide +kernel
theorem dX7_init_159 : decode cX7_init 159 = .ok (.iconst 1, 1) := by decide +kernel
theorem dX7_init_160 : decode cX7_init 160 = .ok (.iastore, 1) := by decide +kernel
theorem dX7_init_161 : decode cX7_init 161 = .ok (.dup, 1) := by decide +kernel
theorem dX7_init_162 : decode cX7_init 162 = .ok (.iconst 2, 1) := by decide +kernel
theorem dX7_init_163 : decode cX7_init 163 = .ok (.iconst 1, 1) := by decide +kernel
theorem dX7_init_164 : decode cX7_init 164 = .ok (.iastore, 1) := by decide +kernel
theorem dX7_init_165 : decode cX7_init 165 = .ok (.dup, 1) := by decide +kernel
theorem dX7_init_166 : decode cX7_init 166 = .ok (.iconst 3, 1) := by decide +kernel
theorem dX7_init_167 : decode cX7_init 167 = .ok (.iconst 1, 1) := by decide +kernel
theorem dX7_init_168 : decode cX7_init 168 = .ok (.iastore, 1) := by decide +kernel
theorem dX7_init_169 : decode cX7_init 169 = .ok (.dup, 1) := by decide +kernel
theorem dX7_init_170 : decode cX7_init 170 = .ok (.iconst 4, 1) := by decide +kernel
theorem dX7_init_171 : decode cX7_init 171 = .ok (.iconst 1, 1) := by decide +kernel
theorem dX7_init_172 : decode cX7_init 172 = .ok (.iastore, 1) := by decide +kernel
theorem dX7_init_173 : decode cX7_init 173 = .ok (.dup, 1) := by decide +kernel
theorem dX7_init_174 : decode cX7_init 174 = .ok (.iconst 5, 1) := by decide +kernel
theorem dX7_init_175 : decode cX7_init 175 = .ok (.iconst 1, 1) := by decide +kernel
theorem dX7_init_176 : decode cX7_init 176 = .ok (.iastore, 1) := by decide +kernel
theorem dX7_init_177 : decode cX7_init 177 = .ok (.dup, 1) := by decide +kernel
theorem dX7_init_178 : decode cX7_init 178 = .ok (.bipush 6, 2) := by decide +kernel
theorem dX7_init_180 : decode cX7_init 180 = .ok (.iconst 1, 1) := by decide +kernel
theorem dX7_init_181 : decode cX7_init 181 = .ok (.iastore, 1) := by decide +kernel
theorem dX7_init_182 : decode cX7_init 182 = .ok (.dup, 1) := by decide +kernel
theorem dX7_init_183 : decode cX7_init 183 = .ok (.bipush 7, 2) := by decide +kernel
theorem dX7_init_185 : decode cX7_init 185 = .ok (.iconst 1, 1) := by decide +kernel
theorem dX7_init_186 : decode cX7_init 186 = .ok (.iastore, 1) := by decide +kernel
theorem dX7_init_187 : decode cX7_init 187 = .ok (.dup, 1) := by decide +kernel
theorem dX7_init_188 : decode cX7_init 188 = .ok (.bipush 8, 2) := by decide +kernel
theorem dX7_init_190 : decode cX7_init 190 = .ok (.iconst 1, 1) := by decide +kernel
theorem dX7_init_191 : decode cX7_init 191 = .ok (.iastore, 1) := by decide +kernel
theorem dX7_init_192 : decode cX7_init 192 = .ok (.dup, 1) := by decide +kernel
theorem dX7_init_193 : decode cX7_init 193 = .ok (.bipush 9, 2) := by decide +kernel
theorem dX7_init_195 : decode cX7_init 195 = .ok (.iconst 1, 1) := by decide +kernel
theorem dX7_init_196 : decode cX7_init 196 = .ok (.iastore, 1) := by decide +kernel
theorem dX7_init_197 : decode cX7_init 197 = .ok (.dup, 1) := by decide +kernel
theorem dX7_init_198 : decode cX7_init 198 = .ok (.bipush 10, 2) := by decide +kernel
theorem dX7_init_200 : decode cX7_init 200 = .ok (.iconst 1, 1) := by decide +kernel
theorem dX7_init_201 : decode cX7_init 201 = .ok (.iastore, 1) := by decide +kernel
theorem dX7_init_202 : decode cX7_init 202 = .ok (.dup, 1) := by decide +kernel
theorem dX7_init_203 : decode cX7_init 203 = .ok (.bipush 11, 2) := by decide +kernel
theorem dX7_init_205 : decode cX7_init 205 = .ok (.iconst 1, 1) := by decide +kernel
theorem dX7_init_206 : decode cX7_init 206 = .ok (.iastore, 1) := by decide +kernel
theorem dX7_init_207 : decode cX7_init 207 = .ok (.dup, 1) := by decide +kernel
theorem dX7_init_208 : decode cX7_init 208 = .ok (.bipush 12, 2) := by decide +kernel
theorem dX7_init_210 : decode cX7_init 210 = .ok (.iconst 1, 1) := by decide +kernel
theorem dX7_init_211 : decode cX7_init 211 = .ok (.iastore, 1) := by decide +kernel
theorem dX7_init_212 : decode cX7_init 212 = .ok (.dup, 1) := by decide +kernel
theorem dX7_init_213 : decode cX7_init 213 = .ok (.bipush 13, 2) := by decide +kernel
theorem dX7_init_215 : decode cX7_init 215 = .ok (.iconst 1, 1) := by decide +kernel
theorem dX7_init_216 : decode cX7_init 216 = .ok (.iastore, 1) := by decide +kernel
theorem dX7_init_217 : decode cX7_init 217 = .ok (.dup, 1) := by decide +kernel
theorem dX7_init_218 : decode cX7_init 218 = .ok (.bipush 14, 2) := by decide +kernel
theorem dX7_init_220 : decode cX7_init 220 = .ok (.iconst 1, 1) := by decide +kernel
theorem dX7_init_221 : decode cX7_init 221 = .ok (.iastore, 1) := by decide +kernel
theorem dX7_init_222 : decode cX7_init 222 = .ok (.dup, 1) := by decide +kernel
theorem dX7_init_223 : decode cX7_init 223 = .ok (.bipush 15, 2) := by decide +kernel
theorem dX7_init_225 : decode cX7_init 225 = .ok (.iconst 1, 1) := by decide +kernel
theorem dX7_init_226 : decode cX7_init 226 = .ok (.iastore, 1) := by decide +kernel
theorem dX7_init_227 : decode cX7_init 227 = .ok (.putfield 65, 3) := by decide +kernel
theorem dX7_init_230 : decode cX7_init 230 = .ok (.aload_n 0, 1) := by decide +kernel
theorem dX7_init_231 : decode cX7_init 231 = .ok (.sipush 2304, 3) := by decide +kernel
theorem dX7_init_234 : decode cX7_init 234 = .ok (.newarray .int, 2) := by decide +kernel
theorem dX7_init_236 : decode cX7_init 236 = .ok (.putfield 68, 3) := by decide +kernel
theorem dX7_init_239 : decode cX7_init 239 = .ok (.aload_n 0, 1) := by decide +kernel
theorem dX7_init_240 : decode cX7_init 240 = .ok (.sipush 2304, 3) := by decide +kernel
theorem dX7_init_243 : decode cX7_init 243 = .ok (.newarray .int, 2) := by decide +kernel
theorem dX7_init_245 : decode cX7_init 245 = .ok (.putfield 71, 3) := by decide +kernel
theorem dX7_init_248 : decode cX7_init 248 = .ok (.aload_n 0, 1) := by decide +kernel
theorem dX7_init_249 : decode cX7_init 249 = .ok (.bipush 6, 2) := by decide +kernel
theorem dX7_init_251 : decode cX7_init 251 = .ok (.newarray .int, 2) := by decide +kernel
theorem dX7_init_253 : decode cX7_init 253 = .ok (.putfield 74, 3) := by decide +kernel
theorem dX7_init_256 : decode cX7_init 256 = .ok (.aload_n 0, 1) := by decide +kernel
theorem dX7_init_257 : decode cX7_init 257 = .ok (.bipush 6, 2) := by decide +kernel
theorem dX7_init_259 : decode cX7_init 259 = .ok (.newarray .int, 2) := by decide +kernel
theorem dX7_init_261 : decode cX7_init 261 = .ok (.putfield 77, 3) := by decide +kernel
theorem dX7_init_264 : decode cX7_init 264 = .ok (.aload_n 0, 1) := by decide +kernel
theorem dX7_init_265 : decode cX7_init 265 = .ok (.bipush 6, 2) := by decide +kernel
theorem dX7_init_267 : decode cX7_init 267 = .ok (.newarray .int, 2) := by decide +kernel
theorem dX7_init_269 : decode cX7_init 269 = .ok (.putfield 80, 3) := by decide +kernel
theorem dX7_init_272 : decode cX7_init 272 = .ok (.aload_n 0, 1) := by decide +kernel
theorem dX7_init_273 : decode cX7_init 273 = .ok (.bipush 6, 2) := by decide +kernel
theorem dX7_init_275 : decode cX7_init 275 = .ok (.newarray .int, 2) := by decide +kernel
theorem dX7_init_277 : decode cX7_init 277 = .ok (.putfield 83, 3) := by decide +kernel
theorem dX7_init_280 : decode cX7_init 280 = .ok (.aload_n 0, 1) := by decide +kernel
theorem dX7_init_281 : decode cX7_init 281 = .ok (.bipush 6, 2) := by decide +kernel
theorem dX7_init_283 : decode cX7_init 283 = .ok (.newarray .int, 2) := by decide +kernel
theorem dX7_init_285 : decode cX7_init 285 = .ok (.putfield 86, 3) := by decide +kernel
theorem dX7_init_288 : decode cX7_init 288 = .ok (.aload_n 0, 1) := by decide +kernel
theorem dX7_init_289 : decode cX7_init 289 = .ok (.bipush 8, 2) := by decide +kernel
theorem dX7_init_291 : decode cX7_init 291 = .ok (.newarray .int, 2) := by decide +kernel
theorem dX7_init_293 : decode cX7_init 293 = .ok (.putfield 89, 3) := by decide +kernel
theorem dX7_init_296 : decode cX7_init 296 = .ok (.aload_n 0, 1) := by decide +kernel
theorem dX7_init_297 : decode cX7_init 297 = .ok (.bipush 7, 2) := by decide +kernel
theorem dX7_init_299 : decode cX7_init 299 = .ok (.newarray .int, 2) := by decide +kernel
theorem dX7_init_301 : decode cX7_init 301 = .ok (.putfield 92, 3) := by decide +kernel
theorem dX7_init_304 : decode cX7_init 304 = .ok (.aload_n 0, 1) := by decide +kernel
theorem dX7_init_305 : decode cX7_init 305 = .ok (.sipush 14007, 3) := by decide +kernel
theorem dX7_init_308 : decode cX7_init 308 = .ok (.newarray .int, 2) := by decide +kernel
theorem dX7_init_310 : decode cX7_init 310 = .ok (.putfield 95, 3) := by decide +kernel
theorem dX7_init_313 : decode cX7_init 313 = .ok (.aload_n 0, 1) := by decide +kernel
theorem dX7_init_314 : decode cX7_init 314 = .ok (.bipush 6, 2) := by decide +kernel
theorem dX7_init_316 : decode cX7_init 316 = .ok (.newarray .int, 2) := by decide +kernel
theorem dX7_init_318 : decode cX7_init 318 = .ok (.putfield 98, 3) := by decide +kernel
theorem dX7_init_321 : decode cX7_init 321 = .ok (.aload_n 0, 1) := by decide +kernel
theorem dX7_init_322 : decode cX7_init 322 = .ok (.sipush 1809, 3) := by decide +kernel
theorem dX7_init_325 : decode cX7_init 325 = .ok (.newarray .int, 2) := by decide +kernel
theorem dX7_init_327 : decode cX7_init 327 = .ok (.putfield 101, 3) := by decide +kernel
theorem dX7_init_330 : decode cX7_init 330 = .ok (.return_, 1) := by decide +kernel
theorem dX7_in_0 : decode cX7_in 0 = .ok (.iload_n 0, 1) := by decide +kernel
theorem dX7_in_1 : decode cX7_in 1 = .ok (.iload_n 1, 1) := by decide +kernel
theorem dX7_in_2 : decode cX7_in 2 = .ok (.if_icmp .lt 12, 3) := by decide +kernel
theorem dX7_in_5 : decode cX7_in 5 = .ok (.iload_n 0, 1) := by decide +kernel
theorem dX7_in_6 : decode cX7_in 6 = .ok (.iload_n 2, 1) := by decide +kernel
theorem dX7_in_7 : decode cX7_in 7 = .ok (.if_icmp .gt 7, 3) := by decide +kernel
theorem dX7_in_10 : decode cX7_in 10 = .ok (.iconst 1, 1) := by decide +kernel
theorem dX7_in_11 : decode cX7_in 11 = .ok (.goto 4, 3) := by decide +kernel
theorem dX7_in_14 : decode cX7_in 14 = .ok (.iconst 0, 1) := by decide +kernel
theorem dX7_in_15 : decode cX7_in 15 = .ok (.ireturn, 1) := by decide +kernel
theorem dX7_refuse_0 : decode cX7_refuse 0 = .ok (.aload_n 0, 1) := by decide +kernel
theorem dX7_refuse_1 : decode cX7_refuse 1 = .ok (.getfield 92, 3) := by decide +kernel
theorem dX7_refuse_4 : decode cX7_refuse 4 = .ok (.iload_n 1, 1) := by decide +kernel
theorem dX7_refuse_5 : decode cX7_refuse 5 = .ok (.ineg, 1) := by decide +kernel
theorem dX7_refuse_6 : decode cX7_refuse 6 = .ok (.dup2, 1) := by decide +kernel
theorem dX7_refuse_7 : decode cX7_refuse 7 = .ok (.iaload, 1) := by decide +kernel
theorem dX7_refuse_8 : decode cX7_refuse 8 = .ok (.iconst 1, 1) := by decide +kernel
theorem dX7_refuse_9 : decode cX7_refuse 9 = .ok (.iadd, 1) := by decide +kernel
theorem dX7_refuse_10 : decode cX7_refuse 10 = .ok (.iastore, 1) := by decide +kernel
theorem dX7_refuse_11 : decode cX7_refuse 11 = .ok (.iload_n 1, 1) := by decide +kernel
theorem dX7_refuse_12 : decode cX7_refuse 12 = .ok (.ireturn, 1) := by decide +kernel
theorem dX7_worthOf_0 : decode cX7_worthOf 0 = .ok (.iload_n 0, 1) := by decide +kernel
theorem dX7_worthOf_1 : decode cX7_worthOf 1 = .ok (.ifCond .ne 9, 3) := by decide +kernel
theorem dX7_worthOf_4 : decode cX7_worthOf 4 = .ok (.sipush 500, 3) := by decide +kernel
theorem dX7_worthOf_7 : decode cX7_worthOf 7 = .ok (.goto 46, 3) := by decide +kernel
theorem dX7_worthOf_10 : decode cX7_worthOf 10 = .ok (.iload_n 0, 1) := by decide +kernel
theorem dX7_worthOf_11 : decode cX7_worthOf 11 = .ok (.iconst 1, 1) := by decide +kernel
theorem dX7_worthOf_12 : decode cX7_worthOf 12 = .ok (.if_icmp .ne 9, 3) := by decide +kernel
theorem dX7_worthOf_15 : decode cX7_worthOf 15 = .ok (.sipush 200, 3) := by decide +kernel
theorem dX7_worthOf_18 : decode cX7_worthOf 18 = .ok (.goto 35, 3) := by decide +kernel
theorem dX7_worthOf_21 : decode cX7_worthOf 21 = .ok (.iload_n 0, 1) := by decide +kernel
theorem dX7_worthOf_22 : decode cX7_worthOf 22 = .ok (.iconst 2, 1) := by decide +kernel
theorem dX7_worthOf_23 : decode cX7_worthOf 23 = .ok (.if_icmp .ne 8, 3) := by decide +kernel
theorem dX7_worthOf_26 : decode cX7_worthOf 26 = .ok (.bipush 100, 2) := by decide +kernel
theorem dX7_worthOf_28 : decode cX7_worthOf 28 = .ok (.goto 25, 3) := by decide +kernel
theorem dX7_worthOf_31 : decode cX7_worthOf 31 = .ok (.iload_n 0, 1) := by decide +kernel
theorem dX7_worthOf_32 : decode cX7_worthOf 32 = .ok (.iconst 3, 1) := by decide +kernel
theorem dX7_worthOf_33 : decode cX7_worthOf 33 = .ok (.if_icmp .ne 8, 3) := by decide +kernel
theorem dX7_worthOf_36 : decode cX7_worthOf 36 = .ok (.bipush 50, 2) := by decide +kernel
theorem dX7_worthOf_38 : decode cX7_worthOf 38 = .ok (.goto 15, 3) := by decide +kernel
theorem dX7_worthOf_41 : decode cX7_worthOf 41 = .ok (.iload_n 0, 1) := by decide +kernel
theorem dX7_worthOf_42 : decode cX7_worthOf 42 = .ok (.iconst 4, 1) := by decide +kernel
theorem dX7_worthOf_43 : decode cX7_worthOf 43 = .ok (.if_icmp .ne 8, 3) := by decide +kernel
theorem dX7_worthOf_46 : decode cX7_worthOf 46 = .ok (.bipush 20, 2) := by decide +kernel
theorem dX7_worthOf_48 : decode cX7_worthOf 48 = .ok (.goto 5, 3) := by decide +kernel
theorem dX7_worthOf_51 : decode cX7_worthOf 51 = .ok (.bipush 10, 2) := by decide +kernel
theorem dX7_worthOf_53 : decode cX7_worthOf 53 = .ok (.ireturn, 1) := by decide +kernel
theorem dX7_isMachine_0 : decode cX7_isMachine 0 = .ok (.iload_n 1, 1) := by decide +kernel
theorem dX7_isMachine_1 : decode cX7_isMachine 1 = .ok (.iconst 0, 1) := by decide +kernel
theorem dX7_isMachine_2 : decode cX7_isMachine 2 = .ok (.aload_n 0, 1) := by decide +kernel
theorem dX7_isMachine_3 : decode cX7_isMachine 3 = .ok (.getfield 104, 3) := by decide +kernel
theorem dX7_isMachine_6 : decode cX7_isMachine 6 = .ok (.iconst 1, 1) := by decide +kernel
theorem dX7_isMachine_7 : decode cX7_isMachine 7 = .ok (.isub, 1) := by decide +kernel
theorem dX7_isMachine_8 : decode cX7_isMachine 8 = .ok (.invokestatic 108, 3) := by decide +kernel
theorem dX7_isMachine_11 : decode cX7_isMachine 11 = .ok (.ireturn, 1) := by decide +kernel
theorem dX7_isLane_0 : decode cX7_isLane 0 = .ok (.aload_n 0, 1) := by decide +kernel
theorem dX7_isLane_1 : decode cX7_isLane 1 = .ok (.iload_n 1, 1) := by decide +kernel
theorem dX7_isLane_2 : decode cX7_isLane 2 = .ok (.invokevirtual 112, 3) := by decide +kernel
theorem dX7_isLane_5 : decode cX7_isLane 5 = .ok (.ifCond .eq 23, 3) := by decide +kernel
theorem dX7_isLane_8 : decode cX7_isLane 8 = .ok (.iload_n 2, 1) := by decide +kernel
theorem dX7_isLane_9 : decode cX7_isLane 9 = .ok (.iconst 0, 1) := by decide +kernel
theorem dX7_isLane_10 : decode cX7_isLane 10 = .ok (.aload_n 0, 1) := by decide +kernel
theorem dX7_isLane_11 : decode cX7_isLane 11 = .ok (.getfield 7, 3) := by decide +kernel
theorem dX7_isLane_14 : decode cX7_isLane 14 = .ok (.iload_n 1, 1) := by decide +kernel
theorem dX7_isLane_15 : decode cX7_isLane 15 = .ok (.iaload, 1) := by decide +kernel
theorem dX7_isLane_16 : decode cX7_isLane 16 = .ok (.iconst 1, 1) := by decide +kernel
theorem dX7_isLane_17 : decode cX7_isLane 17 = .ok (.isub, 1) := by decide +kernel
theorem dX7_isLane_18 : decode cX7_isLane 18 = .ok (.invokestatic 108, 3) := by decide +kernel
theorem dX7_isLane_21 : decode cX7_isLane 21 = .ok (.ifCond .eq 7, 3) := by decide +kernel
theorem dX7_isLane_24 : decode cX7_isLane 24 = .ok (.iconst 1, 1) := by decide +kernel
theorem dX7_isLane_25 : decode cX7_isLane 25 = .ok (.goto 4, 3) := by decide +kernel
theorem dX7_isLane_28 : decode cX7_isLane 28 = .ok (.iconst 0, 1) := by decide +kernel
theorem dX7_isLane_29 : decode cX7_isLane 29 = .ok (.ireturn, 1) := by decide +kernel
theorem dX7_machine_0 : decode cX7_machine 0 = .ok (.aload_n 0, 1) := by decide +kernel
theorem dX7_machine_1 : decode cX7_machine 1 = .ok (.getfield 104, 3) := by decide +kernel
theorem dX7_machine_4 : decode cX7_machine 4 = .ok (.bipush 6, 2) := by decide +kernel
theorem dX7_machine_6 : decode cX7_machine 6 = .ok (.if_icmp .ne 10, 3) := by decide +kernel
theorem dX7_machine_9 : decode cX7_machine 9 = .ok (.aload_n 0, 1) := by decide +kernel
theorem dX7_machine_10 : decode cX7_machine 10 = .ok (.bipush (-6), 2) := by decide +kernel
theorem dX7_machine_12 : decode cX7_machine 12 = .ok (.invokevirtual 116, 3) := by decide +kernel
theorem dX7_machine_15 : decode cX7_machine 15 = .ok (.ireturn, 1) := by decide +kernel
theorem dX7_machine_16 : decode cX7_machine 16 = .ok (.aload_n 0, 1) := by decide +kernel
theorem dX7_machine_17 : decode cX7_machine 17 = .ok (.dup, 1) := by decide +kernel
theorem dX7_machine_18 : decode cX7_machine 18 = .ok (.getfield 104, 3) := by decide +kernel
theorem dX7_machine_21 : decode cX7_machine 21 = .ok (.iconst 1, 1) := by decide +kernel
theorem dX7_machine_22 : decode cX7_machine 22 = .ok (.iadd, 1) := by decide +kernel
theorem dX7_machine_23 : decode cX7_machine 23 = .ok (.putfield 104, 3) := by decide +kernel
theorem dX7_machine_26 : decode cX7_machine 26 = .ok (.aload_n 0, 1) := by decide +kernel
theorem dX7_machine_27 : decode cX7_machine 27 = .ok (.getfield 104, 3) := by decide +kernel
theorem dX7_machine_30 : decode cX7_machine 30 = .ok (.iconst 1, 1) := by decide +kernel
theorem dX7_machine_31 : decode cX7_machine 31 = .ok (.isub, 1) := by decide +kernel
theorem dX7_machine_32 : decode cX7_machine 32 = .ok (.ireturn, 1) := by decide +kernel
theorem dX7_isBelow_0 : decode cX7_isBelow 0 = .ok (.iload_n 0, 1) := by decide +kernel
theorem dX7_isBelow_1 : decode cX7_isBelow 1 = .ok (.bipush 10, 2) := by decide +kernel
theorem dX7_isBelow_3 : decode cX7_isBelow 3 = .ok (.if_icmp .lt 10, 3) := by decide +kernel
theorem dX7_isBelow_6 : decode cX7_isBelow 6 = .ok (.iload_n 0, 1) := by decide +kernel
theorem dX7_isBelow_7 : decode cX7_isBelow 7 = .ok (.bipush 10, 2) := by decide +kernel
theorem dX7_isBelow_9 : decode cX7_isBelow 9 = .ok (.irem, 1) := by decide +kernel
theorem dX7_isBelow_10 : decode cX7_isBelow 10 = .ok (.ifCond .eq 7, 3) := by decide +kernel
theorem dX7_isBelow_13 : decode cX7_isBelow 13 = .ok (.iconst 1, 1) := by decide +kernel
theorem dX7_isBelow_14 : decode cX7_isBelow 14 = .ok (.goto 4, 3) := by decide +kernel
theorem dX7_isBelow_17 : decode cX7_isBelow 17 = .ok (.iconst 0, 1) := by decide +kernel
theorem dX7_isBelow_18 : decode cX7_isBelow 18 = .ok (.ireturn, 1) := by decide +kernel
theorem dX7_lane_0 : decode cX7_lane 0 = .ok (.aload_n 0, 1) := by decide +kernel
theorem dX7_lane_1 : decode cX7_lane 1 = .ok (.iload_n 1, 1) := by decide +kernel
theorem dX7_lane_2 : decode cX7_lane 2 = .ok (.invokevirtual 112, 3) := by decide +kernel
theorem dX7_lane_5 : decode cX7_lane 5 = .ok (.ifCond .eq 13, 3) := by decide +kernel
theorem dX7_lane_8 : decode cX7_lane 8 = .ok (.iload_n 2, 1) := by decide +kernel
theorem dX7_lane_9 : decode cX7_lane 9 = .ok (.iconst 0, 1) := by decide +kernel
theorem dX7_lane_10 : decode cX7_lane 10 = .ok (.bipush 15, 2) := by decide +kernel
theorem dX7_lane_12 : decode cX7_lane 12 = .ok (.invokestatic 108, 3) := by decide +kernel
theorem dX7_lane_15 : decode cX7_lane 15 = .ok (.ifCond .ne 9, 3) := by decide +kernel
theorem dX7_lane_18 : decode cX7_lane 18 = .ok (.aload_n 0, 1) := by decide +kernel
theorem dX7_lane_19 : decode cX7_lane 19 = .ok (.iconst (-1), 1) := by decide +kernel
theorem dX7_lane_20 : decode cX7_lane 20 = .ok (.invokevirtual 116, 3) := by decide +kernel
theorem dX7_lane_23 : decode cX7_lane 23 = .ok (.ireturn, 1) := by decide +kernel
theorem dX7_lane_24 : decode cX7_lane 24 = .ok (.iload 5, 2) := by decide +kernel
theorem dX7_lane_26 : decode cX7_lane 26 = .ok (.iconst 0, 1) := by decide +kernel
theorem dX7_lane_27 : decode cX7_lane 27 = .ok (.iconst 3, 1) := by decide +kernel
theorem dX7_lane_28 : decode cX7_lane 28 = .ok (.invokestatic 108, 3) := by decide +kernel
theorem dX7_lane_31 : decode cX7_lane 31 = .ok (.ifCond .ne 10, 3) := by decide +kernel
theorem dX7_lane_34 : decode cX7_lane 34 = .ok (.aload_n 0, 1) := by decide +kernel
theorem dX7_lane_35 : decode cX7_lane 35 = .ok (.bipush (-2), 2) := by decide +kernel
theorem dX7_lane_37 : decode cX7_lane 37 = .ok (.invokevirtual 116, 3) := by decide +kernel
theorem dX7_lane_40 : decode cX7_lane 40 = .ok (.ireturn, 1) := by decide +kernel
theorem dX7_lane_41 : decode cX7_lane 41 = .ok (.iload_n 3, 1) := by decide +kernel
theorem dX7_lane_42 : decode cX7_lane 42 = .ok (.invokestatic 120, 3) := by decide +kernel
theorem dX7_lane_45 : decode cX7_lane 45 = .ok (.ifCond .ne 20, 3) := by decide +kernel
theorem dX7_lane_48 : decode cX7_lane 48 = .ok (.iload 4, 2) := by decide +kernel
theorem dX7_lane_50 : decode cX7_lane 50 = .ok (.iconst 1, 1) := by decide +kernel
theorem dX7_lane_51 : decode cX7_lane 51 = .ok (.if_icmp .lt 14, 3) := by decide +kernel
theorem dX7_lane_54 : decode cX7_lane 54 = .ok (.iload 5, 2) := by decide +kernel
theorem dX7_lane_56 : decode cX7_lane 56 = .ok (.iconst 2, 1) := by decide +kernel
theorem dX7_lane_57 : decode cX7_lane 57 = .ok (.if_icmp .ne 15, 3) := by decide +kernel
theorem dX7_lane_60 : decode cX7_lane 60 = .ok (.iload 6, 2) := by decide +kernel
theorem dX7_lane_62 : decode cX7_lane 62 = .ok (.ifCond .ge 10, 3) := by decide +kernel
theorem dX7_lane_65 : decode cX7_lane 65 = .ok (.aload_n 0, 1) := by decide +kernel
theorem dX7_lane_66 : decode cX7_lane 66 = .ok (.bipush (-4), 2) := by decide +kernel
theorem dX7_lane_68 : decode cX7_lane 68 = .ok (.invokevirtual 116, 3) := by decide +kernel
theorem dX7_lane_71 : decode cX7_lane 71 = .ok (.ireturn, 1) := by decide +kernel
theorem dX7_lane_72 : decode cX7_lane 72 = .ok (.iload_n 3, 1) := by decide +kernel
theorem dX7_lane_73 : decode cX7_lane 73 = .ok (.sipush 5000, 3) := by decide +kernel
theorem dX7_lane_76 : decode cX7_lane 76 = .ok (.if_icmp .gt 34, 3) := by decide +kernel
theorem dX7_lane_79 : decode cX7_lane 79 = .ok (.iload 4, 2) := by decide +kernel
theorem dX7_lane_81 : decode cX7_lane 81 = .ok (.bipush 20, 2) := by decide +kernel
theorem dX7_lane_83 : decode cX7_lane 83 = .ok (.if_icmp .gt 27, 3) := by decide +kernel
theorem dX7_lane_86 : decode cX7_lane 86 = .ok (.iload 5, 2) := by decide +kernel
theorem dX7_lane_88 : decode cX7_lane 88 = .ok (.iconst 2, 1) := by decide +kernel
theorem dX7_lane_89 : decode cX7_lane 89 = .ok (.if_icmp .ne 10, 3) := by decide +kernel
theorem dX7_lane_92 : decode cX7_lane 92 = .ok (.iload 6, 2) := by decide +kernel
theorem dX7_lane_94 : decode cX7_lane 94 = .ok (.bipush 48, 2) := by decide +kernel
theorem dX7_lane_96 : decode cX7_lane 96 = .ok (.if_icmp .gt 14, 3) := by decide +kernel
theorem dX7_lane_99 : decode cX7_lane 99 = .ok (.aload_n 0, 1) := by decide +kernel
theorem dX7_lane_100 : decode cX7_lane 100 = .ok (.getfield 7, 3) := by decide +kernel
theorem dX7_lane_103 : decode cX7_lane 103 = .ok (.iload_n 1, 1) := by decide +kernel
theorem dX7_lane_104 : decode cX7_lane 104 = .ok (.iaload, 1) := by decide +kernel
theorem dX7_lane_105 : decode cX7_lane 105 = .ok (.bipush 8, 2) := by decide +kernel
theorem dX7_lane_107 : decode cX7_lane 107 = .ok (.if_icmp .ne 10, 3) := by decide +kernel
theorem dX7_lane_110 : decode cX7_lane 110 = .ok (.aload_n 0, 1) := by decide +kernel
theorem dX7_lane_111 : decode cX7_lane 111 = .ok (.bipush (-6), 2) := by decide +kernel
theorem dX7_lane_113 : decode cX7_lane 113 = .ok (.invokevirtual 116, 3) := by decide +kernel
theorem dX7_lane_116 : decode cX7_lane 116 = .ok (.ireturn, 1) := by decide +kernel
theorem dX7_lane_117 : decode cX7_lane 117 = .ok (.bipush 8, 2) := by decide +kernel
theorem dX7_lane_119 : decode cX7_lane 119 = .ok (.iload_n 1, 1) := by decide +kernel
theorem dX7_lane_120 : decode cX7_lane 120 = .ok (.imul, 1) := by decide +kernel
theorem dX7_lane_121 : decode cX7_lane 121 = .ok (.aload_n 0, 1) := by decide +kernel
theorem dX7_lane_122 : decode cX7_lane 122 = .ok (.getfield 7, 3) := by decide +kernel
theorem dX7_lane_125 : decode cX7_lane 125 = .ok (.iload_n 1, 1) := by decide +kernel
theorem dX7_lane_126 : decode cX7_lane 126 = .ok (.iaload, 1) := by decide +kernel
theorem dX7_lane_127 : decode cX7_lane 127 = .ok (.iadd, 1) := by decide +kernel
theorem dX7_lane_128 : decode cX7_lane 128 = .ok (.istore 7, 2) := by decide +kernel
theorem dX7_lane_130 : decode cX7_lane 130 = .ok (.aload_n 0, 1) := by decide +kernel
theorem dX7_lane_131 : decode cX7_lane 131 = .ok (.getfield 7, 3) := by decide +kernel
theorem dX7_lane_134 : decode cX7_lane 134 = .ok (.iload_n 1, 1) := by decide +kernel
theorem dX7_lane_135 : decode cX7_lane 135 = .ok (.dup2, 1) := by decide +kernel
theorem dX7_lane_136 : decode cX7_lane 136 = .ok (.iaload, 1) := by decide +kernel
theorem dX7_lane_137 : decode cX7_lane 137 = .ok (.iconst 1, 1) := by decide +kernel
theorem dX7_lane_138 : decode cX7_lane 138 = .ok (.iadd, 1) := by decide +kernel
theorem dX7_lane_139 : decode cX7_lane 139 = .ok (.iastore, 1) := by decide +kernel
theorem dX7_lane_140 : decode cX7_lane 140 = .ok (.aload_n 0, 1) := by decide +kernel
theorem dX7_lane_141 : decode cX7_lane 141 = .ok (.getfield 35, 3) := by decide +kernel
theorem dX7_lane_144 : decode cX7_lane 144 = .ok (.iload 7, 2) := by decide +kernel
theorem dX7_lane_146 : decode cX7_lane 146 = .ok (.iload_n 2, 1) := by decide +kernel
theorem dX7_lane_147 : decode cX7_lane 147 = .ok (.iastore, 1) := by decide +kernel
theorem dX7_lane_148 : decode cX7_lane 148 = .ok (.aload_n 0, 1) := by decide +kernel
theorem dX7_lane_149 : decode cX7_lane 149 = .ok (.getfield 38, 3) := by decide +kernel
theorem dX7_lane_152 : decode cX7_lane 152 = .ok (.iload 7, 2) := by decide +kernel
theorem dX7_lane_154 : decode cX7_lane 154 = .ok (.iload_n 3, 1) := by decide +kernel
theorem dX7_lane_155 : decode cX7_lane 155 = .ok (.iastore, 1) := by decide +kernel
theorem dX7_lane_156 : decode cX7_lane 156 = .ok (.aload_n 0, 1) := by decide +kernel
theorem dX7_lane_157 : decode cX7_lane 157 = .ok (.getfield 41, 3) := by decide +kernel
theorem dX7_lane_160 : decode cX7_lane 160 = .ok (.iload 7, 2) := by decide +kernel
theorem dX7_lane_162 : decode cX7_lane 162 = .ok (.iload 4, 2) := by decide +kernel
theorem dX7_lane_164 : decode cX7_lane 164 = .ok (.iastore, 1) := by decide +kernel
theorem dX7_lane_165 : decode cX7_lane 165 = .ok (.aload_n 0, 1) := by decide +kernel
theorem dX7_lane_166 : decode cX7_lane 166 = .ok (.getfield 47, 3) := by decide +kernel
theorem dX7_lane_169 : decode cX7_lane 169 = .ok (.iload 7, 2) := by decide +kernel
theorem dX7_lane_171 : decode cX7_lane 171 = .ok (.iload 5, 2) := by decide +kernel
theorem dX7_lane_173 : decode cX7_lane 173 = .ok (.iastore, 1) := by decide +kernel
theorem dX7_lane_174 : decode cX7_lane 174 = .ok (.aload_n 0, 1) := by decide +kernel
theorem dX7_lane_175 : decode cX7_lane 175 = .ok (.getfield 50, 3) := by decide +kernel
theorem dX7_lane_178 : decode cX7_lane 178 = .ok (.iload 7, 2) := by decide +kernel
theorem dX7_lane_180 : decode cX7_lane 180 = .ok (.iload 6, 2) := by decide +kernel
theorem dX7_lane_182 : decode cX7_lane 182 = .ok (.iastore, 1) := by decide +kernel
theorem dX7_lane_183 : decode cX7_lane 183 = .ok (.aload_n 0, 1) := by decide +kernel
theorem dX7_lane_184 : decode cX7_lane 184 = .ok (.getfield 7, 3) := by decide +kernel
theorem dX7_lane_187 : decode cX7_lane 187 = .ok (.iload_n 1, 1) := by decide +kernel
theorem dX7_lane_188 : decode cX7_lane 188 = .ok (.iaload, 1) := by decide +kernel
theorem dX7_lane_189 : decode cX7_lane 189 = .ok (.iconst 1, 1) := by decide +kernel
theorem dX7_lane_190 : decode cX7_lane 190 = .ok (.isub, 1) := by decide +kernel
theorem dX7_lane_191 : decode cX7_lane 191 = .ok (.ireturn, 1) := by decide +kernel
theorem dX7_size_0 : decode cX7_size 0 = .ok (.iload_n 1, 1) := by decide +kernel
theorem dX7_size_1 : decode cX7_size 1 = .ok (.iconst 0, 1) := by decide +kernel
theorem dX7_size_2 : decode cX7_size 2 = .ok (.bipush 15, 2) := by decide +kernel
theorem dX7_size_4 : decode cX7_size 4 = .ok (.invokestatic 108, 3) := by decide +kernel
theorem dX7_size_7 : decode cX7_size 7 = .ok (.ifCond .ne 9, 3) := by decide +kernel
theorem dX7_size_10 : decode cX7_size 10 = .ok (.aload_n 0, 1) := by decide +kernel
theorem dX7_size_11 : decode cX7_size 11 = .ok (.iconst (-1), 1) := by decide +kernel
theorem dX7_size_12 : decode cX7_size 12 = .ok (.invokevirtual 116, 3) := by decide +kernel
theorem dX7_size_15 : decode cX7_size 15 = .ok (.ireturn, 1) := by decide +kernel
theorem dX7_size_16 : decode cX7_size 16 = .ok (.iload_n 2, 1) := by decide +kernel
theorem dX7_size_17 : decode cX7_size 17 = .ok (.iconst 1, 1) := by decide +kernel
theorem dX7_size_18 : decode cX7_size 18 = .ok (.if_icmp .ge 10, 3) := by decide +kernel
theorem dX7_size_21 : decode cX7_size 21 = .ok (.aload_n 0, 1) := by decide +kernel
theorem dX7_size_22 : decode cX7_size 22 = .ok (.bipush (-4), 2) := by decide +kernel
theorem dX7_size_24 : decode cX7_size 24 = .ok (.invokevirtual 116, 3) := by decide +kernel
theorem dX7_size_27 : decode cX7_size 27 = .ok (.ireturn, 1) := by decide +kernel
theorem dX7_size_28 : decode cX7_size 28 = .ok (.iload_n 2, 1) := by decide +kernel
theorem dX7_size_29 : decode cX7_size 29 = .ok (.bipush 9, 2) := by decide +kernel
theorem dX7_size_31 : decode cX7_size 31 = .ok (.if_icmp .le 10, 3) := by decide +kernel
theorem dX7_size_34 : decode cX7_size 34 = .ok (.aload_n 0, 1) := by decide +kernel
theorem dX7_size_35 : decode cX7_size 35 = .ok (.bipush (-6), 2) := by decide +kernel
theorem dX7_size_37 : decode cX7_size 37 = .ok (.invokevirtual 116, 3) := by decide +kernel
theorem dX7_size_40 : decode cX7_size 40 = .ok (.ireturn, 1) := by decide +kernel
theorem dX7_size_41 : decode cX7_size 41 = .ok (.aload_n 0, 1) := by decide +kernel
theorem dX7_size_42 : decode cX7_size 42 = .ok (.getfield 65, 3) := by decide +kernel
theorem dX7_size_45 : decode cX7_size 45 = .ok (.iload_n 1, 1) := by decide +kernel
theorem dX7_size_46 : decode cX7_size 46 = .ok (.iaload, 1) := by decide +kernel
theorem dX7_size_47 : decode cX7_size 47 = .ok (.istore_n 3, 1) := by decide +kernel
theorem dX7_size_48 : decode cX7_size 48 = .ok (.aload_n 0, 1) := by decide +kernel
theorem dX7_size_49 : decode cX7_size 49 = .ok (.getfield 65, 3) := by decide +kernel
theorem dX7_size_52 : decode cX7_size 52 = .ok (.iload_n 1, 1) := by decide +kernel
theorem dX7_size_53 : decode cX7_size 53 = .ok (.iload_n 2, 1) := by decide +kernel
theorem dX7_size_54 : decode cX7_size 54 = .ok (.iastore, 1) := by decide +kernel
theorem dX7_size_55 : decode cX7_size 55 = .ok (.iload_n 3, 1) := by decide +kernel
theorem dX7_size_56 : decode cX7_size 56 = .ok (.ireturn, 1) := by decide +kernel
theorem dX7_price_0 : decode cX7_price 0 = .ok (.aload_n 0, 1) := by decide +kernel
theorem dX7_price_1 : decode cX7_price 1 = .ok (.iload_n 1, 1) := by decide +kernel
theorem dX7_price_2 : decode cX7_price 2 = .ok (.iload_n 2, 1) := by decide +kernel
theorem dX7_price_3 : decode cX7_price 3 = .ok (.invokevirtual 123, 3) := by decide +kernel
theorem dX7_price_6 : decode cX7_price 6 = .ok (.ifCond .ne 9, 3) := by decide +kernel
theorem dX7_price_9 : decode cX7_price 9 = .ok (.aload_n 0, 1) := by decide +kernel
theorem dX7_price_10 : decode cX7_price 10 = .ok (.iconst (-1), 1) := by decide +kernel
theorem dX7_price_11 : decode cX7_price 11 = .ok (.invokevirtual 116, 3) := by decide +kernel
theorem dX7_price_14 : decode cX7_price 14 = .ok (.ireturn, 1) := by decide +kernel
theorem dX7_price_15 : decode cX7_price 15 = .ok (.iload_n 3, 1) := by decide +kernel
theorem dX7_price_16 : decode cX7_price 16 = .ok (.invokestatic 120, 3) := by decide +kernel
theorem dX7_price_19 : decode cX7_price 19 = .ok (.ifCond .eq 10, 3) := by decide +kernel
theorem dX7_price_22 : decode cX7_price 22 = .ok (.aload_n 0, 1) := by decide +kernel
theorem dX7_price_23 : decode cX7_price 23 = .ok (.bipush (-4), 2) := by decide +kernel
theorem dX7_price_25 : decode cX7_price 25 = .ok (.invokevirtual 116, 3) := by decide +kernel
theorem dX7_price_28 : decode cX7_price 28 = .ok (.ireturn, 1) := by decide +kernel
theorem dX7_price_29 : decode cX7_price 29 = .ok (.iload_n 3, 1) := by decide +kernel
theorem dX7_price_30 : decode cX7_price 30 = .ok (.sipush 5000, 3) := by decide +kernel
theorem dX7_price_33 : decode cX7_price 33 = .ok (.if_icmp .le 10, 3) := by decide +kernel
theorem dX7_price_36 : decode cX7_price 36 = .ok (.aload_n 0, 1) := by decide +kernel
theorem dX7_price_37 : decode cX7_price 37 = .ok (.bipush (-6), 2) := by decide +kernel
theorem dX7_price_39 : decode cX7_price 39 = .ok (.invokevirtual 116, 3) := by decide +kernel
theorem dX7_price_42 : decode cX7_price 42 = .ok (.ireturn, 1) := by decide +kernel
theorem dX7_price_43 : decode cX7_price 43 = .ok (.aload_n 0, 1) := by decide +kernel
theorem dX7_price_44 : decode cX7_price 44 = .ok (.getfield 38, 3) := by decide +kernel
theorem dX7_price_47 : decode cX7_price 47 = .ok (.bipush 8, 2) := by decide +kernel
theorem dX7_price_49 : decode cX7_price 49 = .ok (.iload_n 1, 1) := by decide +kernel
theorem dX7_price_50 : decode cX7_price 50 = .ok (.imul, 1) := by decide +kernel
theorem dX7_price_51 : decode cX7_price 51 = .ok (.iload_n 2, 1) := by decide +kernel
theorem dX7_price_52 : decode cX7_price 52 = .ok (.iadd, 1) := by decide +kernel
theorem dX7_price_53 : decode cX7_price 53 = .ok (.iaload, 1) := by decide +kernel
theorem dX7_price_54 : decode cX7_price 54 = .ok (.istore 4, 2) := by decide +kernel
theorem dX7_price_56 : decode cX7_price 56 = .ok (.aload_n 0, 1) := by decide +kernel
theorem dX7_price_57 : decode cX7_price 57 = .ok (.getfield 38, 3) := by decide +kernel
theorem dX7_price_60 : decode cX7_price 60 = .ok (.bipush 8, 2) := by decide +kernel
theorem dX7_price_62 : decode cX7_price 62 = .ok (.iload_n 1, 1) := by decide +kernel
theorem dX7_price_63 : decode cX7_price 63 = .ok (.imul, 1) := by decide +kernel
theorem dX7_price_64 : decode cX7_price 64 = .ok (.iload_n 2, 1) := by decide +kernel
theorem dX7_price_65 : decode cX7_price 65 = .ok (.iadd, 1) := by decide +kernel
theorem dX7_price_66 : decode cX7_price 66 = .ok (.iload_n 3, 1) := by decide +kernel
theorem dX7_price_67 : decode cX7_price 67 = .ok (.iastore, 1) := by decide +kernel
theorem dX7_price_68 : decode cX7_price 68 = .ok (.iload 4, 2) := by decide +kernel
theorem dX7_price_70 : decode cX7_price 70 = .ok (.ireturn, 1) := by decide +kernel
theorem dX7_tube_0 : decode cX7_tube 0 = .ok (.aload_n 0, 1) := by decide +kernel
theorem dX7_tube_1 : decode cX7_tube 1 = .ok (.iload_n 1, 1) := by decide +kernel
theorem dX7_tube_2 : decode cX7_tube 2 = .ok (.invokevirtual 112, 3) := by decide +kernel
theorem dX7_tube_5 : decode cX7_tube 5 = .ok (.ifCond .eq 12, 3) := by decide +kernel
theorem dX7_tube_8 : decode cX7_tube 8 = .ok (.iload_n 2, 1) := by decide +kernel
theorem dX7_tube_9 : decode cX7_tube 9 = .ok (.iconst 0, 1) := by decide +kernel
theorem dX7_tube_10 : decode cX7_tube 10 = .ok (.iconst 5, 1) := by decide +kernel
theorem dX7_tube_11 : decode cX7_tube 11 = .ok (.invokestatic 108, 3) := by decide +kernel
theorem dX7_tube_14 : decode cX7_tube 14 = .ok (.ifCond .ne 9, 3) := by decide +kernel
theorem dX7_tube_17 : decode cX7_tube 17 = .ok (.aload_n 0, 1) := by decide +kernel
theorem dX7_tube_18 : decode cX7_tube 18 = .ok (.iconst (-1), 1) := by decide +kernel
theorem dX7_tube_19 : decode cX7_tube 19 = .ok (.invokevirtual 116, 3) := by decide +kernel
theorem dX7_tube_22 : decode cX7_tube 22 = .ok (.ireturn, 1) := by decide +kernel
theorem dX7_tube_23 : decode cX7_tube 23 = .ok (.iload_n 3, 1) := by decide +kernel
theorem dX7_tube_24 : decode cX7_tube 24 = .ok (.ifCond .ge 10, 3) := by decide +kernel
theorem dX7_tube_27 : decode cX7_tube 27 = .ok (.aload_n 0, 1) := by decide +kernel
theorem dX7_tube_28 : decode cX7_tube 28 = .ok (.bipush (-4), 2) := by decide +kernel
theorem dX7_tube_30 : decode cX7_tube 30 = .ok (.invokevirtual 116, 3) := by decide +kernel
theorem dX7_tube_33 : decode cX7_tube 33 = .ok (.ireturn, 1) := by decide +kernel
theorem dX7_tube_34 : decode cX7_tube 34 = .ok (.iload_n 3, 1) := by decide +kernel
theorem dX7_tube_35 : decode cX7_tube 35 = .ok (.bipush 50, 2) := by decide +kernel
theorem dX7_tube_37 : decode cX7_tube 37 = .ok (.aload_n 0, 1) := by decide +kernel
theorem dX7_tube_38 : decode cX7_tube 38 = .ok (.getfield 13, 3) := by decide +kernel
theorem dX7_tube_41 : decode cX7_tube 41 = .ok (.bipush 6, 2) := by decide +kernel
theorem dX7_tube_43 : decode cX7_tube 43 = .ok (.iload_n 1, 1) := by decide +kernel
theorem dX7_tube_44 : decode cX7_tube 44 = .ok (.imul, 1) := by decide +kernel
theorem dX7_tube_45 : decode cX7_tube 45 = .ok (.iload_n 2, 1) := by decide +kernel
theorem dX7_tube_46 : decode cX7_tube 46 = .ok (.iadd, 1) := by decide +kernel
theorem dX7_tube_47 : decode cX7_tube 47 = .ok (.iaload, 1) := by decide +kernel
theorem dX7_tube_48 : decode cX7_tube 48 = .ok (.isub, 1) := by decide +kernel
theorem dX7_tube_49 : decode cX7_tube 49 = .ok (.if_icmp .le 10, 3) := by decide +kernel
theorem dX7_tube_52 : decode cX7_tube 52 = .ok (.aload_n 0, 1) := by decide +kernel
theorem dX7_tube_53 : decode cX7_tube 53 = .ok (.bipush (-6), 2) := by decide +kernel
theorem dX7_tube_55 : decode cX7_tube 55 = .ok (.invokevirtual 116, 3) := by decide +kernel
theorem dX7_tube_58 : decode cX7_tube 58 = .ok (.ireturn, 1) := by decide +kernel
theorem dX7_tube_59 : decode cX7_tube 59 = .ok (.aload_n 0, 1) := by decide +kernel
theorem dX7_tube_60 : decode cX7_tube 60 = .ok (.getfield 13, 3) := by decide +kernel
theorem dX7_tube_63 : decode cX7_tube 63 = .ok (.bipush 6, 2) := by decide +kernel
theorem dX7_tube_65 : decode cX7_tube 65 = .ok (.iload_n 1, 1) := by decide +kernel
theorem dX7_tube_66 : decode cX7_tube 66 = .ok (.imul, 1) := by decide +kernel
theorem dX7_tube_67 : decode cX7_tube 67 = .ok (.iload_n 2, 1) := by decide +kernel
theorem dX7_tube_68 : decode cX7_tube 68 = .ok (.iadd, 1) := by decide +kernel
theorem dX7_tube_69 : decode cX7_tube 69 = .ok (.dup2, 1) := by decide +kernel
theorem dX7_tube_70 : decode cX7_tube 70 = .ok (.iaload, 1) := by decide +kernel
theorem dX7_tube_71 : decode cX7_tube 71 = .ok (.iload_n 3, 1) := by decide +kernel
theorem dX7_tube_72 : decode cX7_tube 72 = .ok (.iadd, 1) := by decide +kernel
theorem dX7_tube_73 : decode cX7_tube 73 = .ok (.iastore, 1) := by decide +kernel
theorem dX7_tube_74 : decode cX7_tube 74 = .ok (.aload_n 0, 1) := by decide +kernel
theorem dX7_tube_75 : decode cX7_tube 75 = .ok (.getfield 22, 3) := by decide +kernel
theorem dX7_tube_78 : decode cX7_tube 78 = .ok (.bipush 6, 2) := by decide +kernel
theorem dX7_tube_80 : decode cX7_tube 80 = .ok (.iload_n 1, 1) := by decide +kernel
theorem dX7_tube_81 : decode cX7_tube 81 = .ok (.imul, 1) := by decide +kernel
theorem dX7_tube_82 : decode cX7_tube 82 = .ok (.iload_n 2, 1) := by decide +kernel
theorem dX7_tube_83 : decode cX7_tube 83 = .ok (.iadd, 1) := by decide +kernel
theorem dX7_tube_84 : decode cX7_tube 84 = .ok (.dup2, 1) := by decide +kernel
theorem dX7_tube_85 : decode cX7_tube 85 = .ok (.iaload, 1) := by decide +kernel
theorem dX7_tube_86 : decode cX7_tube 86 = .ok (.iload_n 3, 1) := by decide +kernel
theorem dX7_tube_87 : decode cX7_tube 87 = .ok (.iadd, 1) := by decide +kernel
theorem dX7_tube_88 : decode cX7_tube 88 = .ok (.iastore, 1) := by decide +kernel
theorem dX7_tube_89 : decode cX7_tube 89 = .ok (.aload_n 0, 1) := by decide +kernel
theorem dX7_tube_90 : decode cX7_tube 90 = .ok (.getfield 13, 3) := by decide +kernel
theorem dX7_tube_93 : decode cX7_tube 93 = .ok (.bipush 6, 2) := by decide +kernel
theorem dX7_tube_95 : decode cX7_tube 95 = .ok (.iload_n 1, 1) := by decide +kernel
theorem dX7_tube_96 : decode cX7_tube 96 = .ok (.imul, 1) := by decide +kernel
theorem dX7_tube_97 : decode cX7_tube 97 = .ok (.iload_n 2, 1) := by decide +kernel
theorem dX7_tube_98 : decode cX7_tube 98 = .ok (.iadd, 1) := by decide +kernel
theorem dX7_tube_99 : decode cX7_tube 99 = .ok (.iaload, 1) := by decide +kernel
theorem dX7_tube_100 : decode cX7_tube 100 = .ok (.ireturn, 1) := by decide +kernel
theorem dX7_stick_0 : decode cX7_stick 0 = .ok (.aload_n 0, 1) := by decide +kernel
theorem dX7_stick_1 : decode cX7_stick 1 = .ok (.iload_n 1, 1) := by decide +kernel
theorem dX7_stick_2 : decode cX7_stick 2 = .ok (.iload_n 2, 1) := by decide +kernel
theorem dX7_stick_3 : decode cX7_stick 3 = .ok (.invokevirtual 123, 3) := by decide +kernel
theorem dX7_stick_6 : decode cX7_stick 6 = .ok (.ifCond .ne 9, 3) := by decide +kernel
theorem dX7_stick_9 : decode cX7_stick 9 = .ok (.aload_n 0, 1) := by decide +kernel
theorem dX7_stick_10 : decode cX7_stick 10 = .ok (.iconst (-1), 1) := by decide +kernel
theorem dX7_stick_11 : decode cX7_stick 11 = .ok (.invokevirtual 116, 3) := by decide +kernel
theorem dX7_stick_14 : decode cX7_stick 14 = .ok (.ireturn, 1) := by decide +kernel
theorem dX7_stick_15 : decode cX7_stick 15 = .ok (.aload_n 0, 1) := by decide +kernel
theorem dX7_stick_16 : decode cX7_stick 16 = .ok (.getfield 47, 3) := by decide +kernel
theorem dX7_stick_19 : decode cX7_stick 19 = .ok (.bipush 8, 2) := by decide +kernel
theorem dX7_stick_21 : decode cX7_stick 21 = .ok (.iload_n 1, 1) := by decide +kernel
theorem dX7_stick_22 : decode cX7_stick 22 = .ok (.imul, 1) := by decide +kernel
theorem dX7_stick_23 : decode cX7_stick 23 = .ok (.iload_n 2, 1) := by decide +kernel
theorem dX7_stick_24 : decode cX7_stick 24 = .ok (.iadd, 1) := by decide +kernel
theorem dX7_stick_25 : decode cX7_stick 25 = .ok (.iaload, 1) := by decide +kernel
theorem dX7_stick_26 : decode cX7_stick 26 = .ok (.iconst 1, 1) := by decide +kernel
theorem dX7_stick_27 : decode cX7_stick 27 = .ok (.if_icmp .eq 10, 3) := by decide +kernel
theorem dX7_stick_30 : decode cX7_stick 30 = .ok (.aload_n 0, 1) := by decide +kernel
theorem dX7_stick_31 : decode cX7_stick 31 = .ok (.bipush (-2), 2) := by decide +kernel
theorem dX7_stick_33 : decode cX7_stick 33 = .ok (.invokevirtual 116, 3) := by decide +kernel
theorem dX7_stick_36 : decode cX7_stick 36 = .ok (.ireturn, 1) := by decide +kernel
theorem dX7_stick_37 : decode cX7_stick 37 = .ok (.iload_n 3, 1) := by decide +kernel
theorem dX7_stick_38 : decode cX7_stick 38 = .ok (.ifCond .ge 10, 3) := by decide +kernel
theorem dX7_stick_41 : decode cX7_stick 41 = .ok (.aload_n 0, 1) := by decide +kernel
theorem dX7_stick_42 : decode cX7_stick 42 = .ok (.bipush (-4), 2) := by decide +kernel
theorem dX7_stick_44 : decode cX7_stick 44 = .ok (.invokevirtual 116, 3) := by decide +kernel
theorem dX7_stick_47 : decode cX7_stick 47 = .ok (.ireturn, 1) := by decide +kernel
theorem dX7_stick_48 : decode cX7_stick 48 = .ok (.iload_n 3, 1) := by decide +kernel
theorem dX7_stick_49 : decode cX7_stick 49 = .ok (.bipush 9, 2) := by decide +kernel
theorem dX7_stick_51 : decode cX7_stick 51 = .ok (.aload_n 0, 1) := by decide +kernel
theorem dX7_stick_52 : decode cX7_stick 52 = .ok (.getfield 53, 3) := by decide +kernel
theorem dX7_stick_55 : decode cX7_stick 55 = .ok (.bipush 8, 2) := by decide +kernel
theorem dX7_stick_57 : decode cX7_stick 57 = .ok (.iload_n 1, 1) := by decide +kernel
theorem dX7_stick_58 : decode cX7_stick 58 = .ok (.imul, 1) := by decide +kernel
theorem dX7_stick_59 : decode cX7_stick 59 = .ok (.iload_n 2, 1) := by decide +kernel
theorem dX7_stick_60 : decode cX7_stick 60 = .ok (.iadd, 1) := by decide +kernel
theorem dX7_stick_61 : decode cX7_stick 61 = .ok (.iaload, 1) := by decide +kernel
theorem dX7_stick_62 : decode cX7_stick 62 = .ok (.isub, 1) := by decide +kernel
theorem dX7_stick_63 : decode cX7_stick 63 = .ok (.if_icmp .le 10, 3) := by decide +kernel
theorem dX7_stick_66 : decode cX7_stick 66 = .ok (.aload_n 0, 1) := by decide +kernel
theorem dX7_stick_67 : decode cX7_stick 67 = .ok (.bipush (-6), 2) := by decide +kernel
theorem dX7_stick_69 : decode cX7_stick 69 = .ok (.invokevirtual 116, 3) := by decide +kernel
theorem dX7_stick_72 : decode cX7_stick 72 = .ok (.ireturn, 1) := by decide +kernel
theorem dX7_stick_73 : decode cX7_stick 73 = .ok (.aload_n 0, 1) := by decide +kernel
theorem dX7_stick_74 : decode cX7_stick 74 = .ok (.getfield 53, 3) := by decide +kernel
theorem dX7_stick_77 : decode cX7_stick 77 = .ok (.bipush 8, 2) := by decide +kernel
theorem dX7_stick_79 : decode cX7_stick 79 = .ok (.iload_n 1, 1) := by decide +kernel
theorem dX7_stick_80 : decode cX7_stick 80 = .ok (.imul, 1) := by decide +kernel
theorem dX7_stick_81 : decode cX7_stick 81 = .ok (.iload_n 2, 1) := by decide +kernel
theorem dX7_stick_82 : decode cX7_stick 82 = .ok (.iadd, 1) := by decide +kernel
theorem dX7_stick_83 : decode cX7_stick 83 = .ok (.dup2, 1) := by decide +kernel
theorem dX7_stick_84 : decode cX7_stick 84 = .ok (.iaload, 1) := by decide +kernel
theorem dX7_stick_85 : decode cX7_stick 85 = .ok (.iload_n 3, 1) := by decide +kernel
theorem dX7_stick_86 : decode cX7_stick 86 = .ok (.iadd, 1) := by decide +kernel
theorem dX7_stick_87 : decode cX7_stick 87 = .ok (.iastore, 1) := by decide +kernel
theorem dX7_stick_88 : decode cX7_stick 88 = .ok (.aload_n 0, 1) := by decide +kernel
theorem dX7_stick_89 : decode cX7_stick 89 = .ok (.getfield 53, 3) := by decide +kernel
theorem dX7_stick_92 : decode cX7_stick 92 = .ok (.bipush 8, 2) := by decide +kernel
theorem dX7_stick_94 : decode cX7_stick 94 = .ok (.iload_n 1, 1) := by decide +kernel
theorem dX7_stick_95 : decode cX7_stick 95 = .ok (.imul, 1) := by decide +kernel
theorem dX7_stick_96 : decode cX7_stick 96 = .ok (.iload_n 2, 1) := by decide +kernel
theorem dX7_stick_97 : decode cX7_stick 97 = .ok (.iadd, 1) := by decide +kernel
theorem dX7_stick_98 : decode cX7_stick 98 = .ok (.iaload, 1) := by decide +kernel
theorem dX7_stick_99 : decode cX7_stick 99 = .ok (.ireturn, 1) := by decide +kernel
theorem dX7_shut_0 : decode cX7_shut 0 = .ok (.aload_n 0, 1) := by decide +kernel
theorem dX7_shut_1 : decode cX7_shut 1 = .ok (.iload_n 1, 1) := by decide +kernel
theorem dX7_shut_2 : decode cX7_shut 2 = .ok (.iload_n 2, 1) := by decide +kernel
theorem dX7_shut_3 : decode cX7_shut 3 = .ok (.invokevirtual 123, 3) := by decide +kernel
theorem dX7_shut_6 : decode cX7_shut 6 = .ok (.ifCond .eq 18, 3) := by decide +kernel
theorem dX7_shut_9 : decode cX7_shut 9 = .ok (.aload_n 0, 1) := by decide +kernel
theorem dX7_shut_10 : decode cX7_shut 10 = .ok (.getfield 59, 3) := by decide +kernel
theorem dX7_shut_13 : decode cX7_shut 13 = .ok (.bipush 8, 2) := by decide +kernel
theorem dX7_shut_15 : decode cX7_shut 15 = .ok (.iload_n 1, 1) := by decide +kernel
theorem dX7_shut_16 : decode cX7_shut 16 = .ok (.imul, 1) := by decide +kernel
theorem dX7_shut_17 : decode cX7_shut 17 = .ok (.iload_n 2, 1) := by decide +kernel
theorem dX7_shut_18 : decode cX7_shut 18 = .ok (.iadd, 1) := by decide +kernel
theorem dX7_shut_19 : decode cX7_shut 19 = .ok (.baload, 1) := by decide +kernel
theorem dX7_shut_20 : decode cX7_shut 20 = .ok (.iload_n 3, 1) := by decide +kernel
theorem dX7_shut_21 : decode cX7_shut 21 = .ok (.if_icmp .ne 5, 3) := by decide +kernel
theorem dX7_shut_24 : decode cX7_shut 24 = .ok (.iconst 0, 1) := by decide +kernel
theorem dX7_shut_25 : decode cX7_shut 25 = .ok (.ireturn, 1) := by decide +kernel
theorem dX7_shut_26 : decode cX7_shut 26 = .ok (.aload_n 0, 1) := by decide +kernel
theorem dX7_shut_27 : decode cX7_shut 27 = .ok (.getfield 59, 3) := by decide +kernel
theorem dX7_shut_30 : decode cX7_shut 30 = .ok (.bipush 8, 2) := by decide +kernel
theorem dX7_shut_32 : decode cX7_shut 32 = .ok (.iload_n 1, 1) := by decide +kernel
theorem dX7_shut_33 : decode cX7_shut 33 = .ok (.imul, 1) := by decide +kernel
theorem dX7_shut_34 : decode cX7_shut 34 = .ok (.iload_n 2, 1) := by decide +kernel
theorem dX7_shut_35 : decode cX7_shut 35 = .ok (.iadd, 1) := by decide +kernel
theorem dX7_shut_36 : decode cX7_shut 36 = .ok (.iload_n 3, 1) := by decide +kernel
theorem dX7_shut_37 : decode cX7_shut 37 = .ok (.bastore, 1) := by decide +kernel
theorem dX7_shut_38 : decode cX7_shut 38 = .ok (.aload_n 0, 1) := by decide +kernel
theorem dX7_shut_39 : decode cX7_shut 39 = .ok (.getfield 56, 3) := by decide +kernel
theorem dX7_shut_42 : decode cX7_shut 42 = .ok (.bipush 8, 2) := by decide +kernel
theorem dX7_shut_44 : decode cX7_shut 44 = .ok (.iload_n 1, 1) := by decide +kernel
theorem dX7_shut_45 : decode cX7_shut 45 = .ok (.imul, 1) := by decide +kernel
theorem dX7_shut_46 : decode cX7_shut 46 = .ok (.iload_n 2, 1) := by decide +kernel
theorem dX7_shut_47 : decode cX7_shut 47 = .ok (.iadd, 1) := by decide +kernel
theorem dX7_shut_48 : decode cX7_shut 48 = .ok (.iload_n 3, 1) := by decide +kernel
theorem dX7_shut_49 : decode cX7_shut 49 = .ok (.ifCond .eq 17, 3) := by decide +kernel
theorem dX7_shut_52 : decode cX7_shut 52 = .ok (.aload_n 0, 1) := by decide +kernel
theorem dX7_shut_53 : decode cX7_shut 53 = .ok (.getfield 56, 3) := by decide +kernel
theorem dX7_shut_56 : decode cX7_shut 56 = .ok (.bipush 8, 2) := by decide +kernel
theorem dX7_shut_58 : decode cX7_shut 58 = .ok (.iload_n 1, 1) := by decide +kernel
theorem dX7_shut_59 : decode cX7_shut 59 = .ok (.imul, 1) := by decide +kernel
theorem dX7_shut_60 : decode cX7_shut 60 = .ok (.iload_n 2, 1) := by decide +kernel
theorem dX7_shut_61 : decode cX7_shut 61 = .ok (.iadd, 1) := by decide +kernel
theorem dX7_shut_62 : decode cX7_shut 62 = .ok (.iaload, 1) := by decide +kernel
theorem dX7_shut_63 : decode cX7_shut 63 = .ok (.goto 4, 3) := by decide +kernel
theorem dX7_shut_66 : decode cX7_shut 66 = .ok (.iconst 0, 1) := by decide +kernel
theorem dX7_shut_67 : decode cX7_shut 67 = .ok (.iastore, 1) := by decide +kernel
end
section
theorem dX7_shut_68 : decode cX7_shut 68 = .ok (.iconst 1, 1) := by decide +kernel
theorem dX7_shut_69 : decode cX7_shut 69 = .ok (.ireturn, 1) := by decide +kernel
theorem dX7_power_0 : decode cX7_power 0 = .ok (.aload_n 0, 1) := by decide +kernel
theorem dX7_power_1 : decode cX7_power 1 = .ok (.iload_n 1, 1) := by decide +kernel
theorem dX7_power_2 : decode cX7_power 2 = .ok (.invokevirtual 112, 3) := by decide +kernel
theorem dX7_power_5 : decode cX7_power 5 = .ok (.ifCond .eq 13, 3) := by decide +kernel
theorem dX7_power_8 : decode cX7_power 8 = .ok (.aload_n 0, 1) := by decide +kernel
theorem dX7_power_9 : decode cX7_power 9 = .ok (.getfield 28, 3) := by decide +kernel
theorem dX7_power_12 : decode cX7_power 12 = .ok (.iload_n 1, 1) := by decide +kernel
theorem dX7_power_13 : decode cX7_power 13 = .ok (.baload, 1) := by decide +kernel
theorem dX7_power_14 : decode cX7_power 14 = .ok (.iload_n 2, 1) := by decide +kernel
theorem dX7_power_15 : decode cX7_power 15 = .ok (.if_icmp .eq 5, 3) := by decide +kernel
theorem dX7_power_18 : decode cX7_power 18 = .ok (.iconst 0, 1) := by decide +kernel
theorem dX7_power_19 : decode cX7_power 19 = .ok (.ireturn, 1) := by decide +kernel
theorem dX7_power_20 : decode cX7_power 20 = .ok (.aload_n 0, 1) := by decide +kernel
theorem dX7_power_21 : decode cX7_power 21 = .ok (.getfield 28, 3) := by decide +kernel
theorem dX7_power_24 : decode cX7_power 24 = .ok (.iload_n 1, 1) := by decide +kernel
theorem dX7_power_25 : decode cX7_power 25 = .ok (.iload_n 2, 1) := by decide +kernel
theorem dX7_power_26 : decode cX7_power 26 = .ok (.ifCond .ne 7, 3) := by decide +kernel
theorem dX7_power_29 : decode cX7_power 29 = .ok (.iconst 1, 1) := by decide +kernel
theorem dX7_power_30 : decode cX7_power 30 = .ok (.goto 4, 3) := by decide +kernel
theorem dX7_power_33 : decode cX7_power 33 = .ok (.iconst 0, 1) := by decide +kernel
theorem dX7_power_34 : decode cX7_power 34 = .ok (.bastore, 1) := by decide +kernel
theorem dX7_power_35 : decode cX7_power 35 = .ok (.aload_n 0, 1) := by decide +kernel
theorem dX7_power_36 : decode cX7_power 36 = .ok (.getfield 32, 3) := by decide +kernel
theorem dX7_power_39 : decode cX7_power 39 = .ok (.iload_n 1, 1) := by decide +kernel
theorem dX7_power_40 : decode cX7_power 40 = .ok (.iconst 0, 1) := by decide +kernel
theorem dX7_power_41 : decode cX7_power 41 = .ok (.iastore, 1) := by decide +kernel
theorem dX7_power_42 : decode cX7_power 42 = .ok (.iconst 1, 1) := by decide +kernel
theorem dX7_power_43 : decode cX7_power 43 = .ok (.ireturn, 1) := by decide +kernel
theorem dX7_fill_0 : decode cX7_fill 0 = .ok (.aload_n 0, 1) := by decide +kernel
theorem dX7_fill_1 : decode cX7_fill 1 = .ok (.iload_n 1, 1) := by decide +kernel
theorem dX7_fill_2 : decode cX7_fill 2 = .ok (.iload_n 2, 1) := by decide +kernel
theorem dX7_fill_3 : decode cX7_fill 3 = .ok (.invokevirtual 123, 3) := by decide +kernel
theorem dX7_fill_6 : decode cX7_fill 6 = .ok (.ifCond .ne 9, 3) := by decide +kernel
theorem dX7_fill_9 : decode cX7_fill 9 = .ok (.aload_n 0, 1) := by decide +kernel
theorem dX7_fill_10 : decode cX7_fill 10 = .ok (.iconst (-1), 1) := by decide +kernel
theorem dX7_fill_11 : decode cX7_fill 11 = .ok (.invokevirtual 116, 3) := by decide +kernel
theorem dX7_fill_14 : decode cX7_fill 14 = .ok (.ireturn, 1) := by decide +kernel
theorem dX7_fill_15 : decode cX7_fill 15 = .ok (.bipush 8, 2) := by decide +kernel
theorem dX7_fill_17 : decode cX7_fill 17 = .ok (.iload_n 1, 1) := by decide +kernel
theorem dX7_fill_18 : decode cX7_fill 18 = .ok (.imul, 1) := by decide +kernel
theorem dX7_fill_19 : decode cX7_fill 19 = .ok (.iload_n 2, 1) := by decide +kernel
theorem dX7_fill_20 : decode cX7_fill 20 = .ok (.iadd, 1) := by decide +kernel
theorem dX7_fill_21 : decode cX7_fill 21 = .ok (.istore 4, 2) := by decide +kernel
theorem dX7_fill_23 : decode cX7_fill 23 = .ok (.aload_n 0, 1) := by decide +kernel
theorem dX7_fill_24 : decode cX7_fill 24 = .ok (.getfield 62, 3) := by decide +kernel
theorem dX7_fill_27 : decode cX7_fill 27 = .ok (.iload 4, 2) := by decide +kernel
theorem dX7_fill_29 : decode cX7_fill 29 = .ok (.baload, 1) := by decide +kernel
theorem dX7_fill_30 : decode cX7_fill 30 = .ok (.ifCond .eq 10, 3) := by decide +kernel
theorem dX7_fill_33 : decode cX7_fill 33 = .ok (.aload_n 0, 1) := by decide +kernel
theorem dX7_fill_34 : decode cX7_fill 34 = .ok (.bipush (-3), 2) := by decide +kernel
theorem dX7_fill_36 : decode cX7_fill 36 = .ok (.invokevirtual 116, 3) := by decide +kernel
theorem dX7_fill_39 : decode cX7_fill 39 = .ok (.ireturn, 1) := by decide +kernel
theorem dX7_fill_40 : decode cX7_fill 40 = .ok (.iload_n 3, 1) := by decide +kernel
theorem dX7_fill_41 : decode cX7_fill 41 = .ok (.ifCond .ge 10, 3) := by decide +kernel
theorem dX7_fill_44 : decode cX7_fill 44 = .ok (.aload_n 0, 1) := by decide +kernel
theorem dX7_fill_45 : decode cX7_fill 45 = .ok (.bipush (-4), 2) := by decide +kernel
theorem dX7_fill_47 : decode cX7_fill 47 = .ok (.invokevirtual 116, 3) := by decide +kernel
theorem dX7_fill_50 : decode cX7_fill 50 = .ok (.ireturn, 1) := by decide +kernel
theorem dX7_fill_51 : decode cX7_fill 51 = .ok (.iload_n 3, 1) := by decide +kernel
theorem dX7_fill_52 : decode cX7_fill 52 = .ok (.aload_n 0, 1) := by decide +kernel
theorem dX7_fill_53 : decode cX7_fill 53 = .ok (.getfield 41, 3) := by decide +kernel
theorem dX7_fill_56 : decode cX7_fill 56 = .ok (.iload 4, 2) := by decide +kernel
theorem dX7_fill_58 : decode cX7_fill 58 = .ok (.iaload, 1) := by decide +kernel
theorem dX7_fill_59 : decode cX7_fill 59 = .ok (.aload_n 0, 1) := by decide +kernel
theorem dX7_fill_60 : decode cX7_fill 60 = .ok (.getfield 44, 3) := by decide +kernel
theorem dX7_fill_63 : decode cX7_fill 63 = .ok (.iload 4, 2) := by decide +kernel
theorem dX7_fill_65 : decode cX7_fill 65 = .ok (.iaload, 1) := by decide +kernel
theorem dX7_fill_66 : decode cX7_fill 66 = .ok (.isub, 1) := by decide +kernel
theorem dX7_fill_67 : decode cX7_fill 67 = .ok (.if_icmp .le 10, 3) := by decide +kernel
theorem dX7_fill_70 : decode cX7_fill 70 = .ok (.aload_n 0, 1) := by decide +kernel
theorem dX7_fill_71 : decode cX7_fill 71 = .ok (.bipush (-6), 2) := by decide +kernel
theorem dX7_fill_73 : decode cX7_fill 73 = .ok (.invokevirtual 116, 3) := by decide +kernel
theorem dX7_fill_76 : decode cX7_fill 76 = .ok (.ireturn, 1) := by decide +kernel
theorem dX7_fill_77 : decode cX7_fill 77 = .ok (.aload_n 0, 1) := by decide +kernel
theorem dX7_fill_78 : decode cX7_fill 78 = .ok (.getfield 44, 3) := by decide +kernel
theorem dX7_fill_81 : decode cX7_fill 81 = .ok (.iload 4, 2) := by decide +kernel
theorem dX7_fill_83 : decode cX7_fill 83 = .ok (.dup2, 1) := by decide +kernel
theorem dX7_fill_84 : decode cX7_fill 84 = .ok (.iaload, 1) := by decide +kernel
theorem dX7_fill_85 : decode cX7_fill 85 = .ok (.iload_n 3, 1) := by decide +kernel
theorem dX7_fill_86 : decode cX7_fill 86 = .ok (.iadd, 1) := by decide +kernel
theorem dX7_fill_87 : decode cX7_fill 87 = .ok (.iastore, 1) := by decide +kernel
theorem dX7_fill_88 : decode cX7_fill 88 = .ok (.aload_n 0, 1) := by decide +kernel
theorem dX7_fill_89 : decode cX7_fill 89 = .ok (.getfield 83, 3) := by decide +kernel
theorem dX7_fill_92 : decode cX7_fill 92 = .ok (.iload_n 1, 1) := by decide +kernel
theorem dX7_fill_93 : decode cX7_fill 93 = .ok (.dup2, 1) := by decide +kernel
theorem dX7_fill_94 : decode cX7_fill 94 = .ok (.iaload, 1) := by decide +kernel
theorem dX7_fill_95 : decode cX7_fill 95 = .ok (.iload_n 3, 1) := by decide +kernel
theorem dX7_fill_96 : decode cX7_fill 96 = .ok (.iadd, 1) := by decide +kernel
theorem dX7_fill_97 : decode cX7_fill 97 = .ok (.iastore, 1) := by decide +kernel
theorem dX7_fill_98 : decode cX7_fill 98 = .ok (.aload_n 0, 1) := by decide +kernel
theorem dX7_fill_99 : decode cX7_fill 99 = .ok (.getfield 44, 3) := by decide +kernel
theorem dX7_fill_102 : decode cX7_fill 102 = .ok (.iload 4, 2) := by decide +kernel
theorem dX7_fill_104 : decode cX7_fill 104 = .ok (.iaload, 1) := by decide +kernel
theorem dX7_fill_105 : decode cX7_fill 105 = .ok (.ireturn, 1) := by decide +kernel
theorem dX7_found_0 : decode cX7_found 0 = .ok (.aload_n 0, 1) := by decide +kernel
theorem dX7_found_1 : decode cX7_found 1 = .ok (.iload_n 1, 1) := by decide +kernel
theorem dX7_found_2 : decode cX7_found 2 = .ok (.iload_n 2, 1) := by decide +kernel
theorem dX7_found_3 : decode cX7_found 3 = .ok (.invokevirtual 123, 3) := by decide +kernel
theorem dX7_found_6 : decode cX7_found 6 = .ok (.ifCond .ne 9, 3) := by decide +kernel
theorem dX7_found_9 : decode cX7_found 9 = .ok (.aload_n 0, 1) := by decide +kernel
theorem dX7_found_10 : decode cX7_found 10 = .ok (.iconst (-1), 1) := by decide +kernel
theorem dX7_found_11 : decode cX7_found 11 = .ok (.invokevirtual 116, 3) := by decide +kernel
theorem dX7_found_14 : decode cX7_found 14 = .ok (.ireturn, 1) := by decide +kernel
theorem dX7_found_15 : decode cX7_found 15 = .ok (.bipush 8, 2) := by decide +kernel
theorem dX7_found_17 : decode cX7_found 17 = .ok (.iload_n 1, 1) := by decide +kernel
theorem dX7_found_18 : decode cX7_found 18 = .ok (.imul, 1) := by decide +kernel
theorem dX7_found_19 : decode cX7_found 19 = .ok (.iload_n 2, 1) := by decide +kernel
theorem dX7_found_20 : decode cX7_found 20 = .ok (.iadd, 1) := by decide +kernel
theorem dX7_found_21 : decode cX7_found 21 = .ok (.istore 4, 2) := by decide +kernel
theorem dX7_found_23 : decode cX7_found 23 = .ok (.iload_n 3, 1) := by decide +kernel
theorem dX7_found_24 : decode cX7_found 24 = .ok (.ifCond .ge 10, 3) := by decide +kernel
theorem dX7_found_27 : decode cX7_found 27 = .ok (.aload_n 0, 1) := by decide +kernel
theorem dX7_found_28 : decode cX7_found 28 = .ok (.bipush (-4), 2) := by decide +kernel
theorem dX7_found_30 : decode cX7_found 30 = .ok (.invokevirtual 116, 3) := by decide +kernel
theorem dX7_found_33 : decode cX7_found 33 = .ok (.ireturn, 1) := by decide +kernel
theorem dX7_found_34 : decode cX7_found 34 = .ok (.iload_n 3, 1) := by decide +kernel
theorem dX7_found_35 : decode cX7_found 35 = .ok (.aload_n 0, 1) := by decide +kernel
theorem dX7_found_36 : decode cX7_found 36 = .ok (.getfield 41, 3) := by decide +kernel
theorem dX7_found_39 : decode cX7_found 39 = .ok (.iload 4, 2) := by decide +kernel
theorem dX7_found_41 : decode cX7_found 41 = .ok (.iaload, 1) := by decide +kernel
theorem dX7_found_42 : decode cX7_found 42 = .ok (.if_icmp .le 10, 3) := by decide +kernel
theorem dX7_found_45 : decode cX7_found 45 = .ok (.aload_n 0, 1) := by decide +kernel
theorem dX7_found_46 : decode cX7_found 46 = .ok (.bipush (-6), 2) := by decide +kernel
theorem dX7_found_48 : decode cX7_found 48 = .ok (.invokevirtual 116, 3) := by decide +kernel
theorem dX7_found_51 : decode cX7_found 51 = .ok (.ireturn, 1) := by decide +kernel
theorem dX7_found_52 : decode cX7_found 52 = .ok (.aload_n 0, 1) := by decide +kernel
theorem dX7_found_53 : decode cX7_found 53 = .ok (.getfield 44, 3) := by decide +kernel
theorem dX7_found_56 : decode cX7_found 56 = .ok (.iload 4, 2) := by decide +kernel
theorem dX7_found_58 : decode cX7_found 58 = .ok (.iaload, 1) := by decide +kernel
theorem dX7_found_59 : decode cX7_found 59 = .ok (.istore 5, 2) := by decide +kernel
theorem dX7_found_61 : decode cX7_found 61 = .ok (.aload_n 0, 1) := by decide +kernel
theorem dX7_found_62 : decode cX7_found 62 = .ok (.getfield 74, 3) := by decide +kernel
theorem dX7_found_65 : decode cX7_found 65 = .ok (.iload_n 1, 1) := by decide +kernel
theorem dX7_found_66 : decode cX7_found 66 = .ok (.dup2, 1) := by decide +kernel
theorem dX7_found_67 : decode cX7_found 67 = .ok (.iaload, 1) := by decide +kernel
theorem dX7_found_68 : decode cX7_found 68 = .ok (.iload 5, 2) := by decide +kernel
theorem dX7_found_70 : decode cX7_found 70 = .ok (.iload_n 3, 1) := by decide +kernel
theorem dX7_found_71 : decode cX7_found 71 = .ok (.isub, 1) := by decide +kernel
theorem dX7_found_72 : decode cX7_found 72 = .ok (.iadd, 1) := by decide +kernel
theorem dX7_found_73 : decode cX7_found 73 = .ok (.iastore, 1) := by decide +kernel
theorem dX7_found_74 : decode cX7_found 74 = .ok (.aload_n 0, 1) := by decide +kernel
theorem dX7_found_75 : decode cX7_found 75 = .ok (.getfield 44, 3) := by decide +kernel
theorem dX7_found_78 : decode cX7_found 78 = .ok (.iload 4, 2) := by decide +kernel
theorem dX7_found_80 : decode cX7_found 80 = .ok (.iload_n 3, 1) := by decide +kernel
theorem dX7_found_81 : decode cX7_found 81 = .ok (.iastore, 1) := by decide +kernel
theorem dX7_found_82 : decode cX7_found 82 = .ok (.iload 5, 2) := by decide +kernel
theorem dX7_found_84 : decode cX7_found 84 = .ok (.ireturn, 1) := by decide +kernel
theorem dX7_empty_0 : decode cX7_empty 0 = .ok (.aload_n 0, 1) := by decide +kernel
theorem dX7_empty_1 : decode cX7_empty 1 = .ok (.iload_n 1, 1) := by decide +kernel
theorem dX7_empty_2 : decode cX7_empty 2 = .ok (.iload_n 2, 1) := by decide +kernel
theorem dX7_empty_3 : decode cX7_empty 3 = .ok (.invokevirtual 123, 3) := by decide +kernel
theorem dX7_empty_6 : decode cX7_empty 6 = .ok (.ifCond .ne 9, 3) := by decide +kernel
theorem dX7_empty_9 : decode cX7_empty 9 = .ok (.aload_n 0, 1) := by decide +kernel
theorem dX7_empty_10 : decode cX7_empty 10 = .ok (.iconst (-1), 1) := by decide +kernel
theorem dX7_empty_11 : decode cX7_empty 11 = .ok (.invokevirtual 116, 3) := by decide +kernel
theorem dX7_empty_14 : decode cX7_empty 14 = .ok (.ireturn, 1) := by decide +kernel
theorem dX7_empty_15 : decode cX7_empty 15 = .ok (.bipush 8, 2) := by decide +kernel
theorem dX7_empty_17 : decode cX7_empty 17 = .ok (.iload_n 1, 1) := by decide +kernel
theorem dX7_empty_18 : decode cX7_empty 18 = .ok (.imul, 1) := by decide +kernel
theorem dX7_empty_19 : decode cX7_empty 19 = .ok (.iload_n 2, 1) := by decide +kernel
theorem dX7_empty_20 : decode cX7_empty 20 = .ok (.iadd, 1) := by decide +kernel
theorem dX7_empty_21 : decode cX7_empty 21 = .ok (.istore_n 3, 1) := by decide +kernel
theorem dX7_empty_22 : decode cX7_empty 22 = .ok (.aload_n 0, 1) := by decide +kernel
theorem dX7_empty_23 : decode cX7_empty 23 = .ok (.getfield 44, 3) := by decide +kernel
theorem dX7_empty_26 : decode cX7_empty 26 = .ok (.iload_n 3, 1) := by decide +kernel
theorem dX7_empty_27 : decode cX7_empty 27 = .ok (.iaload, 1) := by decide +kernel
theorem dX7_empty_28 : decode cX7_empty 28 = .ok (.istore 4, 2) := by decide +kernel
theorem dX7_empty_30 : decode cX7_empty 30 = .ok (.aload_n 0, 1) := by decide +kernel
theorem dX7_empty_31 : decode cX7_empty 31 = .ok (.getfield 77, 3) := by decide +kernel
theorem dX7_empty_34 : decode cX7_empty 34 = .ok (.iload_n 1, 1) := by decide +kernel
theorem dX7_empty_35 : decode cX7_empty 35 = .ok (.dup2, 1) := by decide +kernel
theorem dX7_empty_36 : decode cX7_empty 36 = .ok (.iaload, 1) := by decide +kernel
theorem dX7_empty_37 : decode cX7_empty 37 = .ok (.iload 4, 2) := by decide +kernel
theorem dX7_empty_39 : decode cX7_empty 39 = .ok (.iadd, 1) := by decide +kernel
theorem dX7_empty_40 : decode cX7_empty 40 = .ok (.iastore, 1) := by decide +kernel
theorem dX7_empty_41 : decode cX7_empty 41 = .ok (.aload_n 0, 1) := by decide +kernel
theorem dX7_empty_42 : decode cX7_empty 42 = .ok (.getfield 44, 3) := by decide +kernel
theorem dX7_empty_45 : decode cX7_empty 45 = .ok (.iload_n 3, 1) := by decide +kernel
theorem dX7_empty_46 : decode cX7_empty 46 = .ok (.iconst 0, 1) := by decide +kernel
theorem dX7_empty_47 : decode cX7_empty 47 = .ok (.iastore, 1) := by decide +kernel
theorem dX7_empty_48 : decode cX7_empty 48 = .ok (.aload_n 0, 1) := by decide +kernel
theorem dX7_empty_49 : decode cX7_empty 49 = .ok (.getfield 62, 3) := by decide +kernel
theorem dX7_empty_52 : decode cX7_empty 52 = .ok (.iload_n 3, 1) := by decide +kernel
theorem dX7_empty_53 : decode cX7_empty 53 = .ok (.iconst 0, 1) := by decide +kernel
theorem dX7_empty_54 : decode cX7_empty 54 = .ok (.bastore, 1) := by decide +kernel
theorem dX7_empty_55 : decode cX7_empty 55 = .ok (.iload 4, 2) := by decide +kernel
theorem dX7_empty_57 : decode cX7_empty 57 = .ok (.ireturn, 1) := by decide +kernel
theorem dX7_nextServes_0 : decode cX7_nextServes 0 = .ok (.bipush 8, 2) := by decide +kernel
theorem dX7_nextServes_2 : decode cX7_nextServes 2 = .ok (.iload_n 1, 1) := by decide +kernel
theorem dX7_nextServes_3 : decode cX7_nextServes 3 = .ok (.imul, 1) := by decide +kernel
theorem dX7_nextServes_4 : decode cX7_nextServes 4 = .ok (.iload_n 2, 1) := by decide +kernel
theorem dX7_nextServes_5 : decode cX7_nextServes 5 = .ok (.iadd, 1) := by decide +kernel
theorem dX7_nextServes_6 : decode cX7_nextServes 6 = .ok (.iconst 1, 1) := by decide +kernel
theorem dX7_nextServes_7 : decode cX7_nextServes 7 = .ok (.iadd, 1) := by decide +kernel
theorem dX7_nextServes_8 : decode cX7_nextServes 8 = .ok (.istore_n 3, 1) := by decide +kernel
theorem dX7_nextServes_9 : decode cX7_nextServes 9 = .ok (.iload_n 2, 1) := by decide +kernel
theorem dX7_nextServes_10 : decode cX7_nextServes 10 = .ok (.iconst 1, 1) := by decide +kernel
theorem dX7_nextServes_11 : decode cX7_nextServes 11 = .ok (.iadd, 1) := by decide +kernel
theorem dX7_nextServes_12 : decode cX7_nextServes 12 = .ok (.aload_n 0, 1) := by decide +kernel
theorem dX7_nextServes_13 : decode cX7_nextServes 13 = .ok (.getfield 7, 3) := by decide +kernel
theorem dX7_nextServes_16 : decode cX7_nextServes 16 = .ok (.iload_n 1, 1) := by decide +kernel
theorem dX7_nextServes_17 : decode cX7_nextServes 17 = .ok (.iaload, 1) := by decide +kernel
theorem dX7_nextServes_18 : decode cX7_nextServes 18 = .ok (.if_icmp .ge 54, 3) := by decide +kernel
theorem dX7_nextServes_21 : decode cX7_nextServes 21 = .ok (.aload_n 0, 1) := by decide +kernel
theorem dX7_nextServes_22 : decode cX7_nextServes 22 = .ok (.getfield 35, 3) := by decide +kernel
theorem dX7_nextServes_25 : decode cX7_nextServes 25 = .ok (.iload_n 3, 1) := by decide +kernel
theorem dX7_nextServes_26 : decode cX7_nextServes 26 = .ok (.iaload, 1) := by decide +kernel
theorem dX7_nextServes_27 : decode cX7_nextServes 27 = .ok (.aload_n 0, 1) := by decide +kernel
theorem dX7_nextServes_28 : decode cX7_nextServes 28 = .ok (.getfield 35, 3) := by decide +kernel
theorem dX7_nextServes_31 : decode cX7_nextServes 31 = .ok (.bipush 8, 2) := by decide +kernel
theorem dX7_nextServes_33 : decode cX7_nextServes 33 = .ok (.iload_n 1, 1) := by decide +kernel
theorem dX7_nextServes_34 : decode cX7_nextServes 34 = .ok (.imul, 1) := by decide +kernel
theorem dX7_nextServes_35 : decode cX7_nextServes 35 = .ok (.iload_n 2, 1) := by decide +kernel
theorem dX7_nextServes_36 : decode cX7_nextServes 36 = .ok (.iadd, 1) := by decide +kernel
theorem dX7_nextServes_37 : decode cX7_nextServes 37 = .ok (.iaload, 1) := by decide +kernel
theorem dX7_nextServes_38 : decode cX7_nextServes 38 = .ok (.if_icmp .ne 34, 3) := by decide +kernel
theorem dX7_nextServes_41 : decode cX7_nextServes 41 = .ok (.aload_n 0, 1) := by decide +kernel
theorem dX7_nextServes_42 : decode cX7_nextServes 42 = .ok (.getfield 44, 3) := by decide +kernel
theorem dX7_nextServes_45 : decode cX7_nextServes 45 = .ok (.iload_n 3, 1) := by decide +kernel
theorem dX7_nextServes_46 : decode cX7_nextServes 46 = .ok (.iaload, 1) := by decide +kernel
theorem dX7_nextServes_47 : decode cX7_nextServes 47 = .ok (.ifCond .le 25, 3) := by decide +kernel
theorem dX7_nextServes_50 : decode cX7_nextServes 50 = .ok (.aload_n 0, 1) := by decide +kernel
theorem dX7_nextServes_51 : decode cX7_nextServes 51 = .ok (.getfield 59, 3) := by decide +kernel
theorem dX7_nextServes_54 : decode cX7_nextServes 54 = .ok (.iload_n 3, 1) := by decide +kernel
theorem dX7_nextServes_55 : decode cX7_nextServes 55 = .ok (.baload, 1) := by decide +kernel
theorem dX7_nextServes_56 : decode cX7_nextServes 56 = .ok (.ifCond .ne 16, 3) := by decide +kernel
theorem dX7_nextServes_59 : decode cX7_nextServes 59 = .ok (.aload_n 0, 1) := by decide +kernel
theorem dX7_nextServes_60 : decode cX7_nextServes 60 = .ok (.getfield 62, 3) := by decide +kernel
theorem dX7_nextServes_63 : decode cX7_nextServes 63 = .ok (.iload_n 3, 1) := by decide +kernel
theorem dX7_nextServes_64 : decode cX7_nextServes 64 = .ok (.baload, 1) := by decide +kernel
theorem dX7_nextServes_65 : decode cX7_nextServes 65 = .ok (.ifCond .ne 7, 3) := by decide +kernel
theorem dX7_nextServes_68 : decode cX7_nextServes 68 = .ok (.iconst 1, 1) := by decide +kernel
theorem dX7_nextServes_69 : decode cX7_nextServes 69 = .ok (.goto 4, 3) := by decide +kernel
theorem dX7_nextServes_72 : decode cX7_nextServes 72 = .ok (.iconst 0, 1) := by decide +kernel
theorem dX7_nextServes_73 : decode cX7_nextServes 73 = .ok (.ireturn, 1) := by decide +kernel
theorem dX7_sells_0 : decode cX7_sells 0 = .ok (.bipush 8, 2) := by decide +kernel
theorem dX7_sells_2 : decode cX7_sells 2 = .ok (.iload_n 1, 1) := by decide +kernel
theorem dX7_sells_3 : decode cX7_sells 3 = .ok (.imul, 1) := by decide +kernel
theorem dX7_sells_4 : decode cX7_sells 4 = .ok (.iload_n 2, 1) := by decide +kernel
theorem dX7_sells_5 : decode cX7_sells 5 = .ok (.iadd, 1) := by decide +kernel
theorem dX7_sells_6 : decode cX7_sells 6 = .ok (.istore_n 3, 1) := by decide +kernel
theorem dX7_sells_7 : decode cX7_sells 7 = .ok (.aload_n 0, 1) := by decide +kernel
theorem dX7_sells_8 : decode cX7_sells 8 = .ok (.getfield 59, 3) := by decide +kernel
theorem dX7_sells_11 : decode cX7_sells 11 = .ok (.iload_n 3, 1) := by decide +kernel
theorem dX7_sells_12 : decode cX7_sells 12 = .ok (.baload, 1) := by decide +kernel
theorem dX7_sells_13 : decode cX7_sells 13 = .ok (.ifCond .ne 12, 3) := by decide +kernel
theorem dX7_sells_16 : decode cX7_sells 16 = .ok (.aload_n 0, 1) := by decide +kernel
theorem dX7_sells_17 : decode cX7_sells 17 = .ok (.getfield 62, 3) := by decide +kernel
theorem dX7_sells_20 : decode cX7_sells 20 = .ok (.iload_n 3, 1) := by decide +kernel
theorem dX7_sells_21 : decode cX7_sells 21 = .ok (.baload, 1) := by decide +kernel
theorem dX7_sells_22 : decode cX7_sells 22 = .ok (.ifCond .eq 5, 3) := by decide +kernel
theorem dX7_sells_25 : decode cX7_sells 25 = .ok (.iconst 0, 1) := by decide +kernel
theorem dX7_sells_26 : decode cX7_sells 26 = .ok (.ireturn, 1) := by decide +kernel
theorem dX7_sells_27 : decode cX7_sells 27 = .ok (.aload_n 0, 1) := by decide +kernel
theorem dX7_sells_28 : decode cX7_sells 28 = .ok (.getfield 44, 3) := by decide +kernel
theorem dX7_sells_31 : decode cX7_sells 31 = .ok (.iload_n 3, 1) := by decide +kernel
theorem dX7_sells_32 : decode cX7_sells 32 = .ok (.iaload, 1) := by decide +kernel
theorem dX7_sells_33 : decode cX7_sells 33 = .ok (.ifCond .gt 22, 3) := by decide +kernel
theorem dX7_sells_36 : decode cX7_sells 36 = .ok (.aload_n 0, 1) := by decide +kernel
theorem dX7_sells_37 : decode cX7_sells 37 = .ok (.getfield 47, 3) := by decide +kernel
theorem dX7_sells_40 : decode cX7_sells 40 = .ok (.iload_n 3, 1) := by decide +kernel
theorem dX7_sells_41 : decode cX7_sells 41 = .ok (.iaload, 1) := by decide +kernel
theorem dX7_sells_42 : decode cX7_sells 42 = .ok (.iconst 3, 1) := by decide +kernel
theorem dX7_sells_43 : decode cX7_sells 43 = .ok (.if_icmp .ne 16, 3) := by decide +kernel
theorem dX7_sells_46 : decode cX7_sells 46 = .ok (.aload_n 0, 1) := by decide +kernel
theorem dX7_sells_47 : decode cX7_sells 47 = .ok (.iload_n 1, 1) := by decide +kernel
theorem dX7_sells_48 : decode cX7_sells 48 = .ok (.iload_n 2, 1) := by decide +kernel
theorem dX7_sells_49 : decode cX7_sells 49 = .ok (.invokevirtual 127, 3) := by decide +kernel
theorem dX7_sells_52 : decode cX7_sells 52 = .ok (.ifCond .eq 7, 3) := by decide +kernel
theorem dX7_sells_55 : decode cX7_sells 55 = .ok (.iconst 1, 1) := by decide +kernel
theorem dX7_sells_56 : decode cX7_sells 56 = .ok (.goto 4, 3) := by decide +kernel
theorem dX7_sells_59 : decode cX7_sells 59 = .ok (.iconst 0, 1) := by decide +kernel
theorem dX7_sells_60 : decode cX7_sells 60 = .ok (.ireturn, 1) := by decide +kernel
theorem dX7_worthIn_0 : decode cX7_worthIn 0 = .ok (.iconst 0, 1) := by decide +kernel
theorem dX7_worthIn_1 : decode cX7_worthIn 1 = .ok (.istore_n 3, 1) := by decide +kernel
theorem dX7_worthIn_2 : decode cX7_worthIn 2 = .ok (.iconst 0, 1) := by decide +kernel
theorem dX7_worthIn_3 : decode cX7_worthIn 3 = .ok (.istore 4, 2) := by decide +kernel
theorem dX7_worthIn_5 : decode cX7_worthIn 5 = .ok (.iload 4, 2) := by decide +kernel
theorem dX7_worthIn_7 : decode cX7_worthIn 7 = .ok (.bipush 6, 2) := by decide +kernel
theorem dX7_worthIn_9 : decode cX7_worthIn 9 = .ok (.if_icmp .ge 27, 3) := by decide +kernel
theorem dX7_worthIn_12 : decode cX7_worthIn 12 = .ok (.iload_n 3, 1) := by decide +kernel
theorem dX7_worthIn_13 : decode cX7_worthIn 13 = .ok (.aload_n 1, 1) := by decide +kernel
theorem dX7_worthIn_14 : decode cX7_worthIn 14 = .ok (.bipush 6, 2) := by decide +kernel
theorem dX7_worthIn_16 : decode cX7_worthIn 16 = .ok (.iload_n 2, 1) := by decide +kernel
theorem dX7_worthIn_17 : decode cX7_worthIn 17 = .ok (.imul, 1) := by decide +kernel
theorem dX7_worthIn_18 : decode cX7_worthIn 18 = .ok (.iload 4, 2) := by decide +kernel
theorem dX7_worthIn_20 : decode cX7_worthIn 20 = .ok (.iadd, 1) := by decide +kernel
theorem dX7_worthIn_21 : decode cX7_worthIn 21 = .ok (.iaload, 1) := by decide +kernel
theorem dX7_worthIn_22 : decode cX7_worthIn 22 = .ok (.iload 4, 2) := by decide +kernel
theorem dX7_worthIn_24 : decode cX7_worthIn 24 = .ok (.invokestatic 130, 3) := by decide +kernel
theorem dX7_worthIn_27 : decode cX7_worthIn 27 = .ok (.imul, 1) := by decide +kernel
theorem dX7_worthIn_28 : decode cX7_worthIn 28 = .ok (.iadd, 1) := by decide +kernel
theorem dX7_worthIn_29 : decode cX7_worthIn 29 = .ok (.istore_n 3, 1) := by decide +kernel
theorem dX7_worthIn_30 : decode cX7_worthIn 30 = .ok (.iinc 4 1, 3) := by decide +kernel
theorem dX7_worthIn_33 : decode cX7_worthIn 33 = .ok (.goto (-28), 3) := by decide +kernel
theorem dX7_worthIn_36 : decode cX7_worthIn 36 = .ok (.iload_n 3, 1) := by decide +kernel
theorem dX7_worthIn_37 : decode cX7_worthIn 37 = .ok (.ireturn, 1) := by decide +kernel
theorem dX7_coinsIn_0 : decode cX7_coinsIn 0 = .ok (.iconst 0, 1) := by decide +kernel
theorem dX7_coinsIn_1 : decode cX7_coinsIn 1 = .ok (.istore_n 2, 1) := by decide +kernel
theorem dX7_coinsIn_2 : decode cX7_coinsIn 2 = .ok (.iconst 0, 1) := by decide +kernel
theorem dX7_coinsIn_3 : decode cX7_coinsIn 3 = .ok (.istore_n 3, 1) := by decide +kernel
theorem dX7_coinsIn_4 : decode cX7_coinsIn 4 = .ok (.iload_n 3, 1) := by decide +kernel
theorem dX7_coinsIn_5 : decode cX7_coinsIn 5 = .ok (.bipush 6, 2) := by decide +kernel
theorem dX7_coinsIn_7 : decode cX7_coinsIn 7 = .ok (.if_icmp .ge 23, 3) := by decide +kernel
theorem dX7_coinsIn_10 : decode cX7_coinsIn 10 = .ok (.iload_n 2, 1) := by decide +kernel
theorem dX7_coinsIn_11 : decode cX7_coinsIn 11 = .ok (.aload_n 0, 1) := by decide +kernel
theorem dX7_coinsIn_12 : decode cX7_coinsIn 12 = .ok (.getfield 19, 3) := by decide +kernel
theorem dX7_coinsIn_15 : decode cX7_coinsIn 15 = .ok (.bipush 6, 2) := by decide +kernel
theorem dX7_coinsIn_17 : decode cX7_coinsIn 17 = .ok (.iload_n 1, 1) := by decide +kernel
theorem dX7_coinsIn_18 : decode cX7_coinsIn 18 = .ok (.imul, 1) := by decide +kernel
theorem dX7_coinsIn_19 : decode cX7_coinsIn 19 = .ok (.iload_n 3, 1) := by decide +kernel
theorem dX7_coinsIn_20 : decode cX7_coinsIn 20 = .ok (.iadd, 1) := by decide +kernel
theorem dX7_coinsIn_21 : decode cX7_coinsIn 21 = .ok (.iaload, 1) := by decide +kernel
theorem dX7_coinsIn_22 : decode cX7_coinsIn 22 = .ok (.iadd, 1) := by decide +kernel
theorem dX7_coinsIn_23 : decode cX7_coinsIn 23 = .ok (.istore_n 2, 1) := by decide +kernel
theorem dX7_coinsIn_24 : decode cX7_coinsIn 24 = .ok (.iinc 3 1, 3) := by decide +kernel
theorem dX7_coinsIn_27 : decode cX7_coinsIn 27 = .ok (.goto (-23), 3) := by decide +kernel
theorem dX7_coinsIn_30 : decode cX7_coinsIn 30 = .ok (.iload_n 2, 1) := by decide +kernel
theorem dX7_coinsIn_31 : decode cX7_coinsIn 31 = .ok (.ireturn, 1) := by decide +kernel
theorem dX7_insert_0 : decode cX7_insert 0 = .ok (.aload_n 0, 1) := by decide +kernel
theorem dX7_insert_1 : decode cX7_insert 1 = .ok (.iload_n 1, 1) := by decide +kernel
theorem dX7_insert_2 : decode cX7_insert 2 = .ok (.invokevirtual 112, 3) := by decide +kernel
theorem dX7_insert_5 : decode cX7_insert 5 = .ok (.ifCond .eq 12, 3) := by decide +kernel
theorem dX7_insert_8 : decode cX7_insert 8 = .ok (.iload_n 2, 1) := by decide +kernel
theorem dX7_insert_9 : decode cX7_insert 9 = .ok (.iconst 0, 1) := by decide +kernel
theorem dX7_insert_10 : decode cX7_insert 10 = .ok (.iconst 5, 1) := by decide +kernel
theorem dX7_insert_11 : decode cX7_insert 11 = .ok (.invokestatic 108, 3) := by decide +kernel
theorem dX7_insert_14 : decode cX7_insert 14 = .ok (.ifCond .ne 9, 3) := by decide +kernel
theorem dX7_insert_17 : decode cX7_insert 17 = .ok (.aload_n 0, 1) := by decide +kernel
theorem dX7_insert_18 : decode cX7_insert 18 = .ok (.iconst (-1), 1) := by decide +kernel
theorem dX7_insert_19 : decode cX7_insert 19 = .ok (.invokevirtual 116, 3) := by decide +kernel
theorem dX7_insert_22 : decode cX7_insert 22 = .ok (.ireturn, 1) := by decide +kernel
theorem dX7_insert_23 : decode cX7_insert 23 = .ok (.aload_n 0, 1) := by decide +kernel
theorem dX7_insert_24 : decode cX7_insert 24 = .ok (.iload_n 1, 1) := by decide +kernel
theorem dX7_insert_25 : decode cX7_insert 25 = .ok (.invokevirtual 133, 3) := by decide +kernel
theorem dX7_insert_28 : decode cX7_insert 28 = .ok (.bipush 20, 2) := by decide +kernel
theorem dX7_insert_30 : decode cX7_insert 30 = .ok (.if_icmp .ne 10, 3) := by decide +kernel
theorem dX7_insert_33 : decode cX7_insert 33 = .ok (.aload_n 0, 1) := by decide +kernel
theorem dX7_insert_34 : decode cX7_insert 34 = .ok (.bipush (-6), 2) := by decide +kernel
theorem dX7_insert_36 : decode cX7_insert 36 = .ok (.invokevirtual 116, 3) := by decide +kernel
theorem dX7_insert_39 : decode cX7_insert 39 = .ok (.ireturn, 1) := by decide +kernel
theorem dX7_insert_40 : decode cX7_insert 40 = .ok (.aload_n 0, 1) := by decide +kernel
theorem dX7_insert_41 : decode cX7_insert 41 = .ok (.getfield 19, 3) := by decide +kernel
theorem dX7_insert_44 : decode cX7_insert 44 = .ok (.bipush 6, 2) := by decide +kernel
theorem dX7_insert_46 : decode cX7_insert 46 = .ok (.iload_n 1, 1) := by decide +kernel
theorem dX7_insert_47 : decode cX7_insert 47 = .ok (.imul, 1) := by decide +kernel
theorem dX7_insert_48 : decode cX7_insert 48 = .ok (.iload_n 2, 1) := by decide +kernel
theorem dX7_insert_49 : decode cX7_insert 49 = .ok (.iadd, 1) := by decide +kernel
theorem dX7_insert_50 : decode cX7_insert 50 = .ok (.dup2, 1) := by decide +kernel
theorem dX7_insert_51 : decode cX7_insert 51 = .ok (.iaload, 1) := by decide +kernel
theorem dX7_insert_52 : decode cX7_insert 52 = .ok (.iconst 1, 1) := by decide +kernel
theorem dX7_insert_53 : decode cX7_insert 53 = .ok (.iadd, 1) := by decide +kernel
theorem dX7_insert_54 : decode cX7_insert 54 = .ok (.iastore, 1) := by decide +kernel
theorem dX7_insert_55 : decode cX7_insert 55 = .ok (.aload_n 0, 1) := by decide +kernel
theorem dX7_insert_56 : decode cX7_insert 56 = .ok (.getfield 22, 3) := by decide +kernel
theorem dX7_insert_59 : decode cX7_insert 59 = .ok (.bipush 6, 2) := by decide +kernel
theorem dX7_insert_61 : decode cX7_insert 61 = .ok (.iload_n 1, 1) := by decide +kernel
theorem dX7_insert_62 : decode cX7_insert 62 = .ok (.imul, 1) := by decide +kernel
theorem dX7_insert_63 : decode cX7_insert 63 = .ok (.iload_n 2, 1) := by decide +kernel
theorem dX7_insert_64 : decode cX7_insert 64 = .ok (.iadd, 1) := by decide +kernel
theorem dX7_insert_65 : decode cX7_insert 65 = .ok (.dup2, 1) := by decide +kernel
theorem dX7_insert_66 : decode cX7_insert 66 = .ok (.iaload, 1) := by decide +kernel
theorem dX7_insert_67 : decode cX7_insert 67 = .ok (.iconst 1, 1) := by decide +kernel
theorem dX7_insert_68 : decode cX7_insert 68 = .ok (.iadd, 1) := by decide +kernel
theorem dX7_insert_69 : decode cX7_insert 69 = .ok (.iastore, 1) := by decide +kernel
theorem dX7_insert_70 : decode cX7_insert 70 = .ok (.aload_n 0, 1) := by decide +kernel
theorem dX7_insert_71 : decode cX7_insert 71 = .ok (.aload_n 0, 1) := by decide +kernel
theorem dX7_insert_72 : decode cX7_insert 72 = .ok (.getfield 19, 3) := by decide +kernel
theorem dX7_insert_75 : decode cX7_insert 75 = .ok (.iload_n 1, 1) := by decide +kernel
theorem dX7_insert_76 : decode cX7_insert 76 = .ok (.invokevirtual 136, 3) := by decide +kernel
theorem dX7_insert_79 : decode cX7_insert 79 = .ok (.ireturn, 1) := by decide +kernel
theorem dX7_allBack_0 : decode cX7_allBack 0 = .ok (.aload_n 0, 1) := by decide +kernel
theorem dX7_allBack_1 : decode cX7_allBack 1 = .ok (.aload_n 0, 1) := by decide +kernel
theorem dX7_allBack_2 : decode cX7_allBack 2 = .ok (.getfield 19, 3) := by decide +kernel
theorem dX7_allBack_5 : decode cX7_allBack 5 = .ok (.iload_n 1, 1) := by decide +kernel
theorem dX7_allBack_6 : decode cX7_allBack 6 = .ok (.invokevirtual 136, 3) := by decide +kernel
theorem dX7_allBack_9 : decode cX7_allBack 9 = .ok (.istore_n 2, 1) := by decide +kernel
theorem dX7_allBack_10 : decode cX7_allBack 10 = .ok (.iconst 0, 1) := by decide +kernel
theorem dX7_allBack_11 : decode cX7_allBack 11 = .ok (.istore_n 3, 1) := by decide +kernel
theorem dX7_allBack_12 : decode cX7_allBack 12 = .ok (.iload_n 3, 1) := by decide +kernel
theorem dX7_allBack_13 : decode cX7_allBack 13 = .ok (.bipush 6, 2) := by decide +kernel
theorem dX7_allBack_15 : decode cX7_allBack 15 = .ok (.if_icmp .ge 46, 3) := by decide +kernel
theorem dX7_allBack_18 : decode cX7_allBack 18 = .ok (.aload_n 0, 1) := by decide +kernel
theorem dX7_allBack_19 : decode cX7_allBack 19 = .ok (.getfield 25, 3) := by decide +kernel
theorem dX7_allBack_22 : decode cX7_allBack 22 = .ok (.bipush 6, 2) := by decide +kernel
theorem dX7_allBack_24 : decode cX7_allBack 24 = .ok (.iload_n 1, 1) := by decide +kernel
theorem dX7_allBack_25 : decode cX7_allBack 25 = .ok (.imul, 1) := by decide +kernel
theorem dX7_allBack_26 : decode cX7_allBack 26 = .ok (.iload_n 3, 1) := by decide +kernel
theorem dX7_allBack_27 : decode cX7_allBack 27 = .ok (.iadd, 1) := by decide +kernel
theorem dX7_allBack_28 : decode cX7_allBack 28 = .ok (.dup2, 1) := by decide +kernel
theorem dX7_allBack_29 : decode cX7_allBack 29 = .ok (.iaload, 1) := by decide +kernel
theorem dX7_allBack_30 : decode cX7_allBack 30 = .ok (.aload_n 0, 1) := by decide +kernel
theorem dX7_allBack_31 : decode cX7_allBack 31 = .ok (.getfield 19, 3) := by decide +kernel
theorem dX7_allBack_34 : decode cX7_allBack 34 = .ok (.bipush 6, 2) := by decide +kernel
theorem dX7_allBack_36 : decode cX7_allBack 36 = .ok (.iload_n 1, 1) := by decide +kernel
theorem dX7_allBack_37 : decode cX7_allBack 37 = .ok (.imul, 1) := by decide +kernel
theorem dX7_allBack_38 : decode cX7_allBack 38 = .ok (.iload_n 3, 1) := by decide +kernel
theorem dX7_allBack_39 : decode cX7_allBack 39 = .ok (.iadd, 1) := by decide +kernel
theorem dX7_allBack_40 : decode cX7_allBack 40 = .ok (.iaload, 1) := by decide +kernel
theorem dX7_allBack_41 : decode cX7_allBack 41 = .ok (.iadd, 1) := by decide +kernel
theorem dX7_allBack_42 : decode cX7_allBack 42 = .ok (.iastore, 1) := by decide +kernel
theorem dX7_allBack_43 : decode cX7_allBack 43 = .ok (.aload_n 0, 1) := by decide +kernel
theorem dX7_allBack_44 : decode cX7_allBack 44 = .ok (.getfield 19, 3) := by decide +kernel
theorem dX7_allBack_47 : decode cX7_allBack 47 = .ok (.bipush 6, 2) := by decide +kernel
theorem dX7_allBack_49 : decode cX7_allBack 49 = .ok (.iload_n 1, 1) := by decide +kernel
theorem dX7_allBack_50 : decode cX7_allBack 50 = .ok (.imul, 1) := by decide +kernel
theorem dX7_allBack_51 : decode cX7_allBack 51 = .ok (.iload_n 3, 1) := by decide +kernel
theorem dX7_allBack_52 : decode cX7_allBack 52 = .ok (.iadd, 1) := by decide +kernel
theorem dX7_allBack_53 : decode cX7_allBack 53 = .ok (.iconst 0, 1) := by decide +kernel
theorem dX7_allBack_54 : decode cX7_allBack 54 = .ok (.iastore, 1) := by decide +kernel
theorem dX7_allBack_55 : decode cX7_allBack 55 = .ok (.iinc 3 1, 3) := by decide +kernel
theorem dX7_allBack_58 : decode cX7_allBack 58 = .ok (.goto (-46), 3) := by decide +kernel
theorem dX7_allBack_61 : decode cX7_allBack 61 = .ok (.iload_n 2, 1) := by decide +kernel
theorem dX7_allBack_62 : decode cX7_allBack 62 = .ok (.ireturn, 1) := by decide +kernel
theorem dX7_back_0 : decode cX7_back 0 = .ok (.aload_n 0, 1) := by decide +kernel
theorem dX7_back_1 : decode cX7_back 1 = .ok (.iload_n 1, 1) := by decide +kernel
theorem dX7_back_2 : decode cX7_back 2 = .ok (.invokevirtual 112, 3) := by decide +kernel
theorem dX7_back_5 : decode cX7_back 5 = .ok (.ifCond .eq 11, 3) := by decide +kernel
theorem dX7_back_8 : decode cX7_back 8 = .ok (.aload_n 0, 1) := by decide +kernel
theorem dX7_back_9 : decode cX7_back 9 = .ok (.iload_n 1, 1) := by decide +kernel
theorem dX7_back_10 : decode cX7_back 10 = .ok (.invokevirtual 140, 3) := by decide +kernel
theorem dX7_back_13 : decode cX7_back 13 = .ok (.goto 8, 3) := by decide +kernel
theorem dX7_back_16 : decode cX7_back 16 = .ok (.aload_n 0, 1) := by decide +kernel
theorem dX7_back_17 : decode cX7_back 17 = .ok (.iconst (-1), 1) := by decide +kernel
theorem dX7_back_18 : decode cX7_back 18 = .ok (.invokevirtual 116, 3) := by decide +kernel
theorem dX7_back_21 : decode cX7_back 21 = .ok (.ireturn, 1) := by decide +kernel
theorem dX7_findChange_0 : decode cX7_findChange 0 = .ok (.iconst 0, 1) := by decide +kernel
theorem dX7_findChange_1 : decode cX7_findChange 1 = .ok (.istore_n 3, 1) := by decide +kernel
theorem dX7_findChange_2 : decode cX7_findChange 2 = .ok (.iload_n 3, 1) := by decide +kernel
theorem dX7_findChange_3 : decode cX7_findChange 3 = .ok (.bipush 6, 2) := by decide +kernel
theorem dX7_findChange_5 : decode cX7_findChange 5 = .ok (.if_icmp .ge 16, 3) := by decide +kernel
theorem dX7_findChange_8 : decode cX7_findChange 8 = .ok (.aload_n 0, 1) := by decide +kernel
theorem dX7_findChange_9 : decode cX7_findChange 9 = .ok (.getfield 98, 3) := by decide +kernel
theorem dX7_findChange_12 : decode cX7_findChange 12 = .ok (.iload_n 3, 1) := by decide +kernel
theorem dX7_findChange_13 : decode cX7_findChange 13 = .ok (.iconst 0, 1) := by decide +kernel
theorem dX7_findChange_14 : decode cX7_findChange 14 = .ok (.iastore, 1) := by decide +kernel
theorem dX7_findChange_15 : decode cX7_findChange 15 = .ok (.iinc 3 1, 3) := by decide +kernel
theorem dX7_findChange_18 : decode cX7_findChange 18 = .ok (.goto (-16), 3) := by decide +kernel
theorem dX7_findChange_21 : decode cX7_findChange 21 = .ok (.iload_n 2, 1) := by decide +kernel
theorem dX7_findChange_22 : decode cX7_findChange 22 = .ok (.bipush 10, 2) := by decide +kernel
theorem dX7_findChange_24 : decode cX7_findChange 24 = .ok (.irem, 1) := by decide +kernel
theorem dX7_findChange_25 : decode cX7_findChange 25 = .ok (.ifCond .eq 7, 3) := by decide +kernel
theorem dX7_findChange_28 : decode cX7_findChange 28 = .ok (.sipush 1000, 3) := by decide +kernel
theorem dX7_findChange_31 : decode cX7_findChange 31 = .ok (.ireturn, 1) := by decide +kernel
theorem dX7_findChange_32 : decode cX7_findChange 32 = .ok (.iload_n 2, 1) := by decide +kernel
theorem dX7_findChange_33 : decode cX7_findChange 33 = .ok (.bipush 10, 2) := by decide +kernel
theorem dX7_findChange_35 : decode cX7_findChange 35 = .ok (.idiv, 1) := by decide +kernel
theorem dX7_findChange_36 : decode cX7_findChange 36 = .ok (.istore_n 3, 1) := by decide +kernel
theorem dX7_findChange_37 : decode cX7_findChange 37 = .ok (.iconst 0, 1) := by decide +kernel
theorem dX7_findChange_38 : decode cX7_findChange 38 = .ok (.istore 4, 2) := by decide +kernel
theorem dX7_findChange_40 : decode cX7_findChange 40 = .ok (.iload 4, 2) := by decide +kernel
theorem dX7_findChange_42 : decode cX7_findChange 42 = .ok (.iload_n 3, 1) := by decide +kernel
theorem dX7_findChange_43 : decode cX7_findChange 43 = .ok (.if_icmp .gt 32, 3) := by decide +kernel
theorem dX7_findChange_46 : decode cX7_findChange 46 = .ok (.aload_n 0, 1) := by decide +kernel
theorem dX7_findChange_47 : decode cX7_findChange 47 = .ok (.getfield 95, 3) := by decide +kernel
theorem dX7_findChange_50 : decode cX7_findChange 50 = .ok (.sipush 12006, 3) := by decide +kernel
theorem dX7_findChange_53 : decode cX7_findChange 53 = .ok (.iload 4, 2) := by decide +kernel
theorem dX7_findChange_55 : decode cX7_findChange 55 = .ok (.iadd, 1) := by decide +kernel
theorem dX7_findChange_56 : decode cX7_findChange 56 = .ok (.iload 4, 2) := by decide +kernel
theorem dX7_findChange_58 : decode cX7_findChange 58 = .ok (.ifCond .ne 7, 3) := by decide +kernel
theorem dX7_findChange_61 : decode cX7_findChange 61 = .ok (.iconst 0, 1) := by decide +kernel
theorem dX7_findChange_62 : decode cX7_findChange 62 = .ok (.goto 6, 3) := by decide +kernel
theorem dX7_findChange_65 : decode cX7_findChange 65 = .ok (.sipush 1000, 3) := by decide +kernel
theorem dX7_findChange_68 : decode cX7_findChange 68 = .ok (.iastore, 1) := by decide +kernel
theorem dX7_findChange_69 : decode cX7_findChange 69 = .ok (.iinc 4 1, 3) := by decide +kernel
theorem dX7_findChange_72 : decode cX7_findChange 72 = .ok (.goto (-32), 3) := by decide +kernel
theorem dX7_findChange_75 : decode cX7_findChange 75 = .ok (.iconst 5, 1) := by decide +kernel
theorem dX7_findChange_76 : decode cX7_findChange 76 = .ok (.istore 4, 2) := by decide +kernel
theorem dX7_findChange_78 : decode cX7_findChange 78 = .ok (.iload 4, 2) := by decide +kernel
theorem dX7_findChange_80 : decode cX7_findChange 80 = .ok (.ifCond .lt 151, 3) := by decide +kernel
theorem dX7_findChange_83 : decode cX7_findChange 83 = .ok (.aload_n 0, 1) := by decide +kernel
theorem dX7_findChange_84 : decode cX7_findChange 84 = .ok (.getfield 13, 3) := by decide +kernel
theorem dX7_findChange_87 : decode cX7_findChange 87 = .ok (.bipush 6, 2) := by decide +kernel
theorem dX7_findChange_89 : decode cX7_findChange 89 = .ok (.iload_n 1, 1) := by decide +kernel
theorem dX7_findChange_90 : decode cX7_findChange 90 = .ok (.imul, 1) := by decide +kernel
theorem dX7_findChange_91 : decode cX7_findChange 91 = .ok (.iload 4, 2) := by decide +kernel
theorem dX7_findChange_93 : decode cX7_findChange 93 = .ok (.iadd, 1) := by decide +kernel
theorem dX7_findChange_94 : decode cX7_findChange 94 = .ok (.iaload, 1) := by decide +kernel
theorem dX7_findChange_95 : decode cX7_findChange 95 = .ok (.aload_n 0, 1) := by decide +kernel
theorem dX7_findChange_96 : decode cX7_findChange 96 = .ok (.getfield 19, 3) := by decide +kernel
theorem dX7_findChange_99 : decode cX7_findChange 99 = .ok (.bipush 6, 2) := by decide +kernel
theorem dX7_findChange_101 : decode cX7_findChange 101 = .ok (.iload_n 1, 1) := by decide +kernel
theorem dX7_findChange_102 : decode cX7_findChange 102 = .ok (.imul, 1) := by decide +kernel
theorem dX7_findChange_103 : decode cX7_findChange 103 = .ok (.iload 4, 2) := by decide +kernel
theorem dX7_findChange_105 : decode cX7_findChange 105 = .ok (.iadd, 1) := by decide +kernel
theorem dX7_findChange_106 : decode cX7_findChange 106 = .ok (.iaload, 1) := by decide +kernel
theorem dX7_findChange_107 : decode cX7_findChange 107 = .ok (.iadd, 1) := by decide +kernel
theorem dX7_findChange_108 : decode cX7_findChange 108 = .ok (.istore 5, 2) := by decide +kernel
theorem dX7_findChange_110 : decode cX7_findChange 110 = .ok (.iload 4, 2) := by decide +kernel
theorem dX7_findChange_112 : decode cX7_findChange 112 = .ok (.invokestatic 130, 3) := by decide +kernel
theorem dX7_findChange_115 : decode cX7_findChange 115 = .ok (.bipush 10, 2) := by decide +kernel
theorem dX7_findChange_117 : decode cX7_findChange 117 = .ok (.idiv, 1) := by decide +kernel
theorem dX7_findChange_118 : decode cX7_findChange 118 = .ok (.istore 6, 2) := by decide +kernel
theorem dX7_findChange_120 : decode cX7_findChange 120 = .ok (.iconst 0, 1) := by decide +kernel
theorem dX7_findChange_121 : decode cX7_findChange 121 = .ok (.istore 7, 2) := by decide +kernel
theorem dX7_findChange_123 : decode cX7_findChange 123 = .ok (.iload 7, 2) := by decide +kernel
theorem dX7_findChange_125 : decode cX7_findChange 125 = .ok (.iload_n 3, 1) := by decide +kernel
theorem dX7_findChange_126 : decode cX7_findChange 126 = .ok (.if_icmp .gt 99, 3) := by decide +kernel
theorem dX7_findChange_129 : decode cX7_findChange 129 = .ok (.sipush 1000, 3) := by decide +kernel
theorem dX7_findChange_132 : decode cX7_findChange 132 = .ok (.istore 8, 2) := by decide +kernel
theorem dX7_findChange_134 : decode cX7_findChange 134 = .ok (.iconst 0, 1) := by decide +kernel
theorem dX7_findChange_135 : decode cX7_findChange 135 = .ok (.istore 9, 2) := by decide +kernel
theorem dX7_findChange_137 : decode cX7_findChange 137 = .ok (.iload 9, 2) := by decide +kernel
theorem dX7_findChange_139 : decode cX7_findChange 139 = .ok (.iload 5, 2) := by decide +kernel
theorem dX7_findChange_141 : decode cX7_findChange 141 = .ok (.if_icmp .gt 62, 3) := by decide +kernel
theorem dX7_findChange_144 : decode cX7_findChange 144 = .ok (.iload 9, 2) := by decide +kernel
theorem dX7_findChange_146 : decode cX7_findChange 146 = .ok (.iload 6, 2) := by decide +kernel
theorem dX7_findChange_148 : decode cX7_findChange 148 = .ok (.imul, 1) := by decide +kernel
theorem dX7_findChange_149 : decode cX7_findChange 149 = .ok (.iload 7, 2) := by decide +kernel
theorem dX7_findChange_151 : decode cX7_findChange 151 = .ok (.if_icmp .gt 52, 3) := by decide +kernel
theorem dX7_findChange_154 : decode cX7_findChange 154 = .ok (.iload 9, 2) := by decide +kernel
theorem dX7_findChange_156 : decode cX7_findChange 156 = .ok (.aload_n 0, 1) := by decide +kernel
theorem dX7_findChange_157 : decode cX7_findChange 157 = .ok (.getfield 95, 3) := by decide +kernel
theorem dX7_findChange_160 : decode cX7_findChange 160 = .ok (.sipush 2001, 3) := by decide +kernel
theorem dX7_findChange_163 : decode cX7_findChange 163 = .ok (.iload 4, 2) := by decide +kernel
theorem dX7_findChange_165 : decode cX7_findChange 165 = .ok (.iconst 1, 1) := by decide +kernel
theorem dX7_findChange_166 : decode cX7_findChange 166 = .ok (.iadd, 1) := by decide +kernel
theorem dX7_findChange_167 : decode cX7_findChange 167 = .ok (.imul, 1) := by decide +kernel
theorem dX7_findChange_168 : decode cX7_findChange 168 = .ok (.iload 7, 2) := by decide +kernel
theorem dX7_findChange_170 : decode cX7_findChange 170 = .ok (.iadd, 1) := by decide +kernel
theorem dX7_findChange_171 : decode cX7_findChange 171 = .ok (.iload 9, 2) := by decide +kernel
theorem dX7_findChange_173 : decode cX7_findChange 173 = .ok (.iload 6, 2) := by decide +kernel
theorem dX7_findChange_175 : decode cX7_findChange 175 = .ok (.imul, 1) := by decide +kernel
theorem dX7_findChange_176 : decode cX7_findChange 176 = .ok (.isub, 1) := by decide +kernel
theorem dX7_findChange_177 : decode cX7_findChange 177 = .ok (.iaload, 1) := by decide +kernel
theorem dX7_findChange_178 : decode cX7_findChange 178 = .ok (.iadd, 1) := by decide +kernel
theorem dX7_findChange_179 : decode cX7_findChange 179 = .ok (.istore 10, 2) := by decide +kernel
theorem dX7_findChange_181 : decode cX7_findChange 181 = .ok (.iload 10, 2) := by decide +kernel
theorem dX7_findChange_183 : decode cX7_findChange 183 = .ok (.iload 8, 2) := by decide +kernel
theorem dX7_findChange_185 : decode cX7_findChange 185 = .ok (.if_icmp .ge 8, 3) := by decide +kernel
theorem dX7_findChange_188 : decode cX7_findChange 188 = .ok (.iload 10, 2) := by decide +kernel
theorem dX7_findChange_190 : decode cX7_findChange 190 = .ok (.goto 5, 3) := by decide +kernel
theorem dX7_findChange_193 : decode cX7_findChange 193 = .ok (.iload 8, 2) := by decide +kernel
theorem dX7_findChange_195 : decode cX7_findChange 195 = .ok (.istore 8, 2) := by decide +kernel
theorem dX7_findChange_197 : decode cX7_findChange 197 = .ok (.iinc 9 1, 3) := by decide +kernel
theorem dX7_findChange_200 : decode cX7_findChange 200 = .ok (.goto (-63), 3) := by decide +kernel
theorem dX7_findChange_203 : decode cX7_findChange 203 = .ok (.aload_n 0, 1) := by decide +kernel
theorem dX7_findChange_204 : decode cX7_findChange 204 = .ok (.getfield 95, 3) := by decide +kernel
theorem dX7_findChange_207 : decode cX7_findChange 207 = .ok (.sipush 2001, 3) := by decide +kernel
theorem dX7_findChange_210 : decode cX7_findChange 210 = .ok (.iload 4, 2) := by decide +kernel
theorem dX7_findChange_212 : decode cX7_findChange 212 = .ok (.imul, 1) := by decide +kernel
theorem dX7_findChange_213 : decode cX7_findChange 213 = .ok (.iload 7, 2) := by decide +kernel
theorem dX7_findChange_215 : decode cX7_findChange 215 = .ok (.iadd, 1) := by decide +kernel
theorem dX7_findChange_216 : decode cX7_findChange 216 = .ok (.iload 8, 2) := by decide +kernel
theorem dX7_findChange_218 : decode cX7_findChange 218 = .ok (.iastore, 1) := by decide +kernel
theorem dX7_findChange_219 : decode cX7_findChange 219 = .ok (.iinc 7 1, 3) := by decide +kernel
theorem dX7_findChange_222 : decode cX7_findChange 222 = .ok (.goto (-99), 3) := by decide +kernel
theorem dX7_findChange_225 : decode cX7_findChange 225 = .ok (.iinc 4 (-1), 3) := by decide +kernel
theorem dX7_findChange_228 : decode cX7_findChange 228 = .ok (.goto (-150), 3) := by decide +kernel
theorem dX7_findChange_231 : decode cX7_findChange 231 = .ok (.iload_n 3, 1) := by decide +kernel
theorem dX7_findChange_232 : decode cX7_findChange 232 = .ok (.istore 4, 2) := by decide +kernel
theorem dX7_findChange_234 : decode cX7_findChange 234 = .ok (.iconst 0, 1) := by decide +kernel
theorem dX7_findChange_235 : decode cX7_findChange 235 = .ok (.istore 5, 2) := by decide +kernel
theorem dX7_findChange_237 : decode cX7_findChange 237 = .ok (.iload 5, 2) := by decide +kernel
theorem dX7_findChange_239 : decode cX7_findChange 239 = .ok (.bipush 6, 2) := by decide +kernel
theorem dX7_findChange_241 : decode cX7_findChange 241 = .ok (.if_icmp .ge 147, 3) := by decide +kernel
theorem dX7_findChange_244 : decode cX7_findChange 244 = .ok (.aload_n 0, 1) := by decide +kernel
theorem dX7_findChange_245 : decode cX7_findChange 245 = .ok (.getfield 95, 3) := by decide +kernel
theorem dX7_findChange_248 : decode cX7_findChange 248 = .ok (.iload_n 3, 1) := by decide +kernel
theorem dX7_findChange_249 : decode cX7_findChange 249 = .ok (.iaload, 1) := by decide +kernel
theorem dX7_findChange_250 : decode cX7_findChange 250 = .ok (.sipush 1000, 3) := by decide +kernel
theorem dX7_findChange_253 : decode cX7_findChange 253 = .ok (.if_icmp .ge 135, 3) := by decide +kernel
theorem dX7_findChange_256 : decode cX7_findChange 256 = .ok (.aload_n 0, 1) := by decide +kernel
theorem dX7_findChange_257 : decode cX7_findChange 257 = .ok (.getfield 13, 3) := by decide +kernel
theorem dX7_findChange_260 : decode cX7_findChange 260 = .ok (.bipush 6, 2) := by decide +kernel
theorem dX7_findChange_262 : decode cX7_findChange 262 = .ok (.iload_n 1, 1) := by decide +kernel
theorem dX7_findChange_263 : decode cX7_findChange 263 = .ok (.imul, 1) := by decide +kernel
theorem dX7_findChange_264 : decode cX7_findChange 264 = .ok (.iload 5, 2) := by decide +kernel
theorem dX7_findChange_266 : decode cX7_findChange 266 = .ok (.iadd, 1) := by decide +kernel
theorem dX7_findChange_267 : decode cX7_findChange 267 = .ok (.iaload, 1) := by decide +kernel
theorem dX7_findChange_268 : decode cX7_findChange 268 = .ok (.aload_n 0, 1) := by decide +kernel
theorem dX7_findChange_269 : decode cX7_findChange 269 = .ok (.getfield 19, 3) := by decide +kernel
theorem dX7_findChange_272 : decode cX7_findChange 272 = .ok (.bipush 6, 2) := by decide +kernel
theorem dX7_findChange_274 : decode cX7_findChange 274 = .ok (.iload_n 1, 1) := by decide +kernel
theorem dX7_findChange_275 : decode cX7_findChange 275 = .ok (.imul, 1) := by decide +kernel
theorem dX7_findChange_276 : decode cX7_findChange 276 = .ok (.iload 5, 2) := by decide +kernel
theorem dX7_findChange_278 : decode cX7_findChange 278 = .ok (.iadd, 1) := by decide +kernel
theorem dX7_findChange_279 : decode cX7_findChange 279 = .ok (.iaload, 1) := by decide +kernel
theorem dX7_findChange_280 : decode cX7_findChange 280 = .ok (.iadd, 1) := by decide +kernel
theorem dX7_findChange_281 : decode cX7_findChange 281 = .ok (.istore 6, 2) := by decide +kernel
theorem dX7_findChange_283 : decode cX7_findChange 283 = .ok (.iload 5, 2) := by decide +kernel
theorem dX7_findChange_285 : decode cX7_findChange 285 = .ok (.invokestatic 130, 3) := by decide +kernel
theorem dX7_findChange_288 : decode cX7_findChange 288 = .ok (.bipush 10, 2) := by decide +kernel
theorem dX7_findChange_290 : decode cX7_findChange 290 = .ok (.idiv, 1) := by decide +kernel
theorem dX7_findChange_291 : decode cX7_findChange 291 = .ok (.istore 7, 2) := by decide +kernel
theorem dX7_findChange_293 : decode cX7_findChange 293 = .ok (.iload 6, 2) := by decide +kernel
theorem dX7_findChange_295 : decode cX7_findChange 295 = .ok (.iload 4, 2) := by decide +kernel
theorem dX7_findChange_297 : decode cX7_findChange 297 = .ok (.iload 7, 2) := by decide +kernel
theorem dX7_findChange_299 : decode cX7_findChange 299 = .ok (.idiv, 1) := by decide +kernel
theorem dX7_findChange_300 : decode cX7_findChange 300 = .ok (.if_icmp .ge 8, 3) := by decide +kernel
theorem dX7_findChange_303 : decode cX7_findChange 303 = .ok (.iload 6, 2) := by decide +kernel
theorem dX7_findChange_305 : decode cX7_findChange 305 = .ok (.goto 8, 3) := by decide +kernel
theorem dX7_findChange_308 : decode cX7_findChange 308 = .ok (.iload 4, 2) := by decide +kernel
theorem dX7_findChange_310 : decode cX7_findChange 310 = .ok (.iload 7, 2) := by decide +kernel
theorem dX7_findChange_312 : decode cX7_findChange 312 = .ok (.idiv, 1) := by decide +kernel
theorem dX7_findChange_313 : decode cX7_findChange 313 = .ok (.istore 8, 2) := by decide +kernel
theorem dX7_findChange_315 : decode cX7_findChange 315 = .ok (.iload 8, 2) := by decide +kernel
theorem dX7_findChange_317 : decode cX7_findChange 317 = .ok (.aload_n 0, 1) := by decide +kernel
theorem dX7_findChange_318 : decode cX7_findChange 318 = .ok (.getfield 95, 3) := by decide +kernel
theorem dX7_findChange_321 : decode cX7_findChange 321 = .ok (.sipush 2001, 3) := by decide +kernel
theorem dX7_findChange_324 : decode cX7_findChange 324 = .ok (.iload 5, 2) := by decide +kernel
theorem dX7_findChange_326 : decode cX7_findChange 326 = .ok (.iconst 1, 1) := by decide +kernel
theorem dX7_findChange_327 : decode cX7_findChange 327 = .ok (.iadd, 1) := by decide +kernel
theorem dX7_findChange_328 : decode cX7_findChange 328 = .ok (.imul, 1) := by decide +kernel
theorem dX7_findChange_329 : decode cX7_findChange 329 = .ok (.iload 4, 2) := by decide +kernel
theorem dX7_findChange_331 : decode cX7_findChange 331 = .ok (.iadd, 1) := by decide +kernel
theorem dX7_findChange_332 : decode cX7_findChange 332 = .ok (.iload 8, 2) := by decide +kernel
theorem dX7_findChange_334 : decode cX7_findChange 334 = .ok (.iload 7, 2) := by decide +kernel
theorem dX7_findChange_336 : decode cX7_findChange 336 = .ok (.imul, 1) := by decide +kernel
theorem dX7_findChange_337 : decode cX7_findChange 337 = .ok (.isub, 1) := by decide +kernel
theorem dX7_findChange_338 : decode cX7_findChange 338 = .ok (.iaload, 1) := by decide +kernel
theorem dX7_findChange_339 : decode cX7_findChange 339 = .ok (.iadd, 1) := by decide +kernel
theorem dX7_findChange_340 : decode cX7_findChange 340 = .ok (.aload_n 0, 1) := by decide +kernel
theorem dX7_findChange_341 : decode cX7_findChange 341 = .ok (.getfield 95, 3) := by decide +kernel
theorem dX7_findChange_344 : decode cX7_findChange 344 = .ok (.sipush 2001, 3) := by decide +kernel
theorem dX7_findChange_347 : decode cX7_findChange 347 = .ok (.iload 5, 2) := by decide +kernel
theorem dX7_findChange_349 : decode cX7_findChange 349 = .ok (.imul, 1) := by decide +kernel
theorem dX7_findChange_350 : decode cX7_findChange 350 = .ok (.iload 4, 2) := by decide +kernel
theorem dX7_findChange_352 : decode cX7_findChange 352 = .ok (.iadd, 1) := by decide +kernel
theorem dX7_findChange_353 : decode cX7_findChange 353 = .ok (.iaload, 1) := by decide +kernel
theorem dX7_findChange_354 : decode cX7_findChange 354 = .ok (.if_icmp .eq 9, 3) := by decide +kernel
theorem dX7_findChange_357 : decode cX7_findChange 357 = .ok (.iinc 8 (-1), 3) := by decide +kernel
theorem dX7_findChange_360 : decode cX7_findChange 360 = .ok (.goto (-45), 3) := by decide +kernel
theorem dX7_findChange_363 : decode cX7_findChange 363 = .ok (.aload_n 0, 1) := by decide +kernel
theorem dX7_findChange_364 : decode cX7_findChange 364 = .ok (.getfield 98, 3) := by decide +kernel
theorem dX7_findChange_367 : decode cX7_findChange 367 = .ok (.iload 5, 2) := by decide +kernel
theorem dX7_findChange_369 : decode cX7_findChange 369 = .ok (.iload 8, 2) := by decide +kernel
theorem dX7_findChange_371 : decode cX7_findChange 371 = .ok (.iastore, 1) := by decide +kernel
theorem dX7_findChange_372 : decode cX7_findChange 372 = .ok (.iload 4, 2) := by decide +kernel
theorem dX7_findChange_374 : decode cX7_findChange 374 = .ok (.iload 8, 2) := by decide +kernel
theorem dX7_findChange_376 : decode cX7_findChange 376 = .ok (.iload 7, 2) := by decide +kernel
theorem dX7_findChange_378 : decode cX7_findChange 378 = .ok (.imul, 1) := by decide +kernel
theorem dX7_findChange_379 : decode cX7_findChange 379 = .ok (.isub, 1) := by decide +kernel
theorem dX7_findChange_380 : decode cX7_findChange 380 = .ok (.istore 4, 2) := by decide +kernel
theorem dX7_findChange_382 : decode cX7_findChange 382 = .ok (.iinc 5 1, 3) := by decide +kernel
theorem dX7_findChange_385 : decode cX7_findChange 385 = .ok (.goto (-148), 3) := by decide +kernel
theorem dX7_findChange_388 : decode cX7_findChange 388 = .ok (.aload_n 0, 1) := by decide +kernel
theorem dX7_findChange_389 : decode cX7_findChange 389 = .ok (.getfield 95, 3) := by decide +kernel
theorem dX7_findChange_392 : decode cX7_findChange 392 = .ok (.iload_n 3, 1) := by decide +kernel
theorem dX7_findChange_393 : decode cX7_findChange 393 = .ok (.iaload, 1) := by decide +kernel
theorem dX7_findChange_394 : decode cX7_findChange 394 = .ok (.ireturn, 1) := by decide +kernel
theorem dX7_change_0 : decode cX7_change 0 = .ok (.aload_n 0, 1) := by decide +kernel
theorem dX7_change_1 : decode cX7_change 1 = .ok (.iload_n 1, 1) := by decide +kernel
theorem dX7_change_2 : decode cX7_change 2 = .ok (.invokevirtual 112, 3) := by decide +kernel
theorem dX7_change_5 : decode cX7_change 5 = .ok (.ifCond .ne 9, 3) := by decide +kernel
theorem dX7_change_8 : decode cX7_change 8 = .ok (.aload_n 0, 1) := by decide +kernel
theorem dX7_change_9 : decode cX7_change 9 = .ok (.iconst (-1), 1) := by decide +kernel
theorem dX7_change_10 : decode cX7_change 10 = .ok (.invokevirtual 116, 3) := by decide +kernel
theorem dX7_change_13 : decode cX7_change 13 = .ok (.ireturn, 1) := by decide +kernel
theorem dX7_change_14 : decode cX7_change 14 = .ok (.iload_n 2, 1) := by decide +kernel
theorem dX7_change_15 : decode cX7_change 15 = .ok (.ifCond .ge 10, 3) := by decide +kernel
theorem dX7_change_18 : decode cX7_change 18 = .ok (.aload_n 0, 1) := by decide +kernel
theorem dX7_change_19 : decode cX7_change 19 = .ok (.bipush (-4), 2) := by decide +kernel
theorem dX7_change_21 : decode cX7_change 21 = .ok (.invokevirtual 116, 3) := by decide +kernel
theorem dX7_change_24 : decode cX7_change 24 = .ok (.ireturn, 1) := by decide +kernel
theorem dX7_change_25 : decode cX7_change 25 = .ok (.iload_n 2, 1) := by decide +kernel
theorem dX7_change_26 : decode cX7_change 26 = .ok (.sipush 20000, 3) := by decide +kernel
theorem dX7_change_29 : decode cX7_change 29 = .ok (.if_icmp .le 10, 3) := by decide +kernel
end
section
theorem dX7_change_32 : decode cX7_change 32 = .ok (.aload_n 0, 1) := by decide +kernel
theorem dX7_change_33 : decode cX7_change 33 = .ok (.bipush (-6), 2) := by decide +kernel
theorem dX7_change_35 : decode cX7_change 35 = .ok (.invokevirtual 116, 3) := by decide +kernel
theorem dX7_change_38 : decode cX7_change 38 = .ok (.ireturn, 1) := by decide +kernel
theorem dX7_change_39 : decode cX7_change 39 = .ok (.aload_n 0, 1) := by decide +kernel
theorem dX7_change_40 : decode cX7_change 40 = .ok (.iload_n 1, 1) := by decide +kernel
theorem dX7_change_41 : decode cX7_change 41 = .ok (.iload_n 2, 1) := by decide +kernel
theorem dX7_change_42 : decode cX7_change 42 = .ok (.invokevirtual 143, 3) := by decide +kernel
theorem dX7_change_45 : decode cX7_change 45 = .ok (.istore_n 3, 1) := by decide +kernel
theorem dX7_change_46 : decode cX7_change 46 = .ok (.iload_n 3, 1) := by decide +kernel
theorem dX7_change_47 : decode cX7_change 47 = .ok (.sipush 1000, 3) := by decide +kernel
theorem dX7_change_50 : decode cX7_change 50 = .ok (.if_icmp .ge 7, 3) := by decide +kernel
theorem dX7_change_53 : decode cX7_change 53 = .ok (.iload_n 3, 1) := by decide +kernel
theorem dX7_change_54 : decode cX7_change 54 = .ok (.goto 5, 3) := by decide +kernel
theorem dX7_change_57 : decode cX7_change 57 = .ok (.bipush (-9), 2) := by decide +kernel
theorem dX7_change_59 : decode cX7_change 59 = .ok (.ireturn, 1) := by decide +kernel
theorem dX7_choose_0 : decode cX7_choose 0 = .ok (.aload_n 0, 1) := by decide +kernel
theorem dX7_choose_1 : decode cX7_choose 1 = .ok (.iload_n 1, 1) := by decide +kernel
theorem dX7_choose_2 : decode cX7_choose 2 = .ok (.iload_n 2, 1) := by decide +kernel
theorem dX7_choose_3 : decode cX7_choose 3 = .ok (.invokevirtual 123, 3) := by decide +kernel
theorem dX7_choose_6 : decode cX7_choose 6 = .ok (.ifCond .ne 9, 3) := by decide +kernel
theorem dX7_choose_9 : decode cX7_choose 9 = .ok (.aload_n 0, 1) := by decide +kernel
theorem dX7_choose_10 : decode cX7_choose 10 = .ok (.iconst (-1), 1) := by decide +kernel
theorem dX7_choose_11 : decode cX7_choose 11 = .ok (.invokevirtual 116, 3) := by decide +kernel
theorem dX7_choose_14 : decode cX7_choose 14 = .ok (.ireturn, 1) := by decide +kernel
theorem dX7_choose_15 : decode cX7_choose 15 = .ok (.bipush 8, 2) := by decide +kernel
theorem dX7_choose_17 : decode cX7_choose 17 = .ok (.iload_n 1, 1) := by decide +kernel
theorem dX7_choose_18 : decode cX7_choose 18 = .ok (.imul, 1) := by decide +kernel
theorem dX7_choose_19 : decode cX7_choose 19 = .ok (.iload_n 2, 1) := by decide +kernel
theorem dX7_choose_20 : decode cX7_choose 20 = .ok (.iadd, 1) := by decide +kernel
theorem dX7_choose_21 : decode cX7_choose 21 = .ok (.istore_n 3, 1) := by decide +kernel
theorem dX7_choose_22 : decode cX7_choose 22 = .ok (.aload_n 0, 1) := by decide +kernel
theorem dX7_choose_23 : decode cX7_choose 23 = .ok (.iload_n 1, 1) := by decide +kernel
theorem dX7_choose_24 : decode cX7_choose 24 = .ok (.iload_n 2, 1) := by decide +kernel
theorem dX7_choose_25 : decode cX7_choose 25 = .ok (.invokevirtual 147, 3) := by decide +kernel
theorem dX7_choose_28 : decode cX7_choose 28 = .ok (.ifCond .ne 10, 3) := by decide +kernel
theorem dX7_choose_31 : decode cX7_choose 31 = .ok (.aload_n 0, 1) := by decide +kernel
theorem dX7_choose_32 : decode cX7_choose 32 = .ok (.bipush (-3), 2) := by decide +kernel
theorem dX7_choose_34 : decode cX7_choose 34 = .ok (.invokevirtual 116, 3) := by decide +kernel
theorem dX7_choose_37 : decode cX7_choose 37 = .ok (.ireturn, 1) := by decide +kernel
theorem dX7_choose_38 : decode cX7_choose 38 = .ok (.aload_n 0, 1) := by decide +kernel
theorem dX7_choose_39 : decode cX7_choose 39 = .ok (.aload_n 0, 1) := by decide +kernel
theorem dX7_choose_40 : decode cX7_choose 40 = .ok (.getfield 19, 3) := by decide +kernel
theorem dX7_choose_43 : decode cX7_choose 43 = .ok (.iload_n 1, 1) := by decide +kernel
theorem dX7_choose_44 : decode cX7_choose 44 = .ok (.invokevirtual 136, 3) := by decide +kernel
theorem dX7_choose_47 : decode cX7_choose 47 = .ok (.aload_n 0, 1) := by decide +kernel
theorem dX7_choose_48 : decode cX7_choose 48 = .ok (.getfield 38, 3) := by decide +kernel
theorem dX7_choose_51 : decode cX7_choose 51 = .ok (.iload_n 3, 1) := by decide +kernel
theorem dX7_choose_52 : decode cX7_choose 52 = .ok (.iaload, 1) := by decide +kernel
theorem dX7_choose_53 : decode cX7_choose 53 = .ok (.isub, 1) := by decide +kernel
theorem dX7_choose_54 : decode cX7_choose 54 = .ok (.istore 4, 2) := by decide +kernel
theorem dX7_choose_56 : decode cX7_choose 56 = .ok (.iload 4, 2) := by decide +kernel
theorem dX7_choose_58 : decode cX7_choose 58 = .ok (.ifCond .ge 10, 3) := by decide +kernel
theorem dX7_choose_61 : decode cX7_choose 61 = .ok (.aload_n 0, 1) := by decide +kernel
theorem dX7_choose_62 : decode cX7_choose 62 = .ok (.bipush (-5), 2) := by decide +kernel
theorem dX7_choose_64 : decode cX7_choose 64 = .ok (.invokevirtual 116, 3) := by decide +kernel
theorem dX7_choose_67 : decode cX7_choose 67 = .ok (.ireturn, 1) := by decide +kernel
theorem dX7_choose_68 : decode cX7_choose 68 = .ok (.aload_n 0, 1) := by decide +kernel
theorem dX7_choose_69 : decode cX7_choose 69 = .ok (.iload_n 1, 1) := by decide +kernel
theorem dX7_choose_70 : decode cX7_choose 70 = .ok (.iload 4, 2) := by decide +kernel
theorem dX7_choose_72 : decode cX7_choose 72 = .ok (.invokevirtual 143, 3) := by decide +kernel
theorem dX7_choose_75 : decode cX7_choose 75 = .ok (.sipush 1000, 3) := by decide +kernel
theorem dX7_choose_78 : decode cX7_choose 78 = .ok (.if_icmp .lt 10, 3) := by decide +kernel
theorem dX7_choose_81 : decode cX7_choose 81 = .ok (.aload_n 0, 1) := by decide +kernel
theorem dX7_choose_82 : decode cX7_choose 82 = .ok (.bipush (-6), 2) := by decide +kernel
theorem dX7_choose_84 : decode cX7_choose 84 = .ok (.invokevirtual 116, 3) := by decide +kernel
theorem dX7_choose_87 : decode cX7_choose 87 = .ok (.ireturn, 1) := by decide +kernel
theorem dX7_choose_88 : decode cX7_choose 88 = .ok (.aload_n 0, 1) := by decide +kernel
theorem dX7_choose_89 : decode cX7_choose 89 = .ok (.getfield 53, 3) := by decide +kernel
theorem dX7_choose_92 : decode cX7_choose 92 = .ok (.iload_n 3, 1) := by decide +kernel
theorem dX7_choose_93 : decode cX7_choose 93 = .ok (.iaload, 1) := by decide +kernel
theorem dX7_choose_94 : decode cX7_choose 94 = .ok (.ifCond .le 64, 3) := by decide +kernel
theorem dX7_choose_97 : decode cX7_choose 97 = .ok (.aload_n 0, 1) := by decide +kernel
theorem dX7_choose_98 : decode cX7_choose 98 = .ok (.getfield 53, 3) := by decide +kernel
theorem dX7_choose_101 : decode cX7_choose 101 = .ok (.iload_n 3, 1) := by decide +kernel
theorem dX7_choose_102 : decode cX7_choose 102 = .ok (.dup2, 1) := by decide +kernel
theorem dX7_choose_103 : decode cX7_choose 103 = .ok (.iaload, 1) := by decide +kernel
theorem dX7_choose_104 : decode cX7_choose 104 = .ok (.iconst 1, 1) := by decide +kernel
theorem dX7_choose_105 : decode cX7_choose 105 = .ok (.isub, 1) := by decide +kernel
theorem dX7_choose_106 : decode cX7_choose 106 = .ok (.iastore, 1) := by decide +kernel
theorem dX7_choose_107 : decode cX7_choose 107 = .ok (.aload_n 0, 1) := by decide +kernel
theorem dX7_choose_108 : decode cX7_choose 108 = .ok (.getfield 56, 3) := by decide +kernel
theorem dX7_choose_111 : decode cX7_choose 111 = .ok (.iload_n 3, 1) := by decide +kernel
theorem dX7_choose_112 : decode cX7_choose 112 = .ok (.dup2, 1) := by decide +kernel
theorem dX7_choose_113 : decode cX7_choose 113 = .ok (.iaload, 1) := by decide +kernel
theorem dX7_choose_114 : decode cX7_choose 114 = .ok (.iconst 1, 1) := by decide +kernel
theorem dX7_choose_115 : decode cX7_choose 115 = .ok (.iadd, 1) := by decide +kernel
theorem dX7_choose_116 : decode cX7_choose 116 = .ok (.iastore, 1) := by decide +kernel
theorem dX7_choose_117 : decode cX7_choose 117 = .ok (.aload_n 0, 1) := by decide +kernel
theorem dX7_choose_118 : decode cX7_choose 118 = .ok (.getfield 59, 3) := by decide +kernel
theorem dX7_choose_121 : decode cX7_choose 121 = .ok (.iload_n 3, 1) := by decide +kernel
theorem dX7_choose_122 : decode cX7_choose 122 = .ok (.aload_n 0, 1) := by decide +kernel
theorem dX7_choose_123 : decode cX7_choose 123 = .ok (.getfield 56, 3) := by decide +kernel
theorem dX7_choose_126 : decode cX7_choose 126 = .ok (.iload_n 3, 1) := by decide +kernel
theorem dX7_choose_127 : decode cX7_choose 127 = .ok (.iaload, 1) := by decide +kernel
theorem dX7_choose_128 : decode cX7_choose 128 = .ok (.iconst 3, 1) := by decide +kernel
theorem dX7_choose_129 : decode cX7_choose 129 = .ok (.if_icmp .ne 7, 3) := by decide +kernel
theorem dX7_choose_132 : decode cX7_choose 132 = .ok (.iconst 1, 1) := by decide +kernel
theorem dX7_choose_133 : decode cX7_choose 133 = .ok (.goto 4, 3) := by decide +kernel
theorem dX7_choose_136 : decode cX7_choose 136 = .ok (.iconst 0, 1) := by decide +kernel
theorem dX7_choose_137 : decode cX7_choose 137 = .ok (.bastore, 1) := by decide +kernel
theorem dX7_choose_138 : decode cX7_choose 138 = .ok (.aload_n 0, 1) := by decide +kernel
theorem dX7_choose_139 : decode cX7_choose 139 = .ok (.dup, 1) := by decide +kernel
theorem dX7_choose_140 : decode cX7_choose 140 = .ok (.getfield 150, 3) := by decide +kernel
theorem dX7_choose_143 : decode cX7_choose 143 = .ok (.iconst 1, 1) := by decide +kernel
theorem dX7_choose_144 : decode cX7_choose 144 = .ok (.iadd, 1) := by decide +kernel
theorem dX7_choose_145 : decode cX7_choose 145 = .ok (.putfield 150, 3) := by decide +kernel
theorem dX7_choose_148 : decode cX7_choose 148 = .ok (.aload_n 0, 1) := by decide +kernel
theorem dX7_choose_149 : decode cX7_choose 149 = .ok (.iload_n 1, 1) := by decide +kernel
theorem dX7_choose_150 : decode cX7_choose 150 = .ok (.invokevirtual 140, 3) := by decide +kernel
theorem dX7_choose_153 : decode cX7_choose 153 = .ok (.istore 5, 2) := by decide +kernel
theorem dX7_choose_155 : decode cX7_choose 155 = .ok (.bipush (-7), 2) := by decide +kernel
theorem dX7_choose_157 : decode cX7_choose 157 = .ok (.ireturn, 1) := by decide +kernel
theorem dX7_choose_158 : decode cX7_choose 158 = .ok (.aload_n 0, 1) := by decide +kernel
theorem dX7_choose_159 : decode cX7_choose 159 = .ok (.getfield 44, 3) := by decide +kernel
theorem dX7_choose_162 : decode cX7_choose 162 = .ok (.iload_n 3, 1) := by decide +kernel
theorem dX7_choose_163 : decode cX7_choose 163 = .ok (.iaload, 1) := by decide +kernel
theorem dX7_choose_164 : decode cX7_choose 164 = .ok (.ifCond .le 7, 3) := by decide +kernel
theorem dX7_choose_167 : decode cX7_choose 167 = .ok (.iload_n 3, 1) := by decide +kernel
theorem dX7_choose_168 : decode cX7_choose 168 = .ok (.goto 6, 3) := by decide +kernel
theorem dX7_choose_171 : decode cX7_choose 171 = .ok (.iload_n 3, 1) := by decide +kernel
theorem dX7_choose_172 : decode cX7_choose 172 = .ok (.iconst 1, 1) := by decide +kernel
theorem dX7_choose_173 : decode cX7_choose 173 = .ok (.iadd, 1) := by decide +kernel
theorem dX7_choose_174 : decode cX7_choose 174 = .ok (.istore 5, 2) := by decide +kernel
theorem dX7_choose_176 : decode cX7_choose 176 = .ok (.aload_n 0, 1) := by decide +kernel
theorem dX7_choose_177 : decode cX7_choose 177 = .ok (.getfield 44, 3) := by decide +kernel
theorem dX7_choose_180 : decode cX7_choose 180 = .ok (.iload 5, 2) := by decide +kernel
theorem dX7_choose_182 : decode cX7_choose 182 = .ok (.dup2, 1) := by decide +kernel
theorem dX7_choose_183 : decode cX7_choose 183 = .ok (.iaload, 1) := by decide +kernel
theorem dX7_choose_184 : decode cX7_choose 184 = .ok (.iconst 1, 1) := by decide +kernel
theorem dX7_choose_185 : decode cX7_choose 185 = .ok (.isub, 1) := by decide +kernel
theorem dX7_choose_186 : decode cX7_choose 186 = .ok (.iastore, 1) := by decide +kernel
theorem dX7_choose_187 : decode cX7_choose 187 = .ok (.aload_n 0, 1) := by decide +kernel
theorem dX7_choose_188 : decode cX7_choose 188 = .ok (.getfield 56, 3) := by decide +kernel
theorem dX7_choose_191 : decode cX7_choose 191 = .ok (.iload_n 3, 1) := by decide +kernel
theorem dX7_choose_192 : decode cX7_choose 192 = .ok (.iconst 0, 1) := by decide +kernel
theorem dX7_choose_193 : decode cX7_choose 193 = .ok (.iastore, 1) := by decide +kernel
theorem dX7_choose_194 : decode cX7_choose 194 = .ok (.aload_n 0, 1) := by decide +kernel
theorem dX7_choose_195 : decode cX7_choose 195 = .ok (.getfield 80, 3) := by decide +kernel
theorem dX7_choose_198 : decode cX7_choose 198 = .ok (.iload_n 1, 1) := by decide +kernel
theorem dX7_choose_199 : decode cX7_choose 199 = .ok (.dup2, 1) := by decide +kernel
theorem dX7_choose_200 : decode cX7_choose 200 = .ok (.iaload, 1) := by decide +kernel
theorem dX7_choose_201 : decode cX7_choose 201 = .ok (.iconst 1, 1) := by decide +kernel
theorem dX7_choose_202 : decode cX7_choose 202 = .ok (.iadd, 1) := by decide +kernel
theorem dX7_choose_203 : decode cX7_choose 203 = .ok (.iastore, 1) := by decide +kernel
theorem dX7_choose_204 : decode cX7_choose 204 = .ok (.aload_n 0, 1) := by decide +kernel
theorem dX7_choose_205 : decode cX7_choose 205 = .ok (.getfield 68, 3) := by decide +kernel
theorem dX7_choose_208 : decode cX7_choose 208 = .ok (.sipush 384, 3) := by decide +kernel
theorem dX7_choose_211 : decode cX7_choose 211 = .ok (.iload_n 1, 1) := by decide +kernel
theorem dX7_choose_212 : decode cX7_choose 212 = .ok (.imul, 1) := by decide +kernel
theorem dX7_choose_213 : decode cX7_choose 213 = .ok (.bipush 24, 2) := by decide +kernel
theorem dX7_choose_215 : decode cX7_choose 215 = .ok (.aload_n 0, 1) := by decide +kernel
theorem dX7_choose_216 : decode cX7_choose 216 = .ok (.getfield 35, 3) := by decide +kernel
theorem dX7_choose_219 : decode cX7_choose 219 = .ok (.iload_n 3, 1) := by decide +kernel
theorem dX7_choose_220 : decode cX7_choose 220 = .ok (.iaload, 1) := by decide +kernel
theorem dX7_choose_221 : decode cX7_choose 221 = .ok (.imul, 1) := by decide +kernel
theorem dX7_choose_222 : decode cX7_choose 222 = .ok (.iadd, 1) := by decide +kernel
theorem dX7_choose_223 : decode cX7_choose 223 = .ok (.aload_n 0, 1) := by decide +kernel
theorem dX7_choose_224 : decode cX7_choose 224 = .ok (.getfield 153, 3) := by decide +kernel
theorem dX7_choose_227 : decode cX7_choose 227 = .ok (.bipush 24, 2) := by decide +kernel
theorem dX7_choose_229 : decode cX7_choose 229 = .ok (.irem, 1) := by decide +kernel
theorem dX7_choose_230 : decode cX7_choose 230 = .ok (.iadd, 1) := by decide +kernel
theorem dX7_choose_231 : decode cX7_choose 231 = .ok (.dup2, 1) := by decide +kernel
theorem dX7_choose_232 : decode cX7_choose 232 = .ok (.iaload, 1) := by decide +kernel
theorem dX7_choose_233 : decode cX7_choose 233 = .ok (.iconst 1, 1) := by decide +kernel
theorem dX7_choose_234 : decode cX7_choose 234 = .ok (.iadd, 1) := by decide +kernel
theorem dX7_choose_235 : decode cX7_choose 235 = .ok (.iastore, 1) := by decide +kernel
theorem dX7_choose_236 : decode cX7_choose 236 = .ok (.iconst 0, 1) := by decide +kernel
theorem dX7_choose_237 : decode cX7_choose 237 = .ok (.istore 6, 2) := by decide +kernel
theorem dX7_choose_239 : decode cX7_choose 239 = .ok (.iload 6, 2) := by decide +kernel
theorem dX7_choose_241 : decode cX7_choose 241 = .ok (.bipush 6, 2) := by decide +kernel
theorem dX7_choose_243 : decode cX7_choose 243 = .ok (.if_icmp .ge 129, 3) := by decide +kernel
theorem dX7_choose_246 : decode cX7_choose 246 = .ok (.bipush 6, 2) := by decide +kernel
theorem dX7_choose_248 : decode cX7_choose 248 = .ok (.iload_n 1, 1) := by decide +kernel
theorem dX7_choose_249 : decode cX7_choose 249 = .ok (.imul, 1) := by decide +kernel
theorem dX7_choose_250 : decode cX7_choose 250 = .ok (.iload 6, 2) := by decide +kernel
theorem dX7_choose_252 : decode cX7_choose 252 = .ok (.iadd, 1) := by decide +kernel
theorem dX7_choose_253 : decode cX7_choose 253 = .ok (.istore 7, 2) := by decide +kernel
theorem dX7_choose_255 : decode cX7_choose 255 = .ok (.aload_n 0, 1) := by decide +kernel
theorem dX7_choose_256 : decode cX7_choose 256 = .ok (.getfield 13, 3) := by decide +kernel
theorem dX7_choose_259 : decode cX7_choose 259 = .ok (.iload 7, 2) := by decide +kernel
theorem dX7_choose_261 : decode cX7_choose 261 = .ok (.iaload, 1) := by decide +kernel
theorem dX7_choose_262 : decode cX7_choose 262 = .ok (.aload_n 0, 1) := by decide +kernel
theorem dX7_choose_263 : decode cX7_choose 263 = .ok (.getfield 19, 3) := by decide +kernel
theorem dX7_choose_266 : decode cX7_choose 266 = .ok (.iload 7, 2) := by decide +kernel
theorem dX7_choose_268 : decode cX7_choose 268 = .ok (.iaload, 1) := by decide +kernel
theorem dX7_choose_269 : decode cX7_choose 269 = .ok (.iadd, 1) := by decide +kernel
theorem dX7_choose_270 : decode cX7_choose 270 = .ok (.aload_n 0, 1) := by decide +kernel
theorem dX7_choose_271 : decode cX7_choose 271 = .ok (.getfield 98, 3) := by decide +kernel
theorem dX7_choose_274 : decode cX7_choose 274 = .ok (.iload 6, 2) := by decide +kernel
theorem dX7_choose_276 : decode cX7_choose 276 = .ok (.iaload, 1) := by decide +kernel
theorem dX7_choose_277 : decode cX7_choose 277 = .ok (.isub, 1) := by decide +kernel
theorem dX7_choose_278 : decode cX7_choose 278 = .ok (.istore 8, 2) := by decide +kernel
theorem dX7_choose_280 : decode cX7_choose 280 = .ok (.aload_n 0, 1) := by decide +kernel
theorem dX7_choose_281 : decode cX7_choose 281 = .ok (.getfield 19, 3) := by decide +kernel
theorem dX7_choose_284 : decode cX7_choose 284 = .ok (.iload 7, 2) := by decide +kernel
theorem dX7_choose_286 : decode cX7_choose 286 = .ok (.iconst 0, 1) := by decide +kernel
theorem dX7_choose_287 : decode cX7_choose 287 = .ok (.iastore, 1) := by decide +kernel
theorem dX7_choose_288 : decode cX7_choose 288 = .ok (.aload_n 0, 1) := by decide +kernel
theorem dX7_choose_289 : decode cX7_choose 289 = .ok (.getfield 13, 3) := by decide +kernel
theorem dX7_choose_292 : decode cX7_choose 292 = .ok (.iload 7, 2) := by decide +kernel
theorem dX7_choose_294 : decode cX7_choose 294 = .ok (.iload 8, 2) := by decide +kernel
theorem dX7_choose_296 : decode cX7_choose 296 = .ok (.bipush 50, 2) := by decide +kernel
theorem dX7_choose_298 : decode cX7_choose 298 = .ok (.if_icmp .le 8, 3) := by decide +kernel
theorem dX7_choose_301 : decode cX7_choose 301 = .ok (.bipush 50, 2) := by decide +kernel
theorem dX7_choose_303 : decode cX7_choose 303 = .ok (.goto 5, 3) := by decide +kernel
theorem dX7_choose_306 : decode cX7_choose 306 = .ok (.iload 8, 2) := by decide +kernel
theorem dX7_choose_308 : decode cX7_choose 308 = .ok (.iastore, 1) := by decide +kernel
theorem dX7_choose_309 : decode cX7_choose 309 = .ok (.aload_n 0, 1) := by decide +kernel
theorem dX7_choose_310 : decode cX7_choose 310 = .ok (.getfield 16, 3) := by decide +kernel
theorem dX7_choose_313 : decode cX7_choose 313 = .ok (.iload 7, 2) := by decide +kernel
theorem dX7_choose_315 : decode cX7_choose 315 = .ok (.dup2, 1) := by decide +kernel
theorem dX7_choose_316 : decode cX7_choose 316 = .ok (.iaload, 1) := by decide +kernel
theorem dX7_choose_317 : decode cX7_choose 317 = .ok (.iload 8, 2) := by decide +kernel
theorem dX7_choose_319 : decode cX7_choose 319 = .ok (.bipush 50, 2) := by decide +kernel
theorem dX7_choose_321 : decode cX7_choose 321 = .ok (.if_icmp .le 11, 3) := by decide +kernel
theorem dX7_choose_324 : decode cX7_choose 324 = .ok (.iload 8, 2) := by decide +kernel
theorem dX7_choose_326 : decode cX7_choose 326 = .ok (.bipush 50, 2) := by decide +kernel
theorem dX7_choose_328 : decode cX7_choose 328 = .ok (.isub, 1) := by decide +kernel
theorem dX7_choose_329 : decode cX7_choose 329 = .ok (.goto 4, 3) := by decide +kernel
theorem dX7_choose_332 : decode cX7_choose 332 = .ok (.iconst 0, 1) := by decide +kernel
theorem dX7_choose_333 : decode cX7_choose 333 = .ok (.iadd, 1) := by decide +kernel
theorem dX7_choose_334 : decode cX7_choose 334 = .ok (.iastore, 1) := by decide +kernel
theorem dX7_choose_335 : decode cX7_choose 335 = .ok (.aload_n 0, 1) := by decide +kernel
theorem dX7_choose_336 : decode cX7_choose 336 = .ok (.getfield 86, 3) := by decide +kernel
theorem dX7_choose_339 : decode cX7_choose 339 = .ok (.iload 6, 2) := by decide +kernel
theorem dX7_choose_341 : decode cX7_choose 341 = .ok (.aload_n 0, 1) := by decide +kernel
theorem dX7_choose_342 : decode cX7_choose 342 = .ok (.getfield 98, 3) := by decide +kernel
theorem dX7_choose_345 : decode cX7_choose 345 = .ok (.iload 6, 2) := by decide +kernel
theorem dX7_choose_347 : decode cX7_choose 347 = .ok (.iaload, 1) := by decide +kernel
theorem dX7_choose_348 : decode cX7_choose 348 = .ok (.iastore, 1) := by decide +kernel
theorem dX7_choose_349 : decode cX7_choose 349 = .ok (.aload_n 0, 1) := by decide +kernel
theorem dX7_choose_350 : decode cX7_choose 350 = .ok (.getfield 25, 3) := by decide +kernel
theorem dX7_choose_353 : decode cX7_choose 353 = .ok (.iload 7, 2) := by decide +kernel
theorem dX7_choose_355 : decode cX7_choose 355 = .ok (.dup2, 1) := by decide +kernel
theorem dX7_choose_356 : decode cX7_choose 356 = .ok (.iaload, 1) := by decide +kernel
theorem dX7_choose_357 : decode cX7_choose 357 = .ok (.aload_n 0, 1) := by decide +kernel
theorem dX7_choose_358 : decode cX7_choose 358 = .ok (.getfield 98, 3) := by decide +kernel
theorem dX7_choose_361 : decode cX7_choose 361 = .ok (.iload 6, 2) := by decide +kernel
theorem dX7_choose_363 : decode cX7_choose 363 = .ok (.iaload, 1) := by decide +kernel
theorem dX7_choose_364 : decode cX7_choose 364 = .ok (.iadd, 1) := by decide +kernel
theorem dX7_choose_365 : decode cX7_choose 365 = .ok (.iastore, 1) := by decide +kernel
theorem dX7_choose_366 : decode cX7_choose 366 = .ok (.iinc 6 1, 3) := by decide +kernel
theorem dX7_choose_369 : decode cX7_choose 369 = .ok (.goto (-130), 3) := by decide +kernel
theorem dX7_choose_372 : decode cX7_choose 372 = .ok (.iload 4, 2) := by decide +kernel
theorem dX7_choose_374 : decode cX7_choose 374 = .ok (.ireturn, 1) := by decide +kernel
theorem dX7_given_0 : decode cX7_given 0 = .ok (.iload_n 1, 1) := by decide +kernel
theorem dX7_given_1 : decode cX7_given 1 = .ok (.iconst 0, 1) := by decide +kernel
theorem dX7_given_2 : decode cX7_given 2 = .ok (.iconst 5, 1) := by decide +kernel
theorem dX7_given_3 : decode cX7_given 3 = .ok (.invokestatic 108, 3) := by decide +kernel
theorem dX7_given_6 : decode cX7_given 6 = .ok (.ifCond .eq 12, 3) := by decide +kernel
theorem dX7_given_9 : decode cX7_given 9 = .ok (.aload_n 0, 1) := by decide +kernel
theorem dX7_given_10 : decode cX7_given 10 = .ok (.getfield 86, 3) := by decide +kernel
theorem dX7_given_13 : decode cX7_given 13 = .ok (.iload_n 1, 1) := by decide +kernel
theorem dX7_given_14 : decode cX7_given 14 = .ok (.iaload, 1) := by decide +kernel
theorem dX7_given_15 : decode cX7_given 15 = .ok (.goto 8, 3) := by decide +kernel
theorem dX7_given_18 : decode cX7_given 18 = .ok (.aload_n 0, 1) := by decide +kernel
theorem dX7_given_19 : decode cX7_given 19 = .ok (.iconst (-1), 1) := by decide +kernel
theorem dX7_given_20 : decode cX7_given 20 = .ok (.invokevirtual 116, 3) := by decide +kernel
theorem dX7_given_23 : decode cX7_given 23 = .ok (.ireturn, 1) := by decide +kernel
theorem dX7_passOne_0 : decode cX7_passOne 0 = .ok (.iconst 0, 1) := by decide +kernel
theorem dX7_passOne_1 : decode cX7_passOne 1 = .ok (.istore_n 1, 1) := by decide +kernel
theorem dX7_passOne_2 : decode cX7_passOne 2 = .ok (.iload_n 1, 1) := by decide +kernel
theorem dX7_passOne_3 : decode cX7_passOne 3 = .ok (.aload_n 0, 1) := by decide +kernel
theorem dX7_passOne_4 : decode cX7_passOne 4 = .ok (.getfield 104, 3) := by decide +kernel
theorem dX7_passOne_7 : decode cX7_passOne 7 = .ok (.if_icmp .ge 116, 3) := by decide +kernel
theorem dX7_passOne_10 : decode cX7_passOne 10 = .ok (.iconst 0, 1) := by decide +kernel
theorem dX7_passOne_11 : decode cX7_passOne 11 = .ok (.istore_n 2, 1) := by decide +kernel
theorem dX7_passOne_12 : decode cX7_passOne 12 = .ok (.iload_n 2, 1) := by decide +kernel
theorem dX7_passOne_13 : decode cX7_passOne 13 = .ok (.bipush 16, 2) := by decide +kernel
theorem dX7_passOne_15 : decode cX7_passOne 15 = .ok (.if_icmp .ge 102, 3) := by decide +kernel
theorem dX7_passOne_18 : decode cX7_passOne 18 = .ok (.iconst 0, 1) := by decide +kernel
theorem dX7_passOne_19 : decode cX7_passOne 19 = .ok (.istore_n 3, 1) := by decide +kernel
theorem dX7_passOne_20 : decode cX7_passOne 20 = .ok (.iconst 0, 1) := by decide +kernel
theorem dX7_passOne_21 : decode cX7_passOne 21 = .ok (.istore 4, 2) := by decide +kernel
theorem dX7_passOne_23 : decode cX7_passOne 23 = .ok (.iload 4, 2) := by decide +kernel
theorem dX7_passOne_25 : decode cX7_passOne 25 = .ok (.aload_n 0, 1) := by decide +kernel
theorem dX7_passOne_26 : decode cX7_passOne 26 = .ok (.getfield 7, 3) := by decide +kernel
theorem dX7_passOne_29 : decode cX7_passOne 29 = .ok (.iload_n 1, 1) := by decide +kernel
theorem dX7_passOne_30 : decode cX7_passOne 30 = .ok (.iaload, 1) := by decide +kernel
theorem dX7_passOne_31 : decode cX7_passOne 31 = .ok (.if_icmp .ge 45, 3) := by decide +kernel
theorem dX7_passOne_34 : decode cX7_passOne 34 = .ok (.iload_n 3, 1) := by decide +kernel
theorem dX7_passOne_35 : decode cX7_passOne 35 = .ok (.ifCond .ne 29, 3) := by decide +kernel
theorem dX7_passOne_38 : decode cX7_passOne 38 = .ok (.aload_n 0, 1) := by decide +kernel
theorem dX7_passOne_39 : decode cX7_passOne 39 = .ok (.getfield 35, 3) := by decide +kernel
theorem dX7_passOne_42 : decode cX7_passOne 42 = .ok (.bipush 8, 2) := by decide +kernel
theorem dX7_passOne_44 : decode cX7_passOne 44 = .ok (.iload_n 1, 1) := by decide +kernel
theorem dX7_passOne_45 : decode cX7_passOne 45 = .ok (.imul, 1) := by decide +kernel
theorem dX7_passOne_46 : decode cX7_passOne 46 = .ok (.iload 4, 2) := by decide +kernel
theorem dX7_passOne_48 : decode cX7_passOne 48 = .ok (.iadd, 1) := by decide +kernel
theorem dX7_passOne_49 : decode cX7_passOne 49 = .ok (.iaload, 1) := by decide +kernel
theorem dX7_passOne_50 : decode cX7_passOne 50 = .ok (.iload_n 2, 1) := by decide +kernel
theorem dX7_passOne_51 : decode cX7_passOne 51 = .ok (.if_icmp .ne 17, 3) := by decide +kernel
theorem dX7_passOne_54 : decode cX7_passOne 54 = .ok (.aload_n 0, 1) := by decide +kernel
theorem dX7_passOne_55 : decode cX7_passOne 55 = .ok (.iload_n 1, 1) := by decide +kernel
theorem dX7_passOne_56 : decode cX7_passOne 56 = .ok (.iload 4, 2) := by decide +kernel
theorem dX7_passOne_58 : decode cX7_passOne 58 = .ok (.invokevirtual 147, 3) := by decide +kernel
theorem dX7_passOne_61 : decode cX7_passOne 61 = .ok (.ifCond .eq 7, 3) := by decide +kernel
theorem dX7_passOne_64 : decode cX7_passOne 64 = .ok (.iconst 1, 1) := by decide +kernel
theorem dX7_passOne_65 : decode cX7_passOne 65 = .ok (.goto 4, 3) := by decide +kernel
theorem dX7_passOne_68 : decode cX7_passOne 68 = .ok (.iconst 0, 1) := by decide +kernel
theorem dX7_passOne_69 : decode cX7_passOne 69 = .ok (.istore_n 3, 1) := by decide +kernel
theorem dX7_passOne_70 : decode cX7_passOne 70 = .ok (.iinc 4 1, 3) := by decide +kernel
theorem dX7_passOne_73 : decode cX7_passOne 73 = .ok (.goto (-50), 3) := by decide +kernel
theorem dX7_passOne_76 : decode cX7_passOne 76 = .ok (.aload_n 0, 1) := by decide +kernel
theorem dX7_passOne_77 : decode cX7_passOne 77 = .ok (.getfield 71, 3) := by decide +kernel
theorem dX7_passOne_80 : decode cX7_passOne 80 = .ok (.sipush 384, 3) := by decide +kernel
theorem dX7_passOne_83 : decode cX7_passOne 83 = .ok (.iload_n 1, 1) := by decide +kernel
theorem dX7_passOne_84 : decode cX7_passOne 84 = .ok (.imul, 1) := by decide +kernel
theorem dX7_passOne_85 : decode cX7_passOne 85 = .ok (.bipush 24, 2) := by decide +kernel
theorem dX7_passOne_87 : decode cX7_passOne 87 = .ok (.iload_n 2, 1) := by decide +kernel
theorem dX7_passOne_88 : decode cX7_passOne 88 = .ok (.imul, 1) := by decide +kernel
theorem dX7_passOne_89 : decode cX7_passOne 89 = .ok (.iadd, 1) := by decide +kernel
theorem dX7_passOne_90 : decode cX7_passOne 90 = .ok (.aload_n 0, 1) := by decide +kernel
theorem dX7_passOne_91 : decode cX7_passOne 91 = .ok (.getfield 153, 3) := by decide +kernel
theorem dX7_passOne_94 : decode cX7_passOne 94 = .ok (.bipush 24, 2) := by decide +kernel
theorem dX7_passOne_96 : decode cX7_passOne 96 = .ok (.irem, 1) := by decide +kernel
theorem dX7_passOne_97 : decode cX7_passOne 97 = .ok (.iadd, 1) := by decide +kernel
theorem dX7_passOne_98 : decode cX7_passOne 98 = .ok (.dup2, 1) := by decide +kernel
theorem dX7_passOne_99 : decode cX7_passOne 99 = .ok (.iaload, 1) := by decide +kernel
theorem dX7_passOne_100 : decode cX7_passOne 100 = .ok (.iload_n 3, 1) := by decide +kernel
theorem dX7_passOne_101 : decode cX7_passOne 101 = .ok (.ifCond .eq 7, 3) := by decide +kernel
theorem dX7_passOne_104 : decode cX7_passOne 104 = .ok (.iconst 1, 1) := by decide +kernel
theorem dX7_passOne_105 : decode cX7_passOne 105 = .ok (.goto 4, 3) := by decide +kernel
theorem dX7_passOne_108 : decode cX7_passOne 108 = .ok (.iconst 0, 1) := by decide +kernel
theorem dX7_passOne_109 : decode cX7_passOne 109 = .ok (.iadd, 1) := by decide +kernel
theorem dX7_passOne_110 : decode cX7_passOne 110 = .ok (.iastore, 1) := by decide +kernel
theorem dX7_passOne_111 : decode cX7_passOne 111 = .ok (.iinc 2 1, 3) := by decide +kernel
theorem dX7_passOne_114 : decode cX7_passOne 114 = .ok (.goto (-102), 3) := by decide +kernel
theorem dX7_passOne_117 : decode cX7_passOne 117 = .ok (.iinc 1 1, 3) := by decide +kernel
theorem dX7_passOne_120 : decode cX7_passOne 120 = .ok (.goto (-118), 3) := by decide +kernel
theorem dX7_passOne_123 : decode cX7_passOne 123 = .ok (.aload_n 0, 1) := by decide +kernel
theorem dX7_passOne_124 : decode cX7_passOne 124 = .ok (.dup, 1) := by decide +kernel
theorem dX7_passOne_125 : decode cX7_passOne 125 = .ok (.getfield 153, 3) := by decide +kernel
theorem dX7_passOne_128 : decode cX7_passOne 128 = .ok (.iconst 1, 1) := by decide +kernel
theorem dX7_passOne_129 : decode cX7_passOne 129 = .ok (.iadd, 1) := by decide +kernel
theorem dX7_passOne_130 : decode cX7_passOne 130 = .ok (.putfield 153, 3) := by decide +kernel
theorem dX7_passOne_133 : decode cX7_passOne 133 = .ok (.iconst 0, 1) := by decide +kernel
theorem dX7_passOne_134 : decode cX7_passOne 134 = .ok (.istore_n 1, 1) := by decide +kernel
theorem dX7_passOne_135 : decode cX7_passOne 135 = .ok (.iload_n 1, 1) := by decide +kernel
theorem dX7_passOne_136 : decode cX7_passOne 136 = .ok (.aload_n 0, 1) := by decide +kernel
theorem dX7_passOne_137 : decode cX7_passOne 137 = .ok (.getfield 104, 3) := by decide +kernel
theorem dX7_passOne_140 : decode cX7_passOne 140 = .ok (.if_icmp .ge 108, 3) := by decide +kernel
theorem dX7_passOne_143 : decode cX7_passOne 143 = .ok (.aload_n 0, 1) := by decide +kernel
theorem dX7_passOne_144 : decode cX7_passOne 144 = .ok (.getfield 32, 3) := by decide +kernel
theorem dX7_passOne_147 : decode cX7_passOne 147 = .ok (.iload_n 1, 1) := by decide +kernel
theorem dX7_passOne_148 : decode cX7_passOne 148 = .ok (.dup2, 1) := by decide +kernel
theorem dX7_passOne_149 : decode cX7_passOne 149 = .ok (.iaload, 1) := by decide +kernel
theorem dX7_passOne_150 : decode cX7_passOne 150 = .ok (.aload_n 0, 1) := by decide +kernel
theorem dX7_passOne_151 : decode cX7_passOne 151 = .ok (.getfield 28, 3) := by decide +kernel
theorem dX7_passOne_154 : decode cX7_passOne 154 = .ok (.iload_n 1, 1) := by decide +kernel
theorem dX7_passOne_155 : decode cX7_passOne 155 = .ok (.baload, 1) := by decide +kernel
theorem dX7_passOne_156 : decode cX7_passOne 156 = .ok (.ifCond .eq 7, 3) := by decide +kernel
theorem dX7_passOne_159 : decode cX7_passOne 159 = .ok (.iconst 1, 1) := by decide +kernel
theorem dX7_passOne_160 : decode cX7_passOne 160 = .ok (.goto 4, 3) := by decide +kernel
theorem dX7_passOne_163 : decode cX7_passOne 163 = .ok (.iconst 0, 1) := by decide +kernel
theorem dX7_passOne_164 : decode cX7_passOne 164 = .ok (.iadd, 1) := by decide +kernel
theorem dX7_passOne_165 : decode cX7_passOne 165 = .ok (.iastore, 1) := by decide +kernel
theorem dX7_passOne_166 : decode cX7_passOne 166 = .ok (.bipush 8, 2) := by decide +kernel
theorem dX7_passOne_168 : decode cX7_passOne 168 = .ok (.iload_n 1, 1) := by decide +kernel
theorem dX7_passOne_169 : decode cX7_passOne 169 = .ok (.imul, 1) := by decide +kernel
theorem dX7_passOne_170 : decode cX7_passOne 170 = .ok (.istore_n 2, 1) := by decide +kernel
theorem dX7_passOne_171 : decode cX7_passOne 171 = .ok (.iload_n 2, 1) := by decide +kernel
theorem dX7_passOne_172 : decode cX7_passOne 172 = .ok (.bipush 8, 2) := by decide +kernel
theorem dX7_passOne_174 : decode cX7_passOne 174 = .ok (.iload_n 1, 1) := by decide +kernel
theorem dX7_passOne_175 : decode cX7_passOne 175 = .ok (.imul, 1) := by decide +kernel
theorem dX7_passOne_176 : decode cX7_passOne 176 = .ok (.aload_n 0, 1) := by decide +kernel
theorem dX7_passOne_177 : decode cX7_passOne 177 = .ok (.getfield 7, 3) := by decide +kernel
theorem dX7_passOne_180 : decode cX7_passOne 180 = .ok (.iload_n 1, 1) := by decide +kernel
theorem dX7_passOne_181 : decode cX7_passOne 181 = .ok (.iaload, 1) := by decide +kernel
theorem dX7_passOne_182 : decode cX7_passOne 182 = .ok (.iadd, 1) := by decide +kernel
theorem dX7_passOne_183 : decode cX7_passOne 183 = .ok (.if_icmp .ge 59, 3) := by decide +kernel
theorem dX7_passOne_186 : decode cX7_passOne 186 = .ok (.aload_n 0, 1) := by decide +kernel
theorem dX7_passOne_187 : decode cX7_passOne 187 = .ok (.getfield 28, 3) := by decide +kernel
theorem dX7_passOne_190 : decode cX7_passOne 190 = .ok (.iload_n 1, 1) := by decide +kernel
theorem dX7_passOne_191 : decode cX7_passOne 191 = .ok (.baload, 1) := by decide +kernel
theorem dX7_passOne_192 : decode cX7_passOne 192 = .ok (.ifCond .eq 44, 3) := by decide +kernel
theorem dX7_passOne_195 : decode cX7_passOne 195 = .ok (.aload_n 0, 1) := by decide +kernel
theorem dX7_passOne_196 : decode cX7_passOne 196 = .ok (.getfield 47, 3) := by decide +kernel
theorem dX7_passOne_199 : decode cX7_passOne 199 = .ok (.iload_n 2, 1) := by decide +kernel
theorem dX7_passOne_200 : decode cX7_passOne 200 = .ok (.iaload, 1) := by decide +kernel
theorem dX7_passOne_201 : decode cX7_passOne 201 = .ok (.iconst 2, 1) := by decide +kernel
theorem dX7_passOne_202 : decode cX7_passOne 202 = .ok (.if_icmp .ne 34, 3) := by decide +kernel
theorem dX7_passOne_205 : decode cX7_passOne 205 = .ok (.aload_n 0, 1) := by decide +kernel
theorem dX7_passOne_206 : decode cX7_passOne 206 = .ok (.getfield 32, 3) := by decide +kernel
theorem dX7_passOne_209 : decode cX7_passOne 209 = .ok (.iload_n 1, 1) := by decide +kernel
theorem dX7_passOne_210 : decode cX7_passOne 210 = .ok (.iaload, 1) := by decide +kernel
theorem dX7_passOne_211 : decode cX7_passOne 211 = .ok (.aload_n 0, 1) := by decide +kernel
theorem dX7_passOne_212 : decode cX7_passOne 212 = .ok (.getfield 50, 3) := by decide +kernel
theorem dX7_passOne_215 : decode cX7_passOne 215 = .ok (.iload_n 2, 1) := by decide +kernel
theorem dX7_passOne_216 : decode cX7_passOne 216 = .ok (.iaload, 1) := by decide +kernel
theorem dX7_passOne_217 : decode cX7_passOne 217 = .ok (.if_icmp .le 19, 3) := by decide +kernel
theorem dX7_passOne_220 : decode cX7_passOne 220 = .ok (.aload_n 0, 1) := by decide +kernel
theorem dX7_passOne_221 : decode cX7_passOne 221 = .ok (.getfield 44, 3) := by decide +kernel
theorem dX7_passOne_224 : decode cX7_passOne 224 = .ok (.iload_n 2, 1) := by decide +kernel
theorem dX7_passOne_225 : decode cX7_passOne 225 = .ok (.iaload, 1) := by decide +kernel
theorem dX7_passOne_226 : decode cX7_passOne 226 = .ok (.ifCond .le 10, 3) := by decide +kernel
theorem dX7_passOne_229 : decode cX7_passOne 229 = .ok (.aload_n 0, 1) := by decide +kernel
theorem dX7_passOne_230 : decode cX7_passOne 230 = .ok (.getfield 62, 3) := by decide +kernel
theorem dX7_passOne_233 : decode cX7_passOne 233 = .ok (.iload_n 2, 1) := by decide +kernel
theorem dX7_passOne_234 : decode cX7_passOne 234 = .ok (.iconst 1, 1) := by decide +kernel
theorem dX7_passOne_235 : decode cX7_passOne 235 = .ok (.bastore, 1) := by decide +kernel
theorem dX7_passOne_236 : decode cX7_passOne 236 = .ok (.iinc 2 1, 3) := by decide +kernel
theorem dX7_passOne_239 : decode cX7_passOne 239 = .ok (.goto (-68), 3) := by decide +kernel
theorem dX7_passOne_242 : decode cX7_passOne 242 = .ok (.iinc 1 1, 3) := by decide +kernel
theorem dX7_passOne_245 : decode cX7_passOne 245 = .ok (.goto (-110), 3) := by decide +kernel
theorem dX7_passOne_248 : decode cX7_passOne 248 = .ok (.return_, 1) := by decide +kernel
theorem dX7_hours_0 : decode cX7_hours 0 = .ok (.iload_n 1, 1) := by decide +kernel
theorem dX7_hours_1 : decode cX7_hours 1 = .ok (.iconst 1, 1) := by decide +kernel
theorem dX7_hours_2 : decode cX7_hours 2 = .ok (.if_icmp .ge 10, 3) := by decide +kernel
theorem dX7_hours_5 : decode cX7_hours 5 = .ok (.aload_n 0, 1) := by decide +kernel
theorem dX7_hours_6 : decode cX7_hours 6 = .ok (.bipush (-4), 2) := by decide +kernel
theorem dX7_hours_8 : decode cX7_hours 8 = .ok (.invokevirtual 116, 3) := by decide +kernel
theorem dX7_hours_11 : decode cX7_hours 11 = .ok (.ireturn, 1) := by decide +kernel
theorem dX7_hours_12 : decode cX7_hours 12 = .ok (.iload_n 1, 1) := by decide +kernel
theorem dX7_hours_13 : decode cX7_hours 13 = .ok (.sipush 3000, 3) := by decide +kernel
theorem dX7_hours_16 : decode cX7_hours 16 = .ok (.aload_n 0, 1) := by decide +kernel
theorem dX7_hours_17 : decode cX7_hours 17 = .ok (.getfield 153, 3) := by decide +kernel
theorem dX7_hours_20 : decode cX7_hours 20 = .ok (.isub, 1) := by decide +kernel
theorem dX7_hours_21 : decode cX7_hours 21 = .ok (.if_icmp .le 10, 3) := by decide +kernel
theorem dX7_hours_24 : decode cX7_hours 24 = .ok (.aload_n 0, 1) := by decide +kernel
theorem dX7_hours_25 : decode cX7_hours 25 = .ok (.bipush (-6), 2) := by decide +kernel
theorem dX7_hours_27 : decode cX7_hours 27 = .ok (.invokevirtual 116, 3) := by decide +kernel
theorem dX7_hours_30 : decode cX7_hours 30 = .ok (.ireturn, 1) := by decide +kernel
theorem dX7_hours_31 : decode cX7_hours 31 = .ok (.iconst 0, 1) := by decide +kernel
theorem dX7_hours_32 : decode cX7_hours 32 = .ok (.istore_n 2, 1) := by decide +kernel
theorem dX7_hours_33 : decode cX7_hours 33 = .ok (.iload_n 2, 1) := by decide +kernel
theorem dX7_hours_34 : decode cX7_hours 34 = .ok (.iload_n 1, 1) := by decide +kernel
theorem dX7_hours_35 : decode cX7_hours 35 = .ok (.if_icmp .ge 13, 3) := by decide +kernel
theorem dX7_hours_38 : decode cX7_hours 38 = .ok (.aload_n 0, 1) := by decide +kernel
theorem dX7_hours_39 : decode cX7_hours 39 = .ok (.invokevirtual 156, 3) := by decide +kernel
theorem dX7_hours_42 : decode cX7_hours 42 = .ok (.iinc 2 1, 3) := by decide +kernel
theorem dX7_hours_45 : decode cX7_hours 45 = .ok (.goto (-12), 3) := by decide +kernel
theorem dX7_hours_48 : decode cX7_hours 48 = .ok (.aload_n 0, 1) := by decide +kernel
theorem dX7_hours_49 : decode cX7_hours 49 = .ok (.getfield 153, 3) := by decide +kernel
theorem dX7_hours_52 : decode cX7_hours 52 = .ok (.ireturn, 1) := by decide +kernel
theorem dX7_counted_0 : decode cX7_counted 0 = .ok (.aload_n 0, 1) := by decide +kernel
theorem dX7_counted_1 : decode cX7_counted 1 = .ok (.iload_n 1, 1) := by decide +kernel
theorem dX7_counted_2 : decode cX7_counted 2 = .ok (.invokevirtual 112, 3) := by decide +kernel
theorem dX7_counted_5 : decode cX7_counted 5 = .ok (.ifCond .eq 13, 3) := by decide +kernel
theorem dX7_counted_8 : decode cX7_counted 8 = .ok (.iload_n 2, 1) := by decide +kernel
theorem dX7_counted_9 : decode cX7_counted 9 = .ok (.iconst 0, 1) := by decide +kernel
theorem dX7_counted_10 : decode cX7_counted 10 = .ok (.bipush 15, 2) := by decide +kernel
theorem dX7_counted_12 : decode cX7_counted 12 = .ok (.invokestatic 108, 3) := by decide +kernel
theorem dX7_counted_15 : decode cX7_counted 15 = .ok (.ifCond .ne 9, 3) := by decide +kernel
theorem dX7_counted_18 : decode cX7_counted 18 = .ok (.aload_n 0, 1) := by decide +kernel
theorem dX7_counted_19 : decode cX7_counted 19 = .ok (.iconst (-1), 1) := by decide +kernel
theorem dX7_counted_20 : decode cX7_counted 20 = .ok (.invokevirtual 116, 3) := by decide +kernel
theorem dX7_counted_23 : decode cX7_counted 23 = .ok (.ireturn, 1) := by decide +kernel
theorem dX7_counted_24 : decode cX7_counted 24 = .ok (.iload 4, 2) := by decide +kernel
theorem dX7_counted_26 : decode cX7_counted 26 = .ok (.iconst 0, 1) := by decide +kernel
theorem dX7_counted_27 : decode cX7_counted 27 = .ok (.iconst 1, 1) := by decide +kernel
theorem dX7_counted_28 : decode cX7_counted 28 = .ok (.invokestatic 108, 3) := by decide +kernel
theorem dX7_counted_31 : decode cX7_counted 31 = .ok (.ifCond .ne 10, 3) := by decide +kernel
theorem dX7_counted_34 : decode cX7_counted 34 = .ok (.aload_n 0, 1) := by decide +kernel
theorem dX7_counted_35 : decode cX7_counted 35 = .ok (.bipush (-2), 2) := by decide +kernel
theorem dX7_counted_37 : decode cX7_counted 37 = .ok (.invokevirtual 116, 3) := by decide +kernel
theorem dX7_counted_40 : decode cX7_counted 40 = .ok (.ireturn, 1) := by decide +kernel
theorem dX7_counted_41 : decode cX7_counted 41 = .ok (.iload_n 3, 1) := by decide +kernel
theorem dX7_counted_42 : decode cX7_counted 42 = .ok (.ifCond .ge 10, 3) := by decide +kernel
theorem dX7_counted_45 : decode cX7_counted 45 = .ok (.aload_n 0, 1) := by decide +kernel
theorem dX7_counted_46 : decode cX7_counted 46 = .ok (.bipush (-4), 2) := by decide +kernel
theorem dX7_counted_48 : decode cX7_counted 48 = .ok (.invokevirtual 116, 3) := by decide +kernel
theorem dX7_counted_51 : decode cX7_counted 51 = .ok (.ireturn, 1) := by decide +kernel
theorem dX7_counted_52 : decode cX7_counted 52 = .ok (.iload_n 3, 1) := by decide +kernel
theorem dX7_counted_53 : decode cX7_counted 53 = .ok (.bipush 23, 2) := by decide +kernel
theorem dX7_counted_55 : decode cX7_counted 55 = .ok (.if_icmp .le 10, 3) := by decide +kernel
theorem dX7_counted_58 : decode cX7_counted 58 = .ok (.aload_n 0, 1) := by decide +kernel
theorem dX7_counted_59 : decode cX7_counted 59 = .ok (.bipush (-6), 2) := by decide +kernel
theorem dX7_counted_61 : decode cX7_counted 61 = .ok (.invokevirtual 116, 3) := by decide +kernel
theorem dX7_counted_64 : decode cX7_counted 64 = .ok (.ireturn, 1) := by decide +kernel
theorem dX7_counted_65 : decode cX7_counted 65 = .ok (.sipush 384, 3) := by decide +kernel
theorem dX7_counted_68 : decode cX7_counted 68 = .ok (.iload_n 1, 1) := by decide +kernel
theorem dX7_counted_69 : decode cX7_counted 69 = .ok (.imul, 1) := by decide +kernel
theorem dX7_counted_70 : decode cX7_counted 70 = .ok (.bipush 24, 2) := by decide +kernel
theorem dX7_counted_72 : decode cX7_counted 72 = .ok (.iload_n 2, 1) := by decide +kernel
theorem dX7_counted_73 : decode cX7_counted 73 = .ok (.imul, 1) := by decide +kernel
theorem dX7_counted_74 : decode cX7_counted 74 = .ok (.iadd, 1) := by decide +kernel
theorem dX7_counted_75 : decode cX7_counted 75 = .ok (.iload_n 3, 1) := by decide +kernel
theorem dX7_counted_76 : decode cX7_counted 76 = .ok (.iadd, 1) := by decide +kernel
theorem dX7_counted_77 : decode cX7_counted 77 = .ok (.istore 5, 2) := by decide +kernel
theorem dX7_counted_79 : decode cX7_counted 79 = .ok (.iload 4, 2) := by decide +kernel
theorem dX7_counted_81 : decode cX7_counted 81 = .ok (.ifCond .ne 13, 3) := by decide +kernel
theorem dX7_counted_84 : decode cX7_counted 84 = .ok (.aload_n 0, 1) := by decide +kernel
theorem dX7_counted_85 : decode cX7_counted 85 = .ok (.getfield 68, 3) := by decide +kernel
theorem dX7_counted_88 : decode cX7_counted 88 = .ok (.iload 5, 2) := by decide +kernel
theorem dX7_counted_90 : decode cX7_counted 90 = .ok (.iaload, 1) := by decide +kernel
theorem dX7_counted_91 : decode cX7_counted 91 = .ok (.goto 10, 3) := by decide +kernel
theorem dX7_counted_94 : decode cX7_counted 94 = .ok (.aload_n 0, 1) := by decide +kernel
theorem dX7_counted_95 : decode cX7_counted 95 = .ok (.getfield 71, 3) := by decide +kernel
theorem dX7_counted_98 : decode cX7_counted 98 = .ok (.iload 5, 2) := by decide +kernel
theorem dX7_counted_100 : decode cX7_counted 100 = .ok (.iaload, 1) := by decide +kernel
theorem dX7_counted_101 : decode cX7_counted 101 = .ok (.ireturn, 1) := by decide +kernel
theorem dX7_rate_0 : decode cX7_rate 0 = .ok (.sipush 384, 3) := by decide +kernel
theorem dX7_rate_3 : decode cX7_rate 3 = .ok (.iload_n 1, 1) := by decide +kernel
theorem dX7_rate_4 : decode cX7_rate 4 = .ok (.imul, 1) := by decide +kernel
theorem dX7_rate_5 : decode cX7_rate 5 = .ok (.bipush 24, 2) := by decide +kernel
theorem dX7_rate_7 : decode cX7_rate 7 = .ok (.iload_n 2, 1) := by decide +kernel
theorem dX7_rate_8 : decode cX7_rate 8 = .ok (.imul, 1) := by decide +kernel
theorem dX7_rate_9 : decode cX7_rate 9 = .ok (.iadd, 1) := by decide +kernel
theorem dX7_rate_10 : decode cX7_rate 10 = .ok (.iload_n 3, 1) := by decide +kernel
theorem dX7_rate_11 : decode cX7_rate 11 = .ok (.bipush 24, 2) := by decide +kernel
theorem dX7_rate_13 : decode cX7_rate 13 = .ok (.irem, 1) := by decide +kernel
theorem dX7_rate_14 : decode cX7_rate 14 = .ok (.iadd, 1) := by decide +kernel
theorem dX7_rate_15 : decode cX7_rate 15 = .ok (.istore 4, 2) := by decide +kernel
theorem dX7_rate_17 : decode cX7_rate 17 = .ok (.aload_n 0, 1) := by decide +kernel
theorem dX7_rate_18 : decode cX7_rate 18 = .ok (.getfield 71, 3) := by decide +kernel
theorem dX7_rate_21 : decode cX7_rate 21 = .ok (.iload 4, 2) := by decide +kernel
theorem dX7_rate_23 : decode cX7_rate 23 = .ok (.iaload, 1) := by decide +kernel
theorem dX7_rate_24 : decode cX7_rate 24 = .ok (.ifCond .ne 7, 3) := by decide +kernel
theorem dX7_rate_27 : decode cX7_rate 27 = .ok (.iconst 0, 1) := by decide +kernel
theorem dX7_rate_28 : decode cX7_rate 28 = .ok (.goto 22, 3) := by decide +kernel
theorem dX7_rate_31 : decode cX7_rate 31 = .ok (.sipush 1000, 3) := by decide +kernel
theorem dX7_rate_34 : decode cX7_rate 34 = .ok (.aload_n 0, 1) := by decide +kernel
theorem dX7_rate_35 : decode cX7_rate 35 = .ok (.getfield 68, 3) := by decide +kernel
theorem dX7_rate_38 : decode cX7_rate 38 = .ok (.iload 4, 2) := by decide +kernel
theorem dX7_rate_40 : decode cX7_rate 40 = .ok (.iaload, 1) := by decide +kernel
theorem dX7_rate_41 : decode cX7_rate 41 = .ok (.imul, 1) := by decide +kernel
theorem dX7_rate_42 : decode cX7_rate 42 = .ok (.aload_n 0, 1) := by decide +kernel
theorem dX7_rate_43 : decode cX7_rate 43 = .ok (.getfield 71, 3) := by decide +kernel
theorem dX7_rate_46 : decode cX7_rate 46 = .ok (.iload 4, 2) := by decide +kernel
theorem dX7_rate_48 : decode cX7_rate 48 = .ok (.iaload, 1) := by decide +kernel
theorem dX7_rate_49 : decode cX7_rate 49 = .ok (.idiv, 1) := by decide +kernel
theorem dX7_rate_50 : decode cX7_rate 50 = .ok (.ireturn, 1) := by decide +kernel
theorem dX7_foretell_0 : decode cX7_foretell 0 = .ok (.aload_n 0, 1) := by decide +kernel
theorem dX7_foretell_1 : decode cX7_foretell 1 = .ok (.iload_n 1, 1) := by decide +kernel
theorem dX7_foretell_2 : decode cX7_foretell 2 = .ok (.invokevirtual 112, 3) := by decide +kernel
theorem dX7_foretell_5 : decode cX7_foretell 5 = .ok (.ifCond .eq 13, 3) := by decide +kernel
theorem dX7_foretell_8 : decode cX7_foretell 8 = .ok (.iload_n 2, 1) := by decide +kernel
theorem dX7_foretell_9 : decode cX7_foretell 9 = .ok (.iconst 0, 1) := by decide +kernel
theorem dX7_foretell_10 : decode cX7_foretell 10 = .ok (.bipush 15, 2) := by decide +kernel
theorem dX7_foretell_12 : decode cX7_foretell 12 = .ok (.invokestatic 108, 3) := by decide +kernel
theorem dX7_foretell_15 : decode cX7_foretell 15 = .ok (.ifCond .ne 9, 3) := by decide +kernel
theorem dX7_foretell_18 : decode cX7_foretell 18 = .ok (.aload_n 0, 1) := by decide +kernel
theorem dX7_foretell_19 : decode cX7_foretell 19 = .ok (.iconst (-1), 1) := by decide +kernel
theorem dX7_foretell_20 : decode cX7_foretell 20 = .ok (.invokevirtual 116, 3) := by decide +kernel
theorem dX7_foretell_23 : decode cX7_foretell 23 = .ok (.ireturn, 1) := by decide +kernel
theorem dX7_foretell_24 : decode cX7_foretell 24 = .ok (.iload_n 3, 1) := by decide +kernel
theorem dX7_foretell_25 : decode cX7_foretell 25 = .ok (.ifCond .ge 10, 3) := by decide +kernel
theorem dX7_foretell_28 : decode cX7_foretell 28 = .ok (.aload_n 0, 1) := by decide +kernel
theorem dX7_foretell_29 : decode cX7_foretell 29 = .ok (.bipush (-4), 2) := by decide +kernel
theorem dX7_foretell_31 : decode cX7_foretell 31 = .ok (.invokevirtual 116, 3) := by decide +kernel
theorem dX7_foretell_34 : decode cX7_foretell 34 = .ok (.ireturn, 1) := by decide +kernel
theorem dX7_foretell_35 : decode cX7_foretell 35 = .ok (.iload_n 3, 1) := by decide +kernel
theorem dX7_foretell_36 : decode cX7_foretell 36 = .ok (.sipush 240, 3) := by decide +kernel
theorem dX7_foretell_39 : decode cX7_foretell 39 = .ok (.if_icmp .le 10, 3) := by decide +kernel
theorem dX7_foretell_42 : decode cX7_foretell 42 = .ok (.aload_n 0, 1) := by decide +kernel
theorem dX7_foretell_43 : decode cX7_foretell 43 = .ok (.bipush (-6), 2) := by decide +kernel
theorem dX7_foretell_45 : decode cX7_foretell 45 = .ok (.invokevirtual 116, 3) := by decide +kernel
theorem dX7_foretell_48 : decode cX7_foretell 48 = .ok (.ireturn, 1) := by decide +kernel
theorem dX7_foretell_49 : decode cX7_foretell 49 = .ok (.iconst 0, 1) := by decide +kernel
theorem dX7_foretell_50 : decode cX7_foretell 50 = .ok (.istore 4, 2) := by decide +kernel
theorem dX7_foretell_52 : decode cX7_foretell 52 = .ok (.iconst 0, 1) := by decide +kernel
theorem dX7_foretell_53 : decode cX7_foretell 53 = .ok (.istore 5, 2) := by decide +kernel
theorem dX7_foretell_55 : decode cX7_foretell 55 = .ok (.iload 5, 2) := by decide +kernel
theorem dX7_foretell_57 : decode cX7_foretell 57 = .ok (.iload_n 3, 1) := by decide +kernel
theorem dX7_foretell_58 : decode cX7_foretell 58 = .ok (.if_icmp .ge 27, 3) := by decide +kernel
theorem dX7_foretell_61 : decode cX7_foretell 61 = .ok (.iload 4, 2) := by decide +kernel
theorem dX7_foretell_63 : decode cX7_foretell 63 = .ok (.aload_n 0, 1) := by decide +kernel
theorem dX7_foretell_64 : decode cX7_foretell 64 = .ok (.iload_n 1, 1) := by decide +kernel
theorem dX7_foretell_65 : decode cX7_foretell 65 = .ok (.iload_n 2, 1) := by decide +kernel
theorem dX7_foretell_66 : decode cX7_foretell 66 = .ok (.aload_n 0, 1) := by decide +kernel
theorem dX7_foretell_67 : decode cX7_foretell 67 = .ok (.getfield 153, 3) := by decide +kernel
theorem dX7_foretell_70 : decode cX7_foretell 70 = .ok (.iload 5, 2) := by decide +kernel
theorem dX7_foretell_72 : decode cX7_foretell 72 = .ok (.iadd, 1) := by decide +kernel
theorem dX7_foretell_73 : decode cX7_foretell 73 = .ok (.invokevirtual 159, 3) := by decide +kernel
theorem dX7_foretell_76 : decode cX7_foretell 76 = .ok (.iadd, 1) := by decide +kernel
theorem dX7_foretell_77 : decode cX7_foretell 77 = .ok (.istore 4, 2) := by decide +kernel
theorem dX7_foretell_79 : decode cX7_foretell 79 = .ok (.iinc 5 1, 3) := by decide +kernel
theorem dX7_foretell_82 : decode cX7_foretell 82 = .ok (.goto (-27), 3) := by decide +kernel
theorem dX7_foretell_85 : decode cX7_foretell 85 = .ok (.iload 4, 2) := by decide +kernel
theorem dX7_foretell_87 : decode cX7_foretell 87 = .ok (.ireturn, 1) := by decide +kernel
theorem dX7_when_0 : decode cX7_when 0 = .ok (.aload_n 0, 1) := by decide +kernel
theorem dX7_when_1 : decode cX7_when 1 = .ok (.iload_n 1, 1) := by decide +kernel
theorem dX7_when_2 : decode cX7_when 2 = .ok (.iload_n 2, 1) := by decide +kernel
theorem dX7_when_3 : decode cX7_when 3 = .ok (.invokevirtual 123, 3) := by decide +kernel
theorem dX7_when_6 : decode cX7_when 6 = .ok (.ifCond .ne 9, 3) := by decide +kernel
theorem dX7_when_9 : decode cX7_when 9 = .ok (.aload_n 0, 1) := by decide +kernel
theorem dX7_when_10 : decode cX7_when 10 = .ok (.iconst (-1), 1) := by decide +kernel
theorem dX7_when_11 : decode cX7_when 11 = .ok (.invokevirtual 116, 3) := by decide +kernel
theorem dX7_when_14 : decode cX7_when 14 = .ok (.ireturn, 1) := by decide +kernel
theorem dX7_when_15 : decode cX7_when 15 = .ok (.aload_n 0, 1) := by decide +kernel
theorem dX7_when_16 : decode cX7_when 16 = .ok (.getfield 35, 3) := by decide +kernel
theorem dX7_when_19 : decode cX7_when 19 = .ok (.bipush 8, 2) := by decide +kernel
theorem dX7_when_21 : decode cX7_when 21 = .ok (.iload_n 1, 1) := by decide +kernel
theorem dX7_when_22 : decode cX7_when 22 = .ok (.imul, 1) := by decide +kernel
theorem dX7_when_23 : decode cX7_when 23 = .ok (.iload_n 2, 1) := by decide +kernel
theorem dX7_when_24 : decode cX7_when 24 = .ok (.iadd, 1) := by decide +kernel
theorem dX7_when_25 : decode cX7_when 25 = .ok (.iaload, 1) := by decide +kernel
theorem dX7_when_26 : decode cX7_when 26 = .ok (.istore_n 3, 1) := by decide +kernel
theorem dX7_when_27 : decode cX7_when 27 = .ok (.iconst 0, 1) := by decide +kernel
theorem dX7_when_28 : decode cX7_when 28 = .ok (.istore 4, 2) := by decide +kernel
theorem dX7_when_30 : decode cX7_when 30 = .ok (.iconst 0, 1) := by decide +kernel
theorem dX7_when_31 : decode cX7_when 31 = .ok (.istore 5, 2) := by decide +kernel
theorem dX7_when_33 : decode cX7_when 33 = .ok (.iload 5, 2) := by decide +kernel
theorem dX7_when_35 : decode cX7_when 35 = .ok (.aload_n 0, 1) := by decide +kernel
theorem dX7_when_36 : decode cX7_when 36 = .ok (.getfield 7, 3) := by decide +kernel
theorem dX7_when_39 : decode cX7_when 39 = .ok (.iload_n 1, 1) := by decide +kernel
theorem dX7_when_40 : decode cX7_when 40 = .ok (.iaload, 1) := by decide +kernel
theorem dX7_when_41 : decode cX7_when 41 = .ok (.if_icmp .ge 46, 3) := by decide +kernel
theorem dX7_when_44 : decode cX7_when 44 = .ok (.iload 4, 2) := by decide +kernel
theorem dX7_when_46 : decode cX7_when 46 = .ok (.aload_n 0, 1) := by decide +kernel
theorem dX7_when_47 : decode cX7_when 47 = .ok (.getfield 35, 3) := by decide +kernel
theorem dX7_when_50 : decode cX7_when 50 = .ok (.bipush 8, 2) := by decide +kernel
theorem dX7_when_52 : decode cX7_when 52 = .ok (.iload_n 1, 1) := by decide +kernel
theorem dX7_when_53 : decode cX7_when 53 = .ok (.imul, 1) := by decide +kernel
theorem dX7_when_54 : decode cX7_when 54 = .ok (.iload 5, 2) := by decide +kernel
theorem dX7_when_56 : decode cX7_when 56 = .ok (.iadd, 1) := by decide +kernel
theorem dX7_when_57 : decode cX7_when 57 = .ok (.iaload, 1) := by decide +kernel
theorem dX7_when_58 : decode cX7_when 58 = .ok (.iload_n 3, 1) := by decide +kernel
theorem dX7_when_59 : decode cX7_when 59 = .ok (.if_icmp .ne 18, 3) := by decide +kernel
theorem dX7_when_62 : decode cX7_when 62 = .ok (.aload_n 0, 1) := by decide +kernel
theorem dX7_when_63 : decode cX7_when 63 = .ok (.getfield 44, 3) := by decide +kernel
theorem dX7_when_66 : decode cX7_when 66 = .ok (.bipush 8, 2) := by decide +kernel
theorem dX7_when_68 : decode cX7_when 68 = .ok (.iload_n 1, 1) := by decide +kernel
theorem dX7_when_69 : decode cX7_when 69 = .ok (.imul, 1) := by decide +kernel
theorem dX7_when_70 : decode cX7_when 70 = .ok (.iload 5, 2) := by decide +kernel
theorem dX7_when_72 : decode cX7_when 72 = .ok (.iadd, 1) := by decide +kernel
theorem dX7_when_73 : decode cX7_when 73 = .ok (.iaload, 1) := by decide +kernel
theorem dX7_when_74 : decode cX7_when 74 = .ok (.goto 4, 3) := by decide +kernel
theorem dX7_when_77 : decode cX7_when 77 = .ok (.iconst 0, 1) := by decide +kernel
theorem dX7_when_78 : decode cX7_when 78 = .ok (.iadd, 1) := by decide +kernel
theorem dX7_when_79 : decode cX7_when 79 = .ok (.istore 4, 2) := by decide +kernel
theorem dX7_when_81 : decode cX7_when 81 = .ok (.iinc 5 1, 3) := by decide +kernel
theorem dX7_when_84 : decode cX7_when 84 = .ok (.goto (-51), 3) := by decide +kernel
theorem dX7_when_87 : decode cX7_when 87 = .ok (.iload 4, 2) := by decide +kernel
theorem dX7_when_89 : decode cX7_when 89 = .ok (.ifCond .ne 5, 3) := by decide +kernel
theorem dX7_when_92 : decode cX7_when 92 = .ok (.iconst 0, 1) := by decide +kernel
theorem dX7_when_93 : decode cX7_when 93 = .ok (.ireturn, 1) := by decide +kernel
theorem dX7_when_94 : decode cX7_when 94 = .ok (.iconst 0, 1) := by decide +kernel
theorem dX7_when_95 : decode cX7_when 95 = .ok (.istore 5, 2) := by decide +kernel
theorem dX7_when_97 : decode cX7_when 97 = .ok (.iconst 1, 1) := by decide +kernel
theorem dX7_when_98 : decode cX7_when 98 = .ok (.istore 6, 2) := by decide +kernel
theorem dX7_when_100 : decode cX7_when 100 = .ok (.iload 6, 2) := by decide +kernel
theorem dX7_when_102 : decode cX7_when 102 = .ok (.sipush 240, 3) := by decide +kernel
theorem dX7_when_105 : decode cX7_when 105 = .ok (.if_icmp .gt 43, 3) := by decide +kernel
theorem dX7_when_108 : decode cX7_when 108 = .ok (.iload 5, 2) := by decide +kernel
theorem dX7_when_110 : decode cX7_when 110 = .ok (.aload_n 0, 1) := by decide +kernel
theorem dX7_when_111 : decode cX7_when 111 = .ok (.iload_n 1, 1) := by decide +kernel
theorem dX7_when_112 : decode cX7_when 112 = .ok (.iload_n 3, 1) := by decide +kernel
theorem dX7_when_113 : decode cX7_when 113 = .ok (.aload_n 0, 1) := by decide +kernel
theorem dX7_when_114 : decode cX7_when 114 = .ok (.getfield 153, 3) := by decide +kernel
theorem dX7_when_117 : decode cX7_when 117 = .ok (.iload 6, 2) := by decide +kernel
theorem dX7_when_119 : decode cX7_when 119 = .ok (.iadd, 1) := by decide +kernel
theorem dX7_when_120 : decode cX7_when 120 = .ok (.iconst 1, 1) := by decide +kernel
theorem dX7_when_121 : decode cX7_when 121 = .ok (.isub, 1) := by decide +kernel
theorem dX7_when_122 : decode cX7_when 122 = .ok (.invokevirtual 159, 3) := by decide +kernel
theorem dX7_when_125 : decode cX7_when 125 = .ok (.iadd, 1) := by decide +kernel
theorem dX7_when_126 : decode cX7_when 126 = .ok (.istore 5, 2) := by decide +kernel
theorem dX7_when_128 : decode cX7_when 128 = .ok (.iload 5, 2) := by decide +kernel
theorem dX7_when_130 : decode cX7_when 130 = .ok (.sipush 1000, 3) := by decide +kernel
theorem dX7_when_133 : decode cX7_when 133 = .ok (.iload 4, 2) := by decide +kernel
theorem dX7_when_135 : decode cX7_when 135 = .ok (.imul, 1) := by decide +kernel
theorem dX7_when_136 : decode cX7_when 136 = .ok (.if_icmp .lt 6, 3) := by decide +kernel
theorem dX7_when_139 : decode cX7_when 139 = .ok (.iload 6, 2) := by decide +kernel
theorem dX7_when_141 : decode cX7_when 141 = .ok (.ireturn, 1) := by decide +kernel
theorem dX7_when_142 : decode cX7_when 142 = .ok (.iinc 6 1, 3) := by decide +kernel
theorem dX7_when_145 : decode cX7_when 145 = .ok (.goto (-45), 3) := by decide +kernel
theorem dX7_when_148 : decode cX7_when 148 = .ok (.bipush (-9), 2) := by decide +kernel
theorem dX7_when_150 : decode cX7_when 150 = .ok (.ireturn, 1) := by decide +kernel
end
section
theorem dX7_load_0 : decode cX7_load 0 = .ok (.aload_n 0, 1) := by decide +kernel
theorem dX7_load_1 : decode cX7_load 1 = .ok (.iload_n 1, 1) := by decide +kernel
theorem dX7_load_2 : decode cX7_load 2 = .ok (.invokevirtual 112, 3) := by decide +kernel
theorem dX7_load_5 : decode cX7_load 5 = .ok (.ifCond .ne 9, 3) := by decide +kernel
theorem dX7_load_8 : decode cX7_load 8 = .ok (.aload_n 0, 1) := by decide +kernel
theorem dX7_load_9 : decode cX7_load 9 = .ok (.iconst (-1), 1) := by decide +kernel
theorem dX7_load_10 : decode cX7_load 10 = .ok (.invokevirtual 116, 3) := by decide +kernel
theorem dX7_load_13 : decode cX7_load 13 = .ok (.ireturn, 1) := by decide +kernel
theorem dX7_load_14 : decode cX7_load 14 = .ok (.iload_n 2, 1) := by decide +kernel
theorem dX7_load_15 : decode cX7_load 15 = .ok (.ifCond .ge 10, 3) := by decide +kernel
theorem dX7_load_18 : decode cX7_load 18 = .ok (.aload_n 0, 1) := by decide +kernel
theorem dX7_load_19 : decode cX7_load 19 = .ok (.bipush (-4), 2) := by decide +kernel
theorem dX7_load_21 : decode cX7_load 21 = .ok (.invokevirtual 116, 3) := by decide +kernel
theorem dX7_load_24 : decode cX7_load 24 = .ok (.ireturn, 1) := by decide +kernel
theorem dX7_load_25 : decode cX7_load 25 = .ok (.iload_n 2, 1) := by decide +kernel
theorem dX7_load_26 : decode cX7_load 26 = .ok (.sipush 200, 3) := by decide +kernel
theorem dX7_load_29 : decode cX7_load 29 = .ok (.if_icmp .le 10, 3) := by decide +kernel
theorem dX7_load_32 : decode cX7_load 32 = .ok (.aload_n 0, 1) := by decide +kernel
theorem dX7_load_33 : decode cX7_load 33 = .ok (.bipush (-6), 2) := by decide +kernel
theorem dX7_load_35 : decode cX7_load 35 = .ok (.invokevirtual 116, 3) := by decide +kernel
theorem dX7_load_38 : decode cX7_load 38 = .ok (.ireturn, 1) := by decide +kernel
theorem dX7_load_39 : decode cX7_load 39 = .ok (.iconst 0, 1) := by decide +kernel
theorem dX7_load_40 : decode cX7_load 40 = .ok (.istore_n 3, 1) := by decide +kernel
theorem dX7_load_41 : decode cX7_load 41 = .ok (.iload_n 3, 1) := by decide +kernel
theorem dX7_load_42 : decode cX7_load 42 = .ok (.iload_n 2, 1) := by decide +kernel
theorem dX7_load_43 : decode cX7_load 43 = .ok (.if_icmp .gt 20, 3) := by decide +kernel
theorem dX7_load_46 : decode cX7_load 46 = .ok (.aload_n 0, 1) := by decide +kernel
theorem dX7_load_47 : decode cX7_load 47 = .ok (.getfield 101, 3) := by decide +kernel
theorem dX7_load_50 : decode cX7_load 50 = .ok (.sipush 1608, 3) := by decide +kernel
theorem dX7_load_53 : decode cX7_load 53 = .ok (.iload_n 3, 1) := by decide +kernel
theorem dX7_load_54 : decode cX7_load 54 = .ok (.iadd, 1) := by decide +kernel
theorem dX7_load_55 : decode cX7_load 55 = .ok (.iconst 0, 1) := by decide +kernel
theorem dX7_load_56 : decode cX7_load 56 = .ok (.iastore, 1) := by decide +kernel
theorem dX7_load_57 : decode cX7_load 57 = .ok (.iinc 3 1, 3) := by decide +kernel
theorem dX7_load_60 : decode cX7_load 60 = .ok (.goto (-19), 3) := by decide +kernel
theorem dX7_load_63 : decode cX7_load 63 = .ok (.bipush 7, 2) := by decide +kernel
theorem dX7_load_65 : decode cX7_load 65 = .ok (.istore_n 3, 1) := by decide +kernel
theorem dX7_load_66 : decode cX7_load 66 = .ok (.iload_n 3, 1) := by decide +kernel
theorem dX7_load_67 : decode cX7_load 67 = .ok (.ifCond .lt 128, 3) := by decide +kernel
theorem dX7_load_70 : decode cX7_load 70 = .ok (.iconst 0, 1) := by decide +kernel
theorem dX7_load_71 : decode cX7_load 71 = .ok (.istore 4, 2) := by decide +kernel
theorem dX7_load_73 : decode cX7_load 73 = .ok (.iload 4, 2) := by decide +kernel
theorem dX7_load_75 : decode cX7_load 75 = .ok (.iload_n 2, 1) := by decide +kernel
theorem dX7_load_76 : decode cX7_load 76 = .ok (.if_icmp .gt 113, 3) := by decide +kernel
theorem dX7_load_79 : decode cX7_load 79 = .ok (.iconst 0, 1) := by decide +kernel
theorem dX7_load_80 : decode cX7_load 80 = .ok (.istore 5, 2) := by decide +kernel
theorem dX7_load_82 : decode cX7_load 82 = .ok (.iconst 0, 1) := by decide +kernel
theorem dX7_load_83 : decode cX7_load 83 = .ok (.istore 6, 2) := by decide +kernel
theorem dX7_load_85 : decode cX7_load 85 = .ok (.iload 6, 2) := by decide +kernel
theorem dX7_load_87 : decode cX7_load 87 = .ok (.aload_n 0, 1) := by decide +kernel
theorem dX7_load_88 : decode cX7_load 88 = .ok (.iload_n 1, 1) := by decide +kernel
theorem dX7_load_89 : decode cX7_load 89 = .ok (.iload_n 3, 1) := by decide +kernel
theorem dX7_load_90 : decode cX7_load 90 = .ok (.invokevirtual 163, 3) := by decide +kernel
theorem dX7_load_93 : decode cX7_load 93 = .ok (.if_icmp .gt 75, 3) := by decide +kernel
theorem dX7_load_96 : decode cX7_load 96 = .ok (.iload 6, 2) := by decide +kernel
theorem dX7_load_98 : decode cX7_load 98 = .ok (.aload_n 0, 1) := by decide +kernel
theorem dX7_load_99 : decode cX7_load 99 = .ok (.iload_n 1, 1) := by decide +kernel
theorem dX7_load_100 : decode cX7_load 100 = .ok (.iload_n 3, 1) := by decide +kernel
theorem dX7_load_101 : decode cX7_load 101 = .ok (.invokevirtual 166, 3) := by decide +kernel
theorem dX7_load_104 : decode cX7_load 104 = .ok (.imul, 1) := by decide +kernel
theorem dX7_load_105 : decode cX7_load 105 = .ok (.iload 4, 2) := by decide +kernel
theorem dX7_load_107 : decode cX7_load 107 = .ok (.if_icmp .gt 61, 3) := by decide +kernel
theorem dX7_load_110 : decode cX7_load 110 = .ok (.aload_n 0, 1) := by decide +kernel
theorem dX7_load_111 : decode cX7_load 111 = .ok (.iload_n 1, 1) := by decide +kernel
theorem dX7_load_112 : decode cX7_load 112 = .ok (.iload_n 3, 1) := by decide +kernel
theorem dX7_load_113 : decode cX7_load 113 = .ok (.iload 6, 2) := by decide +kernel
theorem dX7_load_115 : decode cX7_load 115 = .ok (.invokevirtual 169, 3) := by decide +kernel
theorem dX7_load_118 : decode cX7_load 118 = .ok (.aload_n 0, 1) := by decide +kernel
theorem dX7_load_119 : decode cX7_load 119 = .ok (.getfield 101, 3) := by decide +kernel
theorem dX7_load_122 : decode cX7_load 122 = .ok (.sipush 201, 3) := by decide +kernel
theorem dX7_load_125 : decode cX7_load 125 = .ok (.iload_n 3, 1) := by decide +kernel
theorem dX7_load_126 : decode cX7_load 126 = .ok (.iconst 1, 1) := by decide +kernel
theorem dX7_load_127 : decode cX7_load 127 = .ok (.iadd, 1) := by decide +kernel
theorem dX7_load_128 : decode cX7_load 128 = .ok (.imul, 1) := by decide +kernel
theorem dX7_load_129 : decode cX7_load 129 = .ok (.iload 4, 2) := by decide +kernel
theorem dX7_load_131 : decode cX7_load 131 = .ok (.iadd, 1) := by decide +kernel
theorem dX7_load_132 : decode cX7_load 132 = .ok (.iload 6, 2) := by decide +kernel
theorem dX7_load_134 : decode cX7_load 134 = .ok (.aload_n 0, 1) := by decide +kernel
theorem dX7_load_135 : decode cX7_load 135 = .ok (.iload_n 1, 1) := by decide +kernel
theorem dX7_load_136 : decode cX7_load 136 = .ok (.iload_n 3, 1) := by decide +kernel
theorem dX7_load_137 : decode cX7_load 137 = .ok (.invokevirtual 166, 3) := by decide +kernel
theorem dX7_load_140 : decode cX7_load 140 = .ok (.imul, 1) := by decide +kernel
theorem dX7_load_141 : decode cX7_load 141 = .ok (.isub, 1) := by decide +kernel
theorem dX7_load_142 : decode cX7_load 142 = .ok (.iaload, 1) := by decide +kernel
theorem dX7_load_143 : decode cX7_load 143 = .ok (.iadd, 1) := by decide +kernel
theorem dX7_load_144 : decode cX7_load 144 = .ok (.istore 7, 2) := by decide +kernel
theorem dX7_load_146 : decode cX7_load 146 = .ok (.iload 7, 2) := by decide +kernel
theorem dX7_load_148 : decode cX7_load 148 = .ok (.iload 5, 2) := by decide +kernel
theorem dX7_load_150 : decode cX7_load 150 = .ok (.if_icmp .le 8, 3) := by decide +kernel
theorem dX7_load_153 : decode cX7_load 153 = .ok (.iload 7, 2) := by decide +kernel
theorem dX7_load_155 : decode cX7_load 155 = .ok (.goto 5, 3) := by decide +kernel
theorem dX7_load_158 : decode cX7_load 158 = .ok (.iload 5, 2) := by decide +kernel
theorem dX7_load_160 : decode cX7_load 160 = .ok (.istore 5, 2) := by decide +kernel
theorem dX7_load_162 : decode cX7_load 162 = .ok (.iinc 6 1, 3) := by decide +kernel
theorem dX7_load_165 : decode cX7_load 165 = .ok (.goto (-80), 3) := by decide +kernel
theorem dX7_load_168 : decode cX7_load 168 = .ok (.aload_n 0, 1) := by decide +kernel
theorem dX7_load_169 : decode cX7_load 169 = .ok (.getfield 101, 3) := by decide +kernel
theorem dX7_load_172 : decode cX7_load 172 = .ok (.sipush 201, 3) := by decide +kernel
theorem dX7_load_175 : decode cX7_load 175 = .ok (.iload_n 3, 1) := by decide +kernel
theorem dX7_load_176 : decode cX7_load 176 = .ok (.imul, 1) := by decide +kernel
theorem dX7_load_177 : decode cX7_load 177 = .ok (.iload 4, 2) := by decide +kernel
theorem dX7_load_179 : decode cX7_load 179 = .ok (.iadd, 1) := by decide +kernel
theorem dX7_load_180 : decode cX7_load 180 = .ok (.iload 5, 2) := by decide +kernel
theorem dX7_load_182 : decode cX7_load 182 = .ok (.iastore, 1) := by decide +kernel
theorem dX7_load_183 : decode cX7_load 183 = .ok (.iinc 4 1, 3) := by decide +kernel
theorem dX7_load_186 : decode cX7_load 186 = .ok (.goto (-113), 3) := by decide +kernel
theorem dX7_load_189 : decode cX7_load 189 = .ok (.iinc 3 (-1), 3) := by decide +kernel
theorem dX7_load_192 : decode cX7_load 192 = .ok (.goto (-126), 3) := by decide +kernel
theorem dX7_load_195 : decode cX7_load 195 = .ok (.iload_n 2, 1) := by decide +kernel
theorem dX7_load_196 : decode cX7_load 196 = .ok (.istore_n 3, 1) := by decide +kernel
theorem dX7_load_197 : decode cX7_load 197 = .ok (.iconst 0, 1) := by decide +kernel
theorem dX7_load_198 : decode cX7_load 198 = .ok (.istore 4, 2) := by decide +kernel
theorem dX7_load_200 : decode cX7_load 200 = .ok (.iconst 0, 1) := by decide +kernel
theorem dX7_load_201 : decode cX7_load 201 = .ok (.istore 5, 2) := by decide +kernel
theorem dX7_load_203 : decode cX7_load 203 = .ok (.iload 5, 2) := by decide +kernel
theorem dX7_load_205 : decode cX7_load 205 = .ok (.bipush 8, 2) := by decide +kernel
theorem dX7_load_207 : decode cX7_load 207 = .ok (.if_icmp .ge 146, 3) := by decide +kernel
theorem dX7_load_210 : decode cX7_load 210 = .ok (.iload_n 3, 1) := by decide +kernel
theorem dX7_load_211 : decode cX7_load 211 = .ok (.aload_n 0, 1) := by decide +kernel
theorem dX7_load_212 : decode cX7_load 212 = .ok (.iload_n 1, 1) := by decide +kernel
theorem dX7_load_213 : decode cX7_load 213 = .ok (.iload 5, 2) := by decide +kernel
theorem dX7_load_215 : decode cX7_load 215 = .ok (.invokevirtual 166, 3) := by decide +kernel
theorem dX7_load_218 : decode cX7_load 218 = .ok (.idiv, 1) := by decide +kernel
theorem dX7_load_219 : decode cX7_load 219 = .ok (.istore 6, 2) := by decide +kernel
theorem dX7_load_221 : decode cX7_load 221 = .ok (.iload 6, 2) := by decide +kernel
theorem dX7_load_223 : decode cX7_load 223 = .ok (.aload_n 0, 1) := by decide +kernel
theorem dX7_load_224 : decode cX7_load 224 = .ok (.iload_n 1, 1) := by decide +kernel
theorem dX7_load_225 : decode cX7_load 225 = .ok (.iload 5, 2) := by decide +kernel
theorem dX7_load_227 : decode cX7_load 227 = .ok (.invokevirtual 163, 3) := by decide +kernel
theorem dX7_load_230 : decode cX7_load 230 = .ok (.if_icmp .ge 8, 3) := by decide +kernel
theorem dX7_load_233 : decode cX7_load 233 = .ok (.iload 6, 2) := by decide +kernel
theorem dX7_load_235 : decode cX7_load 235 = .ok (.goto 10, 3) := by decide +kernel
theorem dX7_load_238 : decode cX7_load 238 = .ok (.aload_n 0, 1) := by decide +kernel
theorem dX7_load_239 : decode cX7_load 239 = .ok (.iload_n 1, 1) := by decide +kernel
theorem dX7_load_240 : decode cX7_load 240 = .ok (.iload 5, 2) := by decide +kernel
theorem dX7_load_242 : decode cX7_load 242 = .ok (.invokevirtual 163, 3) := by decide +kernel
theorem dX7_load_245 : decode cX7_load 245 = .ok (.istore 6, 2) := by decide +kernel
theorem dX7_load_247 : decode cX7_load 247 = .ok (.aload_n 0, 1) := by decide +kernel
theorem dX7_load_248 : decode cX7_load 248 = .ok (.iload_n 1, 1) := by decide +kernel
theorem dX7_load_249 : decode cX7_load 249 = .ok (.iload 5, 2) := by decide +kernel
theorem dX7_load_251 : decode cX7_load 251 = .ok (.iload 6, 2) := by decide +kernel
theorem dX7_load_253 : decode cX7_load 253 = .ok (.invokevirtual 169, 3) := by decide +kernel
theorem dX7_load_256 : decode cX7_load 256 = .ok (.aload_n 0, 1) := by decide +kernel
theorem dX7_load_257 : decode cX7_load 257 = .ok (.getfield 101, 3) := by decide +kernel
theorem dX7_load_260 : decode cX7_load 260 = .ok (.sipush 201, 3) := by decide +kernel
theorem dX7_load_263 : decode cX7_load 263 = .ok (.iload 5, 2) := by decide +kernel
theorem dX7_load_265 : decode cX7_load 265 = .ok (.iconst 1, 1) := by decide +kernel
theorem dX7_load_266 : decode cX7_load 266 = .ok (.iadd, 1) := by decide +kernel
theorem dX7_load_267 : decode cX7_load 267 = .ok (.imul, 1) := by decide +kernel
theorem dX7_load_268 : decode cX7_load 268 = .ok (.iload_n 3, 1) := by decide +kernel
theorem dX7_load_269 : decode cX7_load 269 = .ok (.iadd, 1) := by decide +kernel
theorem dX7_load_270 : decode cX7_load 270 = .ok (.iload 6, 2) := by decide +kernel
theorem dX7_load_272 : decode cX7_load 272 = .ok (.aload_n 0, 1) := by decide +kernel
theorem dX7_load_273 : decode cX7_load 273 = .ok (.iload_n 1, 1) := by decide +kernel
theorem dX7_load_274 : decode cX7_load 274 = .ok (.iload 5, 2) := by decide +kernel
theorem dX7_load_276 : decode cX7_load 276 = .ok (.invokevirtual 166, 3) := by decide +kernel
theorem dX7_load_279 : decode cX7_load 279 = .ok (.imul, 1) := by decide +kernel
theorem dX7_load_280 : decode cX7_load 280 = .ok (.isub, 1) := by decide +kernel
theorem dX7_load_281 : decode cX7_load 281 = .ok (.iaload, 1) := by decide +kernel
theorem dX7_load_282 : decode cX7_load 282 = .ok (.iadd, 1) := by decide +kernel
theorem dX7_load_283 : decode cX7_load 283 = .ok (.aload_n 0, 1) := by decide +kernel
theorem dX7_load_284 : decode cX7_load 284 = .ok (.getfield 101, 3) := by decide +kernel
theorem dX7_load_287 : decode cX7_load 287 = .ok (.sipush 201, 3) := by decide +kernel
theorem dX7_load_290 : decode cX7_load 290 = .ok (.iload 5, 2) := by decide +kernel
theorem dX7_load_292 : decode cX7_load 292 = .ok (.imul, 1) := by decide +kernel
theorem dX7_load_293 : decode cX7_load 293 = .ok (.iload_n 3, 1) := by decide +kernel
theorem dX7_load_294 : decode cX7_load 294 = .ok (.iadd, 1) := by decide +kernel
theorem dX7_load_295 : decode cX7_load 295 = .ok (.iaload, 1) := by decide +kernel
theorem dX7_load_296 : decode cX7_load 296 = .ok (.if_icmp .eq 9, 3) := by decide +kernel
theorem dX7_load_299 : decode cX7_load 299 = .ok (.iinc 6 (-1), 3) := by decide +kernel
theorem dX7_load_302 : decode cX7_load 302 = .ok (.goto (-55), 3) := by decide +kernel
theorem dX7_load_305 : decode cX7_load 305 = .ok (.aload_n 0, 1) := by decide +kernel
theorem dX7_load_306 : decode cX7_load 306 = .ok (.getfield 89, 3) := by decide +kernel
theorem dX7_load_309 : decode cX7_load 309 = .ok (.iload 5, 2) := by decide +kernel
theorem dX7_load_311 : decode cX7_load 311 = .ok (.iload 6, 2) := by decide +kernel
theorem dX7_load_313 : decode cX7_load 313 = .ok (.iastore, 1) := by decide +kernel
theorem dX7_load_314 : decode cX7_load 314 = .ok (.iload 4, 2) := by decide +kernel
theorem dX7_load_316 : decode cX7_load 316 = .ok (.iload 6, 2) := by decide +kernel
theorem dX7_load_318 : decode cX7_load 318 = .ok (.aload_n 0, 1) := by decide +kernel
theorem dX7_load_319 : decode cX7_load 319 = .ok (.getfield 38, 3) := by decide +kernel
theorem dX7_load_322 : decode cX7_load 322 = .ok (.bipush 8, 2) := by decide +kernel
theorem dX7_load_324 : decode cX7_load 324 = .ok (.iload_n 1, 1) := by decide +kernel
theorem dX7_load_325 : decode cX7_load 325 = .ok (.imul, 1) := by decide +kernel
theorem dX7_load_326 : decode cX7_load 326 = .ok (.iload 5, 2) := by decide +kernel
theorem dX7_load_328 : decode cX7_load 328 = .ok (.iadd, 1) := by decide +kernel
theorem dX7_load_329 : decode cX7_load 329 = .ok (.iaload, 1) := by decide +kernel
theorem dX7_load_330 : decode cX7_load 330 = .ok (.imul, 1) := by decide +kernel
theorem dX7_load_331 : decode cX7_load 331 = .ok (.iadd, 1) := by decide +kernel
theorem dX7_load_332 : decode cX7_load 332 = .ok (.istore 4, 2) := by decide +kernel
theorem dX7_load_334 : decode cX7_load 334 = .ok (.iload_n 3, 1) := by decide +kernel
theorem dX7_load_335 : decode cX7_load 335 = .ok (.iload 6, 2) := by decide +kernel
theorem dX7_load_337 : decode cX7_load 337 = .ok (.aload_n 0, 1) := by decide +kernel
theorem dX7_load_338 : decode cX7_load 338 = .ok (.iload_n 1, 1) := by decide +kernel
theorem dX7_load_339 : decode cX7_load 339 = .ok (.iload 5, 2) := by decide +kernel
theorem dX7_load_341 : decode cX7_load 341 = .ok (.invokevirtual 166, 3) := by decide +kernel
theorem dX7_load_344 : decode cX7_load 344 = .ok (.imul, 1) := by decide +kernel
theorem dX7_load_345 : decode cX7_load 345 = .ok (.isub, 1) := by decide +kernel
theorem dX7_load_346 : decode cX7_load 346 = .ok (.istore_n 3, 1) := by decide +kernel
theorem dX7_load_347 : decode cX7_load 347 = .ok (.iinc 5 1, 3) := by decide +kernel
theorem dX7_load_350 : decode cX7_load 350 = .ok (.goto (-147), 3) := by decide +kernel
theorem dX7_load_353 : decode cX7_load 353 = .ok (.iload 4, 2) := by decide +kernel
theorem dX7_load_355 : decode cX7_load 355 = .ok (.ireturn, 1) := by decide +kernel
theorem dX7_mayTake_0 : decode cX7_mayTake 0 = .ok (.bipush 8, 2) := by decide +kernel
theorem dX7_mayTake_2 : decode cX7_mayTake 2 = .ok (.iload_n 1, 1) := by decide +kernel
theorem dX7_mayTake_3 : decode cX7_mayTake 3 = .ok (.imul, 1) := by decide +kernel
theorem dX7_mayTake_4 : decode cX7_mayTake 4 = .ok (.iload_n 2, 1) := by decide +kernel
theorem dX7_mayTake_5 : decode cX7_mayTake 5 = .ok (.iadd, 1) := by decide +kernel
theorem dX7_mayTake_6 : decode cX7_mayTake 6 = .ok (.istore_n 3, 1) := by decide +kernel
theorem dX7_mayTake_7 : decode cX7_mayTake 7 = .ok (.iload_n 2, 1) := by decide +kernel
theorem dX7_mayTake_8 : decode cX7_mayTake 8 = .ok (.aload_n 0, 1) := by decide +kernel
theorem dX7_mayTake_9 : decode cX7_mayTake 9 = .ok (.getfield 7, 3) := by decide +kernel
theorem dX7_mayTake_12 : decode cX7_mayTake 12 = .ok (.iload_n 1, 1) := by decide +kernel
theorem dX7_mayTake_13 : decode cX7_mayTake 13 = .ok (.iaload, 1) := by decide +kernel
theorem dX7_mayTake_14 : decode cX7_mayTake 14 = .ok (.if_icmp .ge 37, 3) := by decide +kernel
theorem dX7_mayTake_17 : decode cX7_mayTake 17 = .ok (.aload_n 0, 1) := by decide +kernel
theorem dX7_mayTake_18 : decode cX7_mayTake 18 = .ok (.getfield 59, 3) := by decide +kernel
theorem dX7_mayTake_21 : decode cX7_mayTake 21 = .ok (.iload_n 3, 1) := by decide +kernel
theorem dX7_mayTake_22 : decode cX7_mayTake 22 = .ok (.baload, 1) := by decide +kernel
theorem dX7_mayTake_23 : decode cX7_mayTake 23 = .ok (.ifCond .ne 28, 3) := by decide +kernel
theorem dX7_mayTake_26 : decode cX7_mayTake 26 = .ok (.aload_n 0, 1) := by decide +kernel
theorem dX7_mayTake_27 : decode cX7_mayTake 27 = .ok (.getfield 62, 3) := by decide +kernel
theorem dX7_mayTake_30 : decode cX7_mayTake 30 = .ok (.iload_n 3, 1) := by decide +kernel
theorem dX7_mayTake_31 : decode cX7_mayTake 31 = .ok (.baload, 1) := by decide +kernel
theorem dX7_mayTake_32 : decode cX7_mayTake 32 = .ok (.ifCond .ne 19, 3) := by decide +kernel
theorem dX7_mayTake_35 : decode cX7_mayTake 35 = .ok (.aload_n 0, 1) := by decide +kernel
theorem dX7_mayTake_36 : decode cX7_mayTake 36 = .ok (.getfield 41, 3) := by decide +kernel
theorem dX7_mayTake_39 : decode cX7_mayTake 39 = .ok (.iload_n 3, 1) := by decide +kernel
theorem dX7_mayTake_40 : decode cX7_mayTake 40 = .ok (.iaload, 1) := by decide +kernel
theorem dX7_mayTake_41 : decode cX7_mayTake 41 = .ok (.aload_n 0, 1) := by decide +kernel
theorem dX7_mayTake_42 : decode cX7_mayTake 42 = .ok (.getfield 44, 3) := by decide +kernel
theorem dX7_mayTake_45 : decode cX7_mayTake 45 = .ok (.iload_n 3, 1) := by decide +kernel
theorem dX7_mayTake_46 : decode cX7_mayTake 46 = .ok (.iaload, 1) := by decide +kernel
theorem dX7_mayTake_47 : decode cX7_mayTake 47 = .ok (.isub, 1) := by decide +kernel
theorem dX7_mayTake_48 : decode cX7_mayTake 48 = .ok (.goto 4, 3) := by decide +kernel
theorem dX7_mayTake_51 : decode cX7_mayTake 51 = .ok (.iconst 0, 1) := by decide +kernel
theorem dX7_mayTake_52 : decode cX7_mayTake 52 = .ok (.ireturn, 1) := by decide +kernel
theorem dX7_sizeAt_0 : decode cX7_sizeAt 0 = .ok (.aload_n 0, 1) := by decide +kernel
theorem dX7_sizeAt_1 : decode cX7_sizeAt 1 = .ok (.getfield 65, 3) := by decide +kernel
theorem dX7_sizeAt_4 : decode cX7_sizeAt 4 = .ok (.aload_n 0, 1) := by decide +kernel
theorem dX7_sizeAt_5 : decode cX7_sizeAt 5 = .ok (.getfield 35, 3) := by decide +kernel
theorem dX7_sizeAt_8 : decode cX7_sizeAt 8 = .ok (.bipush 8, 2) := by decide +kernel
theorem dX7_sizeAt_10 : decode cX7_sizeAt 10 = .ok (.iload_n 1, 1) := by decide +kernel
theorem dX7_sizeAt_11 : decode cX7_sizeAt 11 = .ok (.imul, 1) := by decide +kernel
theorem dX7_sizeAt_12 : decode cX7_sizeAt 12 = .ok (.iload_n 2, 1) := by decide +kernel
theorem dX7_sizeAt_13 : decode cX7_sizeAt 13 = .ok (.iadd, 1) := by decide +kernel
theorem dX7_sizeAt_14 : decode cX7_sizeAt 14 = .ok (.iaload, 1) := by decide +kernel
theorem dX7_sizeAt_15 : decode cX7_sizeAt 15 = .ok (.iaload, 1) := by decide +kernel
theorem dX7_sizeAt_16 : decode cX7_sizeAt 16 = .ok (.ireturn, 1) := by decide +kernel
theorem dX7_worthAt_0 : decode cX7_worthAt 0 = .ok (.iload_n 3, 1) := by decide +kernel
theorem dX7_worthAt_1 : decode cX7_worthAt 1 = .ok (.sipush 1000, 3) := by decide +kernel
theorem dX7_worthAt_4 : decode cX7_worthAt 4 = .ok (.aload_n 0, 1) := by decide +kernel
theorem dX7_worthAt_5 : decode cX7_worthAt 5 = .ok (.getfield 38, 3) := by decide +kernel
theorem dX7_worthAt_8 : decode cX7_worthAt 8 = .ok (.bipush 8, 2) := by decide +kernel
theorem dX7_worthAt_10 : decode cX7_worthAt 10 = .ok (.iload_n 1, 1) := by decide +kernel
theorem dX7_worthAt_11 : decode cX7_worthAt 11 = .ok (.imul, 1) := by decide +kernel
theorem dX7_worthAt_12 : decode cX7_worthAt 12 = .ok (.iload_n 2, 1) := by decide +kernel
theorem dX7_worthAt_13 : decode cX7_worthAt 13 = .ok (.iadd, 1) := by decide +kernel
theorem dX7_worthAt_14 : decode cX7_worthAt 14 = .ok (.iaload, 1) := by decide +kernel
theorem dX7_worthAt_15 : decode cX7_worthAt 15 = .ok (.imul, 1) := by decide +kernel
theorem dX7_worthAt_16 : decode cX7_worthAt 16 = .ok (.aload_n 0, 1) := by decide +kernel
theorem dX7_worthAt_17 : decode cX7_worthAt 17 = .ok (.iload_n 1, 1) := by decide +kernel
theorem dX7_worthAt_18 : decode cX7_worthAt 18 = .ok (.iload_n 2, 1) := by decide +kernel
theorem dX7_worthAt_19 : decode cX7_worthAt 19 = .ok (.invokevirtual 166, 3) := by decide +kernel
theorem dX7_worthAt_22 : decode cX7_worthAt 22 = .ok (.isub, 1) := by decide +kernel
theorem dX7_worthAt_23 : decode cX7_worthAt 23 = .ok (.imul, 1) := by decide +kernel
theorem dX7_worthAt_24 : decode cX7_worthAt 24 = .ok (.ireturn, 1) := by decide +kernel
theorem dX7_loaded_0 : decode cX7_loaded 0 = .ok (.iload_n 1, 1) := by decide +kernel
theorem dX7_loaded_1 : decode cX7_loaded 1 = .ok (.ifCond .ge 12, 3) := by decide +kernel
theorem dX7_loaded_4 : decode cX7_loaded 4 = .ok (.aload_n 0, 1) := by decide +kernel
theorem dX7_loaded_5 : decode cX7_loaded 5 = .ok (.bipush (-4), 2) := by decide +kernel
theorem dX7_loaded_7 : decode cX7_loaded 7 = .ok (.invokevirtual 116, 3) := by decide +kernel
theorem dX7_loaded_10 : decode cX7_loaded 10 = .ok (.goto 19, 3) := by decide +kernel
theorem dX7_loaded_13 : decode cX7_loaded 13 = .ok (.iload_n 1, 1) := by decide +kernel
theorem dX7_loaded_14 : decode cX7_loaded 14 = .ok (.bipush 8, 2) := by decide +kernel
theorem dX7_loaded_16 : decode cX7_loaded 16 = .ok (.if_icmp .ge 12, 3) := by decide +kernel
theorem dX7_loaded_19 : decode cX7_loaded 19 = .ok (.aload_n 0, 1) := by decide +kernel
theorem dX7_loaded_20 : decode cX7_loaded 20 = .ok (.getfield 89, 3) := by decide +kernel
theorem dX7_loaded_23 : decode cX7_loaded 23 = .ok (.iload_n 1, 1) := by decide +kernel
theorem dX7_loaded_24 : decode cX7_loaded 24 = .ok (.iaload, 1) := by decide +kernel
theorem dX7_loaded_25 : decode cX7_loaded 25 = .ok (.goto 4, 3) := by decide +kernel
theorem dX7_loaded_28 : decode cX7_loaded 28 = .ok (.iconst 0, 1) := by decide +kernel
theorem dX7_loaded_29 : decode cX7_loaded 29 = .ok (.ireturn, 1) := by decide +kernel
theorem dX7_laneOf_0 : decode cX7_laneOf 0 = .ok (.aload_n 0, 1) := by decide +kernel
theorem dX7_laneOf_1 : decode cX7_laneOf 1 = .ok (.iload_n 1, 1) := by decide +kernel
theorem dX7_laneOf_2 : decode cX7_laneOf 2 = .ok (.iload_n 2, 1) := by decide +kernel
theorem dX7_laneOf_3 : decode cX7_laneOf 3 = .ok (.invokevirtual 123, 3) := by decide +kernel
theorem dX7_laneOf_6 : decode cX7_laneOf 6 = .ok (.ifCond .ne 9, 3) := by decide +kernel
theorem dX7_laneOf_9 : decode cX7_laneOf 9 = .ok (.aload_n 0, 1) := by decide +kernel
theorem dX7_laneOf_10 : decode cX7_laneOf 10 = .ok (.iconst (-1), 1) := by decide +kernel
theorem dX7_laneOf_11 : decode cX7_laneOf 11 = .ok (.invokevirtual 116, 3) := by decide +kernel
theorem dX7_laneOf_14 : decode cX7_laneOf 14 = .ok (.ireturn, 1) := by decide +kernel
theorem dX7_laneOf_15 : decode cX7_laneOf 15 = .ok (.bipush 8, 2) := by decide +kernel
theorem dX7_laneOf_17 : decode cX7_laneOf 17 = .ok (.iload_n 1, 1) := by decide +kernel
theorem dX7_laneOf_18 : decode cX7_laneOf 18 = .ok (.imul, 1) := by decide +kernel
theorem dX7_laneOf_19 : decode cX7_laneOf 19 = .ok (.iload_n 2, 1) := by decide +kernel
theorem dX7_laneOf_20 : decode cX7_laneOf 20 = .ok (.iadd, 1) := by decide +kernel
theorem dX7_laneOf_21 : decode cX7_laneOf 21 = .ok (.istore 4, 2) := by decide +kernel
theorem dX7_laneOf_23 : decode cX7_laneOf 23 = .ok (.iload_n 3, 1) := by decide +kernel
theorem dX7_laneOf_24 : decode cX7_laneOf 24 = .ok (.tableswitch 147 0 8 #[52, 60, 68, 76, 84, 92, 108, 116, 132], 52) := by decide +kernel
theorem dX7_laneOf_76 : decode cX7_laneOf 76 = .ok (.aload_n 0, 1) := by decide +kernel
theorem dX7_laneOf_77 : decode cX7_laneOf 77 = .ok (.getfield 35, 3) := by decide +kernel
theorem dX7_laneOf_80 : decode cX7_laneOf 80 = .ok (.iload 4, 2) := by decide +kernel
theorem dX7_laneOf_82 : decode cX7_laneOf 82 = .ok (.iaload, 1) := by decide +kernel
theorem dX7_laneOf_83 : decode cX7_laneOf 83 = .ok (.ireturn, 1) := by decide +kernel
theorem dX7_laneOf_84 : decode cX7_laneOf 84 = .ok (.aload_n 0, 1) := by decide +kernel
theorem dX7_laneOf_85 : decode cX7_laneOf 85 = .ok (.getfield 38, 3) := by decide +kernel
theorem dX7_laneOf_88 : decode cX7_laneOf 88 = .ok (.iload 4, 2) := by decide +kernel
theorem dX7_laneOf_90 : decode cX7_laneOf 90 = .ok (.iaload, 1) := by decide +kernel
theorem dX7_laneOf_91 : decode cX7_laneOf 91 = .ok (.ireturn, 1) := by decide +kernel
theorem dX7_laneOf_92 : decode cX7_laneOf 92 = .ok (.aload_n 0, 1) := by decide +kernel
theorem dX7_laneOf_93 : decode cX7_laneOf 93 = .ok (.getfield 41, 3) := by decide +kernel
theorem dX7_laneOf_96 : decode cX7_laneOf 96 = .ok (.iload 4, 2) := by decide +kernel
theorem dX7_laneOf_98 : decode cX7_laneOf 98 = .ok (.iaload, 1) := by decide +kernel
theorem dX7_laneOf_99 : decode cX7_laneOf 99 = .ok (.ireturn, 1) := by decide +kernel
theorem dX7_laneOf_100 : decode cX7_laneOf 100 = .ok (.aload_n 0, 1) := by decide +kernel
theorem dX7_laneOf_101 : decode cX7_laneOf 101 = .ok (.getfield 44, 3) := by decide +kernel
theorem dX7_laneOf_104 : decode cX7_laneOf 104 = .ok (.iload 4, 2) := by decide +kernel
theorem dX7_laneOf_106 : decode cX7_laneOf 106 = .ok (.iaload, 1) := by decide +kernel
theorem dX7_laneOf_107 : decode cX7_laneOf 107 = .ok (.ireturn, 1) := by decide +kernel
theorem dX7_laneOf_108 : decode cX7_laneOf 108 = .ok (.aload_n 0, 1) := by decide +kernel
theorem dX7_laneOf_109 : decode cX7_laneOf 109 = .ok (.getfield 47, 3) := by decide +kernel
theorem dX7_laneOf_112 : decode cX7_laneOf 112 = .ok (.iload 4, 2) := by decide +kernel
theorem dX7_laneOf_114 : decode cX7_laneOf 114 = .ok (.iaload, 1) := by decide +kernel
theorem dX7_laneOf_115 : decode cX7_laneOf 115 = .ok (.ireturn, 1) := by decide +kernel
theorem dX7_laneOf_116 : decode cX7_laneOf 116 = .ok (.aload_n 0, 1) := by decide +kernel
theorem dX7_laneOf_117 : decode cX7_laneOf 117 = .ok (.getfield 59, 3) := by decide +kernel
theorem dX7_laneOf_120 : decode cX7_laneOf 120 = .ok (.iload 4, 2) := by decide +kernel
theorem dX7_laneOf_122 : decode cX7_laneOf 122 = .ok (.baload, 1) := by decide +kernel
theorem dX7_laneOf_123 : decode cX7_laneOf 123 = .ok (.ifCond .eq 7, 3) := by decide +kernel
theorem dX7_laneOf_126 : decode cX7_laneOf 126 = .ok (.iconst 1, 1) := by decide +kernel
theorem dX7_laneOf_127 : decode cX7_laneOf 127 = .ok (.goto 4, 3) := by decide +kernel
theorem dX7_laneOf_130 : decode cX7_laneOf 130 = .ok (.iconst 0, 1) := by decide +kernel
theorem dX7_laneOf_131 : decode cX7_laneOf 131 = .ok (.ireturn, 1) := by decide +kernel
theorem dX7_laneOf_132 : decode cX7_laneOf 132 = .ok (.aload_n 0, 1) := by decide +kernel
theorem dX7_laneOf_133 : decode cX7_laneOf 133 = .ok (.getfield 56, 3) := by decide +kernel
theorem dX7_laneOf_136 : decode cX7_laneOf 136 = .ok (.iload 4, 2) := by decide +kernel
theorem dX7_laneOf_138 : decode cX7_laneOf 138 = .ok (.iaload, 1) := by decide +kernel
theorem dX7_laneOf_139 : decode cX7_laneOf 139 = .ok (.ireturn, 1) := by decide +kernel
theorem dX7_laneOf_140 : decode cX7_laneOf 140 = .ok (.aload_n 0, 1) := by decide +kernel
theorem dX7_laneOf_141 : decode cX7_laneOf 141 = .ok (.getfield 62, 3) := by decide +kernel
theorem dX7_laneOf_144 : decode cX7_laneOf 144 = .ok (.iload 4, 2) := by decide +kernel
theorem dX7_laneOf_146 : decode cX7_laneOf 146 = .ok (.baload, 1) := by decide +kernel
theorem dX7_laneOf_147 : decode cX7_laneOf 147 = .ok (.ifCond .eq 7, 3) := by decide +kernel
theorem dX7_laneOf_150 : decode cX7_laneOf 150 = .ok (.iconst 1, 1) := by decide +kernel
theorem dX7_laneOf_151 : decode cX7_laneOf 151 = .ok (.goto 4, 3) := by decide +kernel
theorem dX7_laneOf_154 : decode cX7_laneOf 154 = .ok (.iconst 0, 1) := by decide +kernel
theorem dX7_laneOf_155 : decode cX7_laneOf 155 = .ok (.ireturn, 1) := by decide +kernel
theorem dX7_laneOf_156 : decode cX7_laneOf 156 = .ok (.aload_n 0, 1) := by decide +kernel
theorem dX7_laneOf_157 : decode cX7_laneOf 157 = .ok (.iload_n 1, 1) := by decide +kernel
theorem dX7_laneOf_158 : decode cX7_laneOf 158 = .ok (.iload_n 2, 1) := by decide +kernel
theorem dX7_laneOf_159 : decode cX7_laneOf 159 = .ok (.invokevirtual 147, 3) := by decide +kernel
theorem dX7_laneOf_162 : decode cX7_laneOf 162 = .ok (.ifCond .eq 7, 3) := by decide +kernel
theorem dX7_laneOf_165 : decode cX7_laneOf 165 = .ok (.iconst 1, 1) := by decide +kernel
theorem dX7_laneOf_166 : decode cX7_laneOf 166 = .ok (.goto 4, 3) := by decide +kernel
theorem dX7_laneOf_169 : decode cX7_laneOf 169 = .ok (.iconst 0, 1) := by decide +kernel
theorem dX7_laneOf_170 : decode cX7_laneOf 170 = .ok (.ireturn, 1) := by decide +kernel
theorem dX7_laneOf_171 : decode cX7_laneOf 171 = .ok (.aload_n 0, 1) := by decide +kernel
theorem dX7_laneOf_172 : decode cX7_laneOf 172 = .ok (.bipush (-2), 2) := by decide +kernel
theorem dX7_laneOf_174 : decode cX7_laneOf 174 = .ok (.invokevirtual 116, 3) := by decide +kernel
theorem dX7_laneOf_177 : decode cX7_laneOf 177 = .ok (.ireturn, 1) := by decide +kernel
theorem dX7_machineOf_0 : decode cX7_machineOf 0 = .ok (.aload_n 0, 1) := by decide +kernel
theorem dX7_machineOf_1 : decode cX7_machineOf 1 = .ok (.iload_n 1, 1) := by decide +kernel
theorem dX7_machineOf_2 : decode cX7_machineOf 2 = .ok (.invokevirtual 112, 3) := by decide +kernel
theorem dX7_machineOf_5 : decode cX7_machineOf 5 = .ok (.ifCond .eq 13, 3) := by decide +kernel
theorem dX7_machineOf_8 : decode cX7_machineOf 8 = .ok (.iload_n 2, 1) := by decide +kernel
theorem dX7_machineOf_9 : decode cX7_machineOf 9 = .ok (.iconst 0, 1) := by decide +kernel
theorem dX7_machineOf_10 : decode cX7_machineOf 10 = .ok (.bipush 8, 2) := by decide +kernel
theorem dX7_machineOf_12 : decode cX7_machineOf 12 = .ok (.invokestatic 108, 3) := by decide +kernel
theorem dX7_machineOf_15 : decode cX7_machineOf 15 = .ok (.ifCond .ne 25, 3) := by decide +kernel
theorem dX7_machineOf_18 : decode cX7_machineOf 18 = .ok (.ldc 172, 2) := by decide +kernel
theorem dX7_machineOf_20 : decode cX7_machineOf 20 = .ok (.aload_n 0, 1) := by decide +kernel
theorem dX7_machineOf_21 : decode cX7_machineOf 21 = .ok (.aload_n 0, 1) := by decide +kernel
theorem dX7_machineOf_22 : decode cX7_machineOf 22 = .ok (.iload_n 1, 1) := by decide +kernel
theorem dX7_machineOf_23 : decode cX7_machineOf 23 = .ok (.invokevirtual 112, 3) := by decide +kernel
theorem dX7_machineOf_26 : decode cX7_machineOf 26 = .ok (.ifCond .eq 8, 3) := by decide +kernel
theorem dX7_machineOf_29 : decode cX7_machineOf 29 = .ok (.bipush (-2), 2) := by decide +kernel
theorem dX7_machineOf_31 : decode cX7_machineOf 31 = .ok (.goto 4, 3) := by decide +kernel
theorem dX7_machineOf_34 : decode cX7_machineOf 34 = .ok (.iconst (-1), 1) := by decide +kernel
theorem dX7_machineOf_35 : decode cX7_machineOf 35 = .ok (.invokevirtual 116, 3) := by decide +kernel
theorem dX7_machineOf_38 : decode cX7_machineOf 38 = .ok (.isub, 1) := by decide +kernel
theorem dX7_machineOf_39 : decode cX7_machineOf 39 = .ok (.ireturn, 1) := by decide +kernel
theorem dX7_machineOf_40 : decode cX7_machineOf 40 = .ok (.iload_n 2, 1) := by decide +kernel
theorem dX7_machineOf_41 : decode cX7_machineOf 41 = .ok (.tableswitch 112 0 7 #[47, 54, 64, 74, 84, 91, 98, 105], 47) := by decide +kernel
theorem dX7_machineOf_88 : decode cX7_machineOf 88 = .ok (.aload_n 0, 1) := by decide +kernel
theorem dX7_machineOf_89 : decode cX7_machineOf 89 = .ok (.getfield 7, 3) := by decide +kernel
theorem dX7_machineOf_92 : decode cX7_machineOf 92 = .ok (.iload_n 1, 1) := by decide +kernel
theorem dX7_machineOf_93 : decode cX7_machineOf 93 = .ok (.iaload, 1) := by decide +kernel
theorem dX7_machineOf_94 : decode cX7_machineOf 94 = .ok (.ireturn, 1) := by decide +kernel
theorem dX7_machineOf_95 : decode cX7_machineOf 95 = .ok (.aload_n 0, 1) := by decide +kernel
theorem dX7_machineOf_96 : decode cX7_machineOf 96 = .ok (.aload_n 0, 1) := by decide +kernel
theorem dX7_machineOf_97 : decode cX7_machineOf 97 = .ok (.getfield 13, 3) := by decide +kernel
theorem dX7_machineOf_100 : decode cX7_machineOf 100 = .ok (.iload_n 1, 1) := by decide +kernel
theorem dX7_machineOf_101 : decode cX7_machineOf 101 = .ok (.invokevirtual 136, 3) := by decide +kernel
theorem dX7_machineOf_104 : decode cX7_machineOf 104 = .ok (.ireturn, 1) := by decide +kernel
theorem dX7_machineOf_105 : decode cX7_machineOf 105 = .ok (.aload_n 0, 1) := by decide +kernel
theorem dX7_machineOf_106 : decode cX7_machineOf 106 = .ok (.aload_n 0, 1) := by decide +kernel
theorem dX7_machineOf_107 : decode cX7_machineOf 107 = .ok (.getfield 16, 3) := by decide +kernel
theorem dX7_machineOf_110 : decode cX7_machineOf 110 = .ok (.iload_n 1, 1) := by decide +kernel
theorem dX7_machineOf_111 : decode cX7_machineOf 111 = .ok (.invokevirtual 136, 3) := by decide +kernel
theorem dX7_machineOf_114 : decode cX7_machineOf 114 = .ok (.ireturn, 1) := by decide +kernel
theorem dX7_machineOf_115 : decode cX7_machineOf 115 = .ok (.aload_n 0, 1) := by decide +kernel
theorem dX7_machineOf_116 : decode cX7_machineOf 116 = .ok (.aload_n 0, 1) := by decide +kernel
theorem dX7_machineOf_117 : decode cX7_machineOf 117 = .ok (.getfield 19, 3) := by decide +kernel
theorem dX7_machineOf_120 : decode cX7_machineOf 120 = .ok (.iload_n 1, 1) := by decide +kernel
theorem dX7_machineOf_121 : decode cX7_machineOf 121 = .ok (.invokevirtual 136, 3) := by decide +kernel
theorem dX7_machineOf_124 : decode cX7_machineOf 124 = .ok (.ireturn, 1) := by decide +kernel
theorem dX7_machineOf_125 : decode cX7_machineOf 125 = .ok (.aload_n 0, 1) := by decide +kernel
theorem dX7_machineOf_126 : decode cX7_machineOf 126 = .ok (.getfield 74, 3) := by decide +kernel
theorem dX7_machineOf_129 : decode cX7_machineOf 129 = .ok (.iload_n 1, 1) := by decide +kernel
theorem dX7_machineOf_130 : decode cX7_machineOf 130 = .ok (.iaload, 1) := by decide +kernel
theorem dX7_machineOf_131 : decode cX7_machineOf 131 = .ok (.ireturn, 1) := by decide +kernel
theorem dX7_machineOf_132 : decode cX7_machineOf 132 = .ok (.aload_n 0, 1) := by decide +kernel
theorem dX7_machineOf_133 : decode cX7_machineOf 133 = .ok (.getfield 77, 3) := by decide +kernel
theorem dX7_machineOf_136 : decode cX7_machineOf 136 = .ok (.iload_n 1, 1) := by decide +kernel
theorem dX7_machineOf_137 : decode cX7_machineOf 137 = .ok (.iaload, 1) := by decide +kernel
theorem dX7_machineOf_138 : decode cX7_machineOf 138 = .ok (.ireturn, 1) := by decide +kernel
theorem dX7_machineOf_139 : decode cX7_machineOf 139 = .ok (.aload_n 0, 1) := by decide +kernel
theorem dX7_machineOf_140 : decode cX7_machineOf 140 = .ok (.getfield 80, 3) := by decide +kernel
theorem dX7_machineOf_143 : decode cX7_machineOf 143 = .ok (.iload_n 1, 1) := by decide +kernel
theorem dX7_machineOf_144 : decode cX7_machineOf 144 = .ok (.iaload, 1) := by decide +kernel
theorem dX7_machineOf_145 : decode cX7_machineOf 145 = .ok (.ireturn, 1) := by decide +kernel
theorem dX7_machineOf_146 : decode cX7_machineOf 146 = .ok (.aload_n 0, 1) := by decide +kernel
theorem dX7_machineOf_147 : decode cX7_machineOf 147 = .ok (.getfield 83, 3) := by decide +kernel
theorem dX7_machineOf_150 : decode cX7_machineOf 150 = .ok (.iload_n 1, 1) := by decide +kernel
theorem dX7_machineOf_151 : decode cX7_machineOf 151 = .ok (.iaload, 1) := by decide +kernel
theorem dX7_machineOf_152 : decode cX7_machineOf 152 = .ok (.ireturn, 1) := by decide +kernel
theorem dX7_machineOf_153 : decode cX7_machineOf 153 = .ok (.aload_n 0, 1) := by decide +kernel
theorem dX7_machineOf_154 : decode cX7_machineOf 154 = .ok (.getfield 32, 3) := by decide +kernel
theorem dX7_machineOf_157 : decode cX7_machineOf 157 = .ok (.iload_n 1, 1) := by decide +kernel
theorem dX7_machineOf_158 : decode cX7_machineOf 158 = .ok (.iaload, 1) := by decide +kernel
theorem dX7_machineOf_159 : decode cX7_machineOf 159 = .ok (.ireturn, 1) := by decide +kernel
theorem dX7_tubeOf_0 : decode cX7_tubeOf 0 = .ok (.aload_n 0, 1) := by decide +kernel
theorem dX7_tubeOf_1 : decode cX7_tubeOf 1 = .ok (.iload_n 1, 1) := by decide +kernel
theorem dX7_tubeOf_2 : decode cX7_tubeOf 2 = .ok (.invokevirtual 112, 3) := by decide +kernel
theorem dX7_tubeOf_5 : decode cX7_tubeOf 5 = .ok (.ifCond .eq 26, 3) := by decide +kernel
theorem dX7_tubeOf_8 : decode cX7_tubeOf 8 = .ok (.iload_n 2, 1) := by decide +kernel
theorem dX7_tubeOf_9 : decode cX7_tubeOf 9 = .ok (.iconst 0, 1) := by decide +kernel
theorem dX7_tubeOf_10 : decode cX7_tubeOf 10 = .ok (.iconst 5, 1) := by decide +kernel
theorem dX7_tubeOf_11 : decode cX7_tubeOf 11 = .ok (.invokestatic 108, 3) := by decide +kernel
theorem dX7_tubeOf_14 : decode cX7_tubeOf 14 = .ok (.ifCond .eq 17, 3) := by decide +kernel
theorem dX7_tubeOf_17 : decode cX7_tubeOf 17 = .ok (.aload_n 0, 1) := by decide +kernel
theorem dX7_tubeOf_18 : decode cX7_tubeOf 18 = .ok (.getfield 13, 3) := by decide +kernel
theorem dX7_tubeOf_21 : decode cX7_tubeOf 21 = .ok (.bipush 6, 2) := by decide +kernel
theorem dX7_tubeOf_23 : decode cX7_tubeOf 23 = .ok (.iload_n 1, 1) := by decide +kernel
theorem dX7_tubeOf_24 : decode cX7_tubeOf 24 = .ok (.imul, 1) := by decide +kernel
theorem dX7_tubeOf_25 : decode cX7_tubeOf 25 = .ok (.iload_n 2, 1) := by decide +kernel
theorem dX7_tubeOf_26 : decode cX7_tubeOf 26 = .ok (.iadd, 1) := by decide +kernel
theorem dX7_tubeOf_27 : decode cX7_tubeOf 27 = .ok (.iaload, 1) := by decide +kernel
theorem dX7_tubeOf_28 : decode cX7_tubeOf 28 = .ok (.goto 8, 3) := by decide +kernel
theorem dX7_tubeOf_31 : decode cX7_tubeOf 31 = .ok (.aload_n 0, 1) := by decide +kernel
theorem dX7_tubeOf_32 : decode cX7_tubeOf 32 = .ok (.iconst (-1), 1) := by decide +kernel
theorem dX7_tubeOf_33 : decode cX7_tubeOf 33 = .ok (.invokevirtual 116, 3) := by decide +kernel
theorem dX7_tubeOf_36 : decode cX7_tubeOf 36 = .ok (.ireturn, 1) := by decide +kernel
theorem dX7_collect_0 : decode cX7_collect 0 = .ok (.aload_n 0, 1) := by decide +kernel
theorem dX7_collect_1 : decode cX7_collect 1 = .ok (.iload_n 1, 1) := by decide +kernel
theorem dX7_collect_2 : decode cX7_collect 2 = .ok (.invokevirtual 112, 3) := by decide +kernel
theorem dX7_collect_5 : decode cX7_collect 5 = .ok (.ifCond .ne 9, 3) := by decide +kernel
theorem dX7_collect_8 : decode cX7_collect 8 = .ok (.aload_n 0, 1) := by decide +kernel
theorem dX7_collect_9 : decode cX7_collect 9 = .ok (.iconst (-1), 1) := by decide +kernel
theorem dX7_collect_10 : decode cX7_collect 10 = .ok (.invokevirtual 116, 3) := by decide +kernel
theorem dX7_collect_13 : decode cX7_collect 13 = .ok (.ireturn, 1) := by decide +kernel
theorem dX7_collect_14 : decode cX7_collect 14 = .ok (.aload_n 0, 1) := by decide +kernel
theorem dX7_collect_15 : decode cX7_collect 15 = .ok (.aload_n 0, 1) := by decide +kernel
theorem dX7_collect_16 : decode cX7_collect 16 = .ok (.getfield 16, 3) := by decide +kernel
theorem dX7_collect_19 : decode cX7_collect 19 = .ok (.iload_n 1, 1) := by decide +kernel
theorem dX7_collect_20 : decode cX7_collect 20 = .ok (.invokevirtual 136, 3) := by decide +kernel
theorem dX7_collect_23 : decode cX7_collect 23 = .ok (.istore_n 2, 1) := by decide +kernel
theorem dX7_collect_24 : decode cX7_collect 24 = .ok (.bipush 6, 2) := by decide +kernel
theorem dX7_collect_26 : decode cX7_collect 26 = .ok (.iload_n 1, 1) := by decide +kernel
theorem dX7_collect_27 : decode cX7_collect 27 = .ok (.imul, 1) := by decide +kernel
theorem dX7_collect_28 : decode cX7_collect 28 = .ok (.istore_n 3, 1) := by decide +kernel
theorem dX7_collect_29 : decode cX7_collect 29 = .ok (.iload_n 3, 1) := by decide +kernel
theorem dX7_collect_30 : decode cX7_collect 30 = .ok (.bipush 6, 2) := by decide +kernel
theorem dX7_collect_32 : decode cX7_collect 32 = .ok (.iload_n 1, 1) := by decide +kernel
theorem dX7_collect_33 : decode cX7_collect 33 = .ok (.imul, 1) := by decide +kernel
theorem dX7_collect_34 : decode cX7_collect 34 = .ok (.bipush 6, 2) := by decide +kernel
theorem dX7_collect_36 : decode cX7_collect 36 = .ok (.iadd, 1) := by decide +kernel
theorem dX7_collect_37 : decode cX7_collect 37 = .ok (.if_icmp .ge 31, 3) := by decide +kernel
theorem dX7_collect_40 : decode cX7_collect 40 = .ok (.aload_n 0, 1) := by decide +kernel
theorem dX7_collect_41 : decode cX7_collect 41 = .ok (.getfield 25, 3) := by decide +kernel
theorem dX7_collect_44 : decode cX7_collect 44 = .ok (.iload_n 3, 1) := by decide +kernel
theorem dX7_collect_45 : decode cX7_collect 45 = .ok (.dup2, 1) := by decide +kernel
theorem dX7_collect_46 : decode cX7_collect 46 = .ok (.iaload, 1) := by decide +kernel
theorem dX7_collect_47 : decode cX7_collect 47 = .ok (.aload_n 0, 1) := by decide +kernel
theorem dX7_collect_48 : decode cX7_collect 48 = .ok (.getfield 16, 3) := by decide +kernel
theorem dX7_collect_51 : decode cX7_collect 51 = .ok (.iload_n 3, 1) := by decide +kernel
theorem dX7_collect_52 : decode cX7_collect 52 = .ok (.iaload, 1) := by decide +kernel
theorem dX7_collect_53 : decode cX7_collect 53 = .ok (.iadd, 1) := by decide +kernel
theorem dX7_collect_54 : decode cX7_collect 54 = .ok (.iastore, 1) := by decide +kernel
theorem dX7_collect_55 : decode cX7_collect 55 = .ok (.aload_n 0, 1) := by decide +kernel
theorem dX7_collect_56 : decode cX7_collect 56 = .ok (.getfield 16, 3) := by decide +kernel
theorem dX7_collect_59 : decode cX7_collect 59 = .ok (.iload_n 3, 1) := by decide +kernel
theorem dX7_collect_60 : decode cX7_collect 60 = .ok (.iconst 0, 1) := by decide +kernel
theorem dX7_collect_61 : decode cX7_collect 61 = .ok (.iastore, 1) := by decide +kernel
theorem dX7_collect_62 : decode cX7_collect 62 = .ok (.iinc 3 1, 3) := by decide +kernel
theorem dX7_collect_65 : decode cX7_collect 65 = .ok (.goto (-36), 3) := by decide +kernel
theorem dX7_collect_68 : decode cX7_collect 68 = .ok (.iload_n 2, 1) := by decide +kernel
theorem dX7_collect_69 : decode cX7_collect 69 = .ok (.ireturn, 1) := by decide +kernel
theorem dX7_check_0 : decode cX7_check 0 = .ok (.aload_n 0, 1) := by decide +kernel
theorem dX7_check_1 : decode cX7_check 1 = .ok (.iload_n 1, 1) := by decide +kernel
theorem dX7_check_2 : decode cX7_check 2 = .ok (.invokevirtual 112, 3) := by decide +kernel
theorem dX7_check_5 : decode cX7_check 5 = .ok (.ifCond .ne 5, 3) := by decide +kernel
theorem dX7_check_8 : decode cX7_check 8 = .ok (.iconst 0, 1) := by decide +kernel
theorem dX7_check_9 : decode cX7_check 9 = .ok (.ireturn, 1) := by decide +kernel
theorem dX7_check_10 : decode cX7_check 10 = .ok (.aload_n 0, 1) := by decide +kernel
theorem dX7_check_11 : decode cX7_check 11 = .ok (.getfield 80, 3) := by decide +kernel
theorem dX7_check_14 : decode cX7_check 14 = .ok (.iload_n 1, 1) := by decide +kernel
theorem dX7_check_15 : decode cX7_check 15 = .ok (.iaload, 1) := by decide +kernel
theorem dX7_check_16 : decode cX7_check 16 = .ok (.aload_n 0, 1) := by decide +kernel
theorem dX7_check_17 : decode cX7_check 17 = .ok (.getfield 77, 3) := by decide +kernel
theorem dX7_check_20 : decode cX7_check 20 = .ok (.iload_n 1, 1) := by decide +kernel
theorem dX7_check_21 : decode cX7_check 21 = .ok (.iaload, 1) := by decide +kernel
theorem dX7_check_22 : decode cX7_check 22 = .ok (.iadd, 1) := by decide +kernel
theorem dX7_check_23 : decode cX7_check 23 = .ok (.aload_n 0, 1) := by decide +kernel
theorem dX7_check_24 : decode cX7_check 24 = .ok (.getfield 74, 3) := by decide +kernel
theorem dX7_check_27 : decode cX7_check 27 = .ok (.iload_n 1, 1) := by decide +kernel
theorem dX7_check_28 : decode cX7_check 28 = .ok (.iaload, 1) := by decide +kernel
theorem dX7_check_29 : decode cX7_check 29 = .ok (.iadd, 1) := by decide +kernel
theorem dX7_check_30 : decode cX7_check 30 = .ok (.istore_n 2, 1) := by decide +kernel
theorem dX7_check_31 : decode cX7_check 31 = .ok (.bipush 8, 2) := by decide +kernel
theorem dX7_check_33 : decode cX7_check 33 = .ok (.iload_n 1, 1) := by decide +kernel
theorem dX7_check_34 : decode cX7_check 34 = .ok (.imul, 1) := by decide +kernel
theorem dX7_check_35 : decode cX7_check 35 = .ok (.istore_n 3, 1) := by decide +kernel
theorem dX7_check_36 : decode cX7_check 36 = .ok (.iload_n 3, 1) := by decide +kernel
theorem dX7_check_37 : decode cX7_check 37 = .ok (.bipush 8, 2) := by decide +kernel
theorem dX7_check_39 : decode cX7_check 39 = .ok (.iload_n 1, 1) := by decide +kernel
theorem dX7_check_40 : decode cX7_check 40 = .ok (.imul, 1) := by decide +kernel
theorem dX7_check_41 : decode cX7_check 41 = .ok (.aload_n 0, 1) := by decide +kernel
theorem dX7_check_42 : decode cX7_check 42 = .ok (.getfield 7, 3) := by decide +kernel
theorem dX7_check_45 : decode cX7_check 45 = .ok (.iload_n 1, 1) := by decide +kernel
theorem dX7_check_46 : decode cX7_check 46 = .ok (.iaload, 1) := by decide +kernel
theorem dX7_check_47 : decode cX7_check 47 = .ok (.iadd, 1) := by decide +kernel
theorem dX7_check_48 : decode cX7_check 48 = .ok (.if_icmp .ge 18, 3) := by decide +kernel
theorem dX7_check_51 : decode cX7_check 51 = .ok (.iload_n 2, 1) := by decide +kernel
theorem dX7_check_52 : decode cX7_check 52 = .ok (.aload_n 0, 1) := by decide +kernel
theorem dX7_check_53 : decode cX7_check 53 = .ok (.getfield 44, 3) := by decide +kernel
theorem dX7_check_56 : decode cX7_check 56 = .ok (.iload_n 3, 1) := by decide +kernel
theorem dX7_check_57 : decode cX7_check 57 = .ok (.iaload, 1) := by decide +kernel
theorem dX7_check_58 : decode cX7_check 58 = .ok (.iadd, 1) := by decide +kernel
theorem dX7_check_59 : decode cX7_check 59 = .ok (.istore_n 2, 1) := by decide +kernel
theorem dX7_check_60 : decode cX7_check 60 = .ok (.iinc 3 1, 3) := by decide +kernel
theorem dX7_check_63 : decode cX7_check 63 = .ok (.goto (-27), 3) := by decide +kernel
theorem dX7_check_66 : decode cX7_check 66 = .ok (.iload_n 2, 1) := by decide +kernel
theorem dX7_check_67 : decode cX7_check 67 = .ok (.aload_n 0, 1) := by decide +kernel
theorem dX7_check_68 : decode cX7_check 68 = .ok (.getfield 83, 3) := by decide +kernel
theorem dX7_check_71 : decode cX7_check 71 = .ok (.iload_n 1, 1) := by decide +kernel
theorem dX7_check_72 : decode cX7_check 72 = .ok (.iaload, 1) := by decide +kernel
theorem dX7_check_73 : decode cX7_check 73 = .ok (.if_icmp .ne 7, 3) := by decide +kernel
theorem dX7_check_76 : decode cX7_check 76 = .ok (.iconst 1, 1) := by decide +kernel
theorem dX7_check_77 : decode cX7_check 77 = .ok (.goto 4, 3) := by decide +kernel
theorem dX7_check_80 : decode cX7_check 80 = .ok (.iconst 0, 1) := by decide +kernel
theorem dX7_check_81 : decode cX7_check 81 = .ok (.istore_n 3, 1) := by decide +kernel
theorem dX7_check_82 : decode cX7_check 82 = .ok (.bipush 6, 2) := by decide +kernel
theorem dX7_check_84 : decode cX7_check 84 = .ok (.iload_n 1, 1) := by decide +kernel
theorem dX7_check_85 : decode cX7_check 85 = .ok (.imul, 1) := by decide +kernel
theorem dX7_check_86 : decode cX7_check 86 = .ok (.istore 4, 2) := by decide +kernel
theorem dX7_check_88 : decode cX7_check 88 = .ok (.iload 4, 2) := by decide +kernel
theorem dX7_check_90 : decode cX7_check 90 = .ok (.bipush 6, 2) := by decide +kernel
theorem dX7_check_92 : decode cX7_check 92 = .ok (.iload_n 1, 1) := by decide +kernel
theorem dX7_check_93 : decode cX7_check 93 = .ok (.imul, 1) := by decide +kernel
theorem dX7_check_94 : decode cX7_check 94 = .ok (.bipush 6, 2) := by decide +kernel
theorem dX7_check_96 : decode cX7_check 96 = .ok (.iadd, 1) := by decide +kernel
theorem dX7_check_97 : decode cX7_check 97 = .ok (.if_icmp .ge 60, 3) := by decide +kernel
theorem dX7_check_100 : decode cX7_check 100 = .ok (.iload_n 3, 1) := by decide +kernel
theorem dX7_check_101 : decode cX7_check 101 = .ok (.ifCond .eq 48, 3) := by decide +kernel
theorem dX7_check_104 : decode cX7_check 104 = .ok (.aload_n 0, 1) := by decide +kernel
theorem dX7_check_105 : decode cX7_check 105 = .ok (.getfield 22, 3) := by decide +kernel
theorem dX7_check_108 : decode cX7_check 108 = .ok (.iload 4, 2) := by decide +kernel
theorem dX7_check_110 : decode cX7_check 110 = .ok (.iaload, 1) := by decide +kernel
theorem dX7_check_111 : decode cX7_check 111 = .ok (.aload_n 0, 1) := by decide +kernel
theorem dX7_check_112 : decode cX7_check 112 = .ok (.getfield 13, 3) := by decide +kernel
theorem dX7_check_115 : decode cX7_check 115 = .ok (.iload 4, 2) := by decide +kernel
theorem dX7_check_117 : decode cX7_check 117 = .ok (.iaload, 1) := by decide +kernel
theorem dX7_check_118 : decode cX7_check 118 = .ok (.aload_n 0, 1) := by decide +kernel
theorem dX7_check_119 : decode cX7_check 119 = .ok (.getfield 16, 3) := by decide +kernel
theorem dX7_check_122 : decode cX7_check 122 = .ok (.iload 4, 2) := by decide +kernel
theorem dX7_check_124 : decode cX7_check 124 = .ok (.iaload, 1) := by decide +kernel
theorem dX7_check_125 : decode cX7_check 125 = .ok (.iadd, 1) := by decide +kernel
theorem dX7_check_126 : decode cX7_check 126 = .ok (.aload_n 0, 1) := by decide +kernel
theorem dX7_check_127 : decode cX7_check 127 = .ok (.getfield 19, 3) := by decide +kernel
theorem dX7_check_130 : decode cX7_check 130 = .ok (.iload 4, 2) := by decide +kernel
theorem dX7_check_132 : decode cX7_check 132 = .ok (.iaload, 1) := by decide +kernel
theorem dX7_check_133 : decode cX7_check 133 = .ok (.iadd, 1) := by decide +kernel
theorem dX7_check_134 : decode cX7_check 134 = .ok (.aload_n 0, 1) := by decide +kernel
theorem dX7_check_135 : decode cX7_check 135 = .ok (.getfield 25, 3) := by decide +kernel
theorem dX7_check_138 : decode cX7_check 138 = .ok (.iload 4, 2) := by decide +kernel
theorem dX7_check_140 : decode cX7_check 140 = .ok (.iaload, 1) := by decide +kernel
theorem dX7_check_141 : decode cX7_check 141 = .ok (.iadd, 1) := by decide +kernel
theorem dX7_check_142 : decode cX7_check 142 = .ok (.if_icmp .ne 7, 3) := by decide +kernel
theorem dX7_check_145 : decode cX7_check 145 = .ok (.iconst 1, 1) := by decide +kernel
theorem dX7_check_146 : decode cX7_check 146 = .ok (.goto 4, 3) := by decide +kernel
theorem dX7_check_149 : decode cX7_check 149 = .ok (.iconst 0, 1) := by decide +kernel
theorem dX7_check_150 : decode cX7_check 150 = .ok (.istore_n 3, 1) := by decide +kernel
theorem dX7_check_151 : decode cX7_check 151 = .ok (.iinc 4 1, 3) := by decide +kernel
theorem dX7_check_154 : decode cX7_check 154 = .ok (.goto (-66), 3) := by decide +kernel
theorem dX7_check_157 : decode cX7_check 157 = .ok (.iload_n 3, 1) := by decide +kernel
theorem dX7_check_158 : decode cX7_check 158 = .ok (.ireturn, 1) := by decide +kernel
theorem dX7_count_0 : decode cX7_count 0 = .ok (.iconst 0, 1) := by decide +kernel
theorem dX7_count_1 : decode cX7_count 1 = .ok (.istore_n 2, 1) := by decide +kernel
theorem dX7_count_2 : decode cX7_count 2 = .ok (.iload_n 1, 1) := by decide +kernel
theorem dX7_count_3 : decode cX7_count 3 = .ok (.tableswitch 71 0 3 #[29, 34, 39, 66], 29) := by decide +kernel
theorem dX7_count_32 : decode cX7_count 32 = .ok (.aload_n 0, 1) := by decide +kernel
theorem dX7_count_33 : decode cX7_count 33 = .ok (.getfield 153, 3) := by decide +kernel
theorem dX7_count_36 : decode cX7_count 36 = .ok (.ireturn, 1) := by decide +kernel
theorem dX7_count_37 : decode cX7_count 37 = .ok (.aload_n 0, 1) := by decide +kernel
theorem dX7_count_38 : decode cX7_count 38 = .ok (.getfield 104, 3) := by decide +kernel
theorem dX7_count_41 : decode cX7_count 41 = .ok (.ireturn, 1) := by decide +kernel
theorem dX7_count_42 : decode cX7_count 42 = .ok (.iconst 0, 1) := by decide +kernel
theorem dX7_count_43 : decode cX7_count 43 = .ok (.istore_n 3, 1) := by decide +kernel
theorem dX7_count_44 : decode cX7_count 44 = .ok (.iload_n 3, 1) := by decide +kernel
theorem dX7_count_45 : decode cX7_count 45 = .ok (.aload_n 0, 1) := by decide +kernel
theorem dX7_count_46 : decode cX7_count 46 = .ok (.getfield 104, 3) := by decide +kernel
theorem dX7_count_49 : decode cX7_count 49 = .ok (.if_icmp .ge 18, 3) := by decide +kernel
theorem dX7_count_52 : decode cX7_count 52 = .ok (.iload_n 2, 1) := by decide +kernel
theorem dX7_count_53 : decode cX7_count 53 = .ok (.aload_n 0, 1) := by decide +kernel
theorem dX7_count_54 : decode cX7_count 54 = .ok (.getfield 80, 3) := by decide +kernel
theorem dX7_count_57 : decode cX7_count 57 = .ok (.iload_n 3, 1) := by decide +kernel
theorem dX7_count_58 : decode cX7_count 58 = .ok (.iaload, 1) := by decide +kernel
theorem dX7_count_59 : decode cX7_count 59 = .ok (.iadd, 1) := by decide +kernel
theorem dX7_count_60 : decode cX7_count 60 = .ok (.istore_n 2, 1) := by decide +kernel
theorem dX7_count_61 : decode cX7_count 61 = .ok (.iinc 3 1, 3) := by decide +kernel
theorem dX7_count_64 : decode cX7_count 64 = .ok (.goto (-20), 3) := by decide +kernel
theorem dX7_count_67 : decode cX7_count 67 = .ok (.iload_n 2, 1) := by decide +kernel
theorem dX7_count_68 : decode cX7_count 68 = .ok (.ireturn, 1) := by decide +kernel
theorem dX7_count_69 : decode cX7_count 69 = .ok (.aload_n 0, 1) := by decide +kernel
theorem dX7_count_70 : decode cX7_count 70 = .ok (.getfield 150, 3) := by decide +kernel
theorem dX7_count_73 : decode cX7_count 73 = .ok (.ireturn, 1) := by decide +kernel
theorem dX7_count_74 : decode cX7_count 74 = .ok (.iload_n 1, 1) := by decide +kernel
theorem dX7_count_75 : decode cX7_count 75 = .ok (.bipush 11, 2) := by decide +kernel
theorem dX7_count_77 : decode cX7_count 77 = .ok (.bipush 16, 2) := by decide +kernel
theorem dX7_count_79 : decode cX7_count 79 = .ok (.invokestatic 108, 3) := by decide +kernel
theorem dX7_count_82 : decode cX7_count 82 = .ok (.ifCond .eq 15, 3) := by decide +kernel
theorem dX7_count_85 : decode cX7_count 85 = .ok (.aload_n 0, 1) := by decide +kernel
theorem dX7_count_86 : decode cX7_count 86 = .ok (.getfield 92, 3) := by decide +kernel
theorem dX7_count_89 : decode cX7_count 89 = .ok (.iload_n 1, 1) := by decide +kernel
theorem dX7_count_90 : decode cX7_count 90 = .ok (.bipush 10, 2) := by decide +kernel
theorem dX7_count_92 : decode cX7_count 92 = .ok (.isub, 1) := by decide +kernel
theorem dX7_count_93 : decode cX7_count 93 = .ok (.iaload, 1) := by decide +kernel
theorem dX7_count_94 : decode cX7_count 94 = .ok (.goto 5, 3) := by decide +kernel
theorem dX7_count_97 : decode cX7_count 97 = .ok (.bipush (-9), 2) := by decide +kernel
theorem dX7_count_99 : decode cX7_count 99 = .ok (.ireturn, 1) := by decide +kernel
end
section
theorem dL_law_0 : decode cL_law 0 = .ok (.new 7, 3) := by decide +kernel
theorem dL_law_3 : decode cL_law 3 = .ok (.dup, 1) := by decide +kernel
theorem dL_law_4 : decode cL_law 4 = .ok (.invokespecial 9, 3) := by decide +kernel
theorem dL_law_7 : decode cL_law 7 = .ok (.astore_n 1, 1) := by decide +kernel
theorem dL_law_8 : decode cL_law 8 = .ok (.new 10, 3) := by decide +kernel
theorem dL_law_11 : decode cL_law 11 = .ok (.dup, 1) := by decide +kernel
theorem dL_law_12 : decode cL_law 12 = .ok (.invokespecial 12, 3) := by decide +kernel
theorem dL_law_15 : decode cL_law 15 = .ok (.astore_n 2, 1) := by decide +kernel
theorem dL_law_16 : decode cL_law 16 = .ok (.iconst 0, 1) := by decide +kernel
theorem dL_law_17 : decode cL_law 17 = .ok (.istore_n 3, 1) := by decide +kernel
theorem dL_law_18 : decode cL_law 18 = .ok (.iload_n 3, 1) := by decide +kernel
theorem dL_law_19 : decode cL_law 19 = .ok (.aload_n 0, 1) := by decide +kernel
theorem dL_law_20 : decode cL_law 20 = .ok (.arraylength, 1) := by decide +kernel
theorem dL_law_21 : decode cL_law 21 = .ok (.bipush 7, 2) := by decide +kernel
theorem dL_law_23 : decode cL_law 23 = .ok (.isub, 1) := by decide +kernel
theorem dL_law_24 : decode cL_law 24 = .ok (.if_icmp .gt 1150, 3) := by decide +kernel
theorem dL_law_27 : decode cL_law 27 = .ok (.aload_n 0, 1) := by decide +kernel
theorem dL_law_28 : decode cL_law 28 = .ok (.iload_n 3, 1) := by decide +kernel
theorem dL_law_29 : decode cL_law 29 = .ok (.iaload, 1) := by decide +kernel
theorem dL_law_30 : decode cL_law 30 = .ok (.bipush 31, 2) := by decide +kernel
theorem dL_law_32 : decode cL_law 32 = .ok (.iand, 1) := by decide +kernel
theorem dL_law_33 : decode cL_law 33 = .ok (.tableswitch 1135 0 27 #[127, 140, 215, 248, 291, 334, 377, 436, 485, 528, 571, 604, 637, 660, 693, 716, 749, 772, 825, 868, 901, 934, 957, 1000, 1033, 1066, 1089, 1112], 127) := by decide +kernel
theorem dL_law_160 : decode cL_law 160 = .ok (.aload_n 1, 1) := by decide +kernel
theorem dL_law_161 : decode cL_law 161 = .ok (.invokevirtual 13, 3) := by decide +kernel
theorem dL_law_164 : decode cL_law 164 = .ok (.aload_n 2, 1) := by decide +kernel
theorem dL_law_165 : decode cL_law 165 = .ok (.invokevirtual 17, 3) := by decide +kernel
theorem dL_law_168 : decode cL_law 168 = .ok (.if_icmp .eq 1000, 3) := by decide +kernel
theorem dL_law_171 : decode cL_law 171 = .ok (.iconst 0, 1) := by decide +kernel
theorem dL_law_172 : decode cL_law 172 = .ok (.ireturn, 1) := by decide +kernel
theorem dL_law_173 : decode cL_law 173 = .ok (.aload_n 1, 1) := by decide +kernel
theorem dL_law_174 : decode cL_law 174 = .ok (.aload_n 0, 1) := by decide +kernel
theorem dL_law_175 : decode cL_law 175 = .ok (.iload_n 3, 1) := by decide +kernel
theorem dL_law_176 : decode cL_law 176 = .ok (.iconst 1, 1) := by decide +kernel
theorem dL_law_177 : decode cL_law 177 = .ok (.iadd, 1) := by decide +kernel
theorem dL_law_178 : decode cL_law 178 = .ok (.iaload, 1) := by decide +kernel
theorem dL_law_179 : decode cL_law 179 = .ok (.aload_n 0, 1) := by decide +kernel
theorem dL_law_180 : decode cL_law 180 = .ok (.iload_n 3, 1) := by decide +kernel
theorem dL_law_181 : decode cL_law 181 = .ok (.iconst 2, 1) := by decide +kernel
theorem dL_law_182 : decode cL_law 182 = .ok (.iadd, 1) := by decide +kernel
theorem dL_law_183 : decode cL_law 183 = .ok (.iaload, 1) := by decide +kernel
theorem dL_law_184 : decode cL_law 184 = .ok (.aload_n 0, 1) := by decide +kernel
theorem dL_law_185 : decode cL_law 185 = .ok (.iload_n 3, 1) := by decide +kernel
theorem dL_law_186 : decode cL_law 186 = .ok (.iconst 3, 1) := by decide +kernel
theorem dL_law_187 : decode cL_law 187 = .ok (.iadd, 1) := by decide +kernel
theorem dL_law_188 : decode cL_law 188 = .ok (.iaload, 1) := by decide +kernel
theorem dL_law_189 : decode cL_law 189 = .ok (.aload_n 0, 1) := by decide +kernel
theorem dL_law_190 : decode cL_law 190 = .ok (.iload_n 3, 1) := by decide +kernel
theorem dL_law_191 : decode cL_law 191 = .ok (.iconst 4, 1) := by decide +kernel
theorem dL_law_192 : decode cL_law 192 = .ok (.iadd, 1) := by decide +kernel
theorem dL_law_193 : decode cL_law 193 = .ok (.iaload, 1) := by decide +kernel
theorem dL_law_194 : decode cL_law 194 = .ok (.aload_n 0, 1) := by decide +kernel
theorem dL_law_195 : decode cL_law 195 = .ok (.iload_n 3, 1) := by decide +kernel
theorem dL_law_196 : decode cL_law 196 = .ok (.iconst 5, 1) := by decide +kernel
theorem dL_law_197 : decode cL_law 197 = .ok (.iadd, 1) := by decide +kernel
theorem dL_law_198 : decode cL_law 198 = .ok (.iaload, 1) := by decide +kernel
theorem dL_law_199 : decode cL_law 199 = .ok (.aload_n 0, 1) := by decide +kernel
theorem dL_law_200 : decode cL_law 200 = .ok (.iload_n 3, 1) := by decide +kernel
theorem dL_law_201 : decode cL_law 201 = .ok (.bipush 6, 2) := by decide +kernel
theorem dL_law_203 : decode cL_law 203 = .ok (.iadd, 1) := by decide +kernel
theorem dL_law_204 : decode cL_law 204 = .ok (.iaload, 1) := by decide +kernel
theorem dL_law_205 : decode cL_law 205 = .ok (.invokevirtual 18, 3) := by decide +kernel
theorem dL_law_208 : decode cL_law 208 = .ok (.aload_n 2, 1) := by decide +kernel
theorem dL_law_209 : decode cL_law 209 = .ok (.aload_n 0, 1) := by decide +kernel
theorem dL_law_210 : decode cL_law 210 = .ok (.iload_n 3, 1) := by decide +kernel
theorem dL_law_211 : decode cL_law 211 = .ok (.iconst 1, 1) := by decide +kernel
theorem dL_law_212 : decode cL_law 212 = .ok (.iadd, 1) := by decide +kernel
theorem dL_law_213 : decode cL_law 213 = .ok (.iaload, 1) := by decide +kernel
theorem dL_law_214 : decode cL_law 214 = .ok (.aload_n 0, 1) := by decide +kernel
theorem dL_law_215 : decode cL_law 215 = .ok (.iload_n 3, 1) := by decide +kernel
theorem dL_law_216 : decode cL_law 216 = .ok (.iconst 2, 1) := by decide +kernel
theorem dL_law_217 : decode cL_law 217 = .ok (.iadd, 1) := by decide +kernel
theorem dL_law_218 : decode cL_law 218 = .ok (.iaload, 1) := by decide +kernel
theorem dL_law_219 : decode cL_law 219 = .ok (.aload_n 0, 1) := by decide +kernel
theorem dL_law_220 : decode cL_law 220 = .ok (.iload_n 3, 1) := by decide +kernel
theorem dL_law_221 : decode cL_law 221 = .ok (.iconst 3, 1) := by decide +kernel
theorem dL_law_222 : decode cL_law 222 = .ok (.iadd, 1) := by decide +kernel
theorem dL_law_223 : decode cL_law 223 = .ok (.iaload, 1) := by decide +kernel
theorem dL_law_224 : decode cL_law 224 = .ok (.aload_n 0, 1) := by decide +kernel
theorem dL_law_225 : decode cL_law 225 = .ok (.iload_n 3, 1) := by decide +kernel
theorem dL_law_226 : decode cL_law 226 = .ok (.iconst 4, 1) := by decide +kernel
theorem dL_law_227 : decode cL_law 227 = .ok (.iadd, 1) := by decide +kernel
theorem dL_law_228 : decode cL_law 228 = .ok (.iaload, 1) := by decide +kernel
theorem dL_law_229 : decode cL_law 229 = .ok (.aload_n 0, 1) := by decide +kernel
theorem dL_law_230 : decode cL_law 230 = .ok (.iload_n 3, 1) := by decide +kernel
theorem dL_law_231 : decode cL_law 231 = .ok (.iconst 5, 1) := by decide +kernel
theorem dL_law_232 : decode cL_law 232 = .ok (.iadd, 1) := by decide +kernel
theorem dL_law_233 : decode cL_law 233 = .ok (.iaload, 1) := by decide +kernel
theorem dL_law_234 : decode cL_law 234 = .ok (.aload_n 0, 1) := by decide +kernel
theorem dL_law_235 : decode cL_law 235 = .ok (.iload_n 3, 1) := by decide +kernel
theorem dL_law_236 : decode cL_law 236 = .ok (.bipush 6, 2) := by decide +kernel
theorem dL_law_238 : decode cL_law 238 = .ok (.iadd, 1) := by decide +kernel
theorem dL_law_239 : decode cL_law 239 = .ok (.iaload, 1) := by decide +kernel
theorem dL_law_240 : decode cL_law 240 = .ok (.invokevirtual 22, 3) := by decide +kernel
theorem dL_law_243 : decode cL_law 243 = .ok (.if_icmp .eq 925, 3) := by decide +kernel
theorem dL_law_246 : decode cL_law 246 = .ok (.iconst 0, 1) := by decide +kernel
theorem dL_law_247 : decode cL_law 247 = .ok (.ireturn, 1) := by decide +kernel
theorem dL_law_248 : decode cL_law 248 = .ok (.aload_n 1, 1) := by decide +kernel
theorem dL_law_249 : decode cL_law 249 = .ok (.aload_n 0, 1) := by decide +kernel
theorem dL_law_250 : decode cL_law 250 = .ok (.iload_n 3, 1) := by decide +kernel
theorem dL_law_251 : decode cL_law 251 = .ok (.iconst 1, 1) := by decide +kernel
theorem dL_law_252 : decode cL_law 252 = .ok (.iadd, 1) := by decide +kernel
theorem dL_law_253 : decode cL_law 253 = .ok (.iaload, 1) := by decide +kernel
theorem dL_law_254 : decode cL_law 254 = .ok (.aload_n 0, 1) := by decide +kernel
theorem dL_law_255 : decode cL_law 255 = .ok (.iload_n 3, 1) := by decide +kernel
theorem dL_law_256 : decode cL_law 256 = .ok (.iconst 2, 1) := by decide +kernel
theorem dL_law_257 : decode cL_law 257 = .ok (.iadd, 1) := by decide +kernel
theorem dL_law_258 : decode cL_law 258 = .ok (.iaload, 1) := by decide +kernel
theorem dL_law_259 : decode cL_law 259 = .ok (.invokevirtual 23, 3) := by decide +kernel
theorem dL_law_262 : decode cL_law 262 = .ok (.aload_n 2, 1) := by decide +kernel
theorem dL_law_263 : decode cL_law 263 = .ok (.aload_n 0, 1) := by decide +kernel
theorem dL_law_264 : decode cL_law 264 = .ok (.iload_n 3, 1) := by decide +kernel
theorem dL_law_265 : decode cL_law 265 = .ok (.iconst 1, 1) := by decide +kernel
theorem dL_law_266 : decode cL_law 266 = .ok (.iadd, 1) := by decide +kernel
theorem dL_law_267 : decode cL_law 267 = .ok (.iaload, 1) := by decide +kernel
theorem dL_law_268 : decode cL_law 268 = .ok (.aload_n 0, 1) := by decide +kernel
theorem dL_law_269 : decode cL_law 269 = .ok (.iload_n 3, 1) := by decide +kernel
theorem dL_law_270 : decode cL_law 270 = .ok (.iconst 2, 1) := by decide +kernel
theorem dL_law_271 : decode cL_law 271 = .ok (.iadd, 1) := by decide +kernel
theorem dL_law_272 : decode cL_law 272 = .ok (.iaload, 1) := by decide +kernel
theorem dL_law_273 : decode cL_law 273 = .ok (.invokevirtual 27, 3) := by decide +kernel
theorem dL_law_276 : decode cL_law 276 = .ok (.if_icmp .eq 892, 3) := by decide +kernel
theorem dL_law_279 : decode cL_law 279 = .ok (.iconst 0, 1) := by decide +kernel
theorem dL_law_280 : decode cL_law 280 = .ok (.ireturn, 1) := by decide +kernel
theorem dL_law_281 : decode cL_law 281 = .ok (.aload_n 1, 1) := by decide +kernel
theorem dL_law_282 : decode cL_law 282 = .ok (.aload_n 0, 1) := by decide +kernel
theorem dL_law_283 : decode cL_law 283 = .ok (.iload_n 3, 1) := by decide +kernel
theorem dL_law_284 : decode cL_law 284 = .ok (.iconst 1, 1) := by decide +kernel
theorem dL_law_285 : decode cL_law 285 = .ok (.iadd, 1) := by decide +kernel
theorem dL_law_286 : decode cL_law 286 = .ok (.iaload, 1) := by decide +kernel
theorem dL_law_287 : decode cL_law 287 = .ok (.aload_n 0, 1) := by decide +kernel
theorem dL_law_288 : decode cL_law 288 = .ok (.iload_n 3, 1) := by decide +kernel
theorem dL_law_289 : decode cL_law 289 = .ok (.iconst 2, 1) := by decide +kernel
theorem dL_law_290 : decode cL_law 290 = .ok (.iadd, 1) := by decide +kernel
theorem dL_law_291 : decode cL_law 291 = .ok (.iaload, 1) := by decide +kernel
theorem dL_law_292 : decode cL_law 292 = .ok (.aload_n 0, 1) := by decide +kernel
theorem dL_law_293 : decode cL_law 293 = .ok (.iload_n 3, 1) := by decide +kernel
theorem dL_law_294 : decode cL_law 294 = .ok (.iconst 3, 1) := by decide +kernel
theorem dL_law_295 : decode cL_law 295 = .ok (.iadd, 1) := by decide +kernel
theorem dL_law_296 : decode cL_law 296 = .ok (.iaload, 1) := by decide +kernel
theorem dL_law_297 : decode cL_law 297 = .ok (.invokevirtual 28, 3) := by decide +kernel
theorem dL_law_300 : decode cL_law 300 = .ok (.aload_n 2, 1) := by decide +kernel
theorem dL_law_301 : decode cL_law 301 = .ok (.aload_n 0, 1) := by decide +kernel
theorem dL_law_302 : decode cL_law 302 = .ok (.iload_n 3, 1) := by decide +kernel
theorem dL_law_303 : decode cL_law 303 = .ok (.iconst 1, 1) := by decide +kernel
theorem dL_law_304 : decode cL_law 304 = .ok (.iadd, 1) := by decide +kernel
theorem dL_law_305 : decode cL_law 305 = .ok (.iaload, 1) := by decide +kernel
theorem dL_law_306 : decode cL_law 306 = .ok (.aload_n 0, 1) := by decide +kernel
theorem dL_law_307 : decode cL_law 307 = .ok (.iload_n 3, 1) := by decide +kernel
theorem dL_law_308 : decode cL_law 308 = .ok (.iconst 2, 1) := by decide +kernel
theorem dL_law_309 : decode cL_law 309 = .ok (.iadd, 1) := by decide +kernel
theorem dL_law_310 : decode cL_law 310 = .ok (.iaload, 1) := by decide +kernel
theorem dL_law_311 : decode cL_law 311 = .ok (.aload_n 0, 1) := by decide +kernel
theorem dL_law_312 : decode cL_law 312 = .ok (.iload_n 3, 1) := by decide +kernel
theorem dL_law_313 : decode cL_law 313 = .ok (.iconst 3, 1) := by decide +kernel
theorem dL_law_314 : decode cL_law 314 = .ok (.iadd, 1) := by decide +kernel
theorem dL_law_315 : decode cL_law 315 = .ok (.iaload, 1) := by decide +kernel
theorem dL_law_316 : decode cL_law 316 = .ok (.invokevirtual 32, 3) := by decide +kernel
theorem dL_law_319 : decode cL_law 319 = .ok (.if_icmp .eq 849, 3) := by decide +kernel
theorem dL_law_322 : decode cL_law 322 = .ok (.iconst 0, 1) := by decide +kernel
theorem dL_law_323 : decode cL_law 323 = .ok (.ireturn, 1) := by decide +kernel
theorem dL_law_324 : decode cL_law 324 = .ok (.aload_n 1, 1) := by decide +kernel
theorem dL_law_325 : decode cL_law 325 = .ok (.aload_n 0, 1) := by decide +kernel
theorem dL_law_326 : decode cL_law 326 = .ok (.iload_n 3, 1) := by decide +kernel
theorem dL_law_327 : decode cL_law 327 = .ok (.iconst 1, 1) := by decide +kernel
theorem dL_law_328 : decode cL_law 328 = .ok (.iadd, 1) := by decide +kernel
theorem dL_law_329 : decode cL_law 329 = .ok (.iaload, 1) := by decide +kernel
theorem dL_law_330 : decode cL_law 330 = .ok (.aload_n 0, 1) := by decide +kernel
theorem dL_law_331 : decode cL_law 331 = .ok (.iload_n 3, 1) := by decide +kernel
theorem dL_law_332 : decode cL_law 332 = .ok (.iconst 2, 1) := by decide +kernel
theorem dL_law_333 : decode cL_law 333 = .ok (.iadd, 1) := by decide +kernel
theorem dL_law_334 : decode cL_law 334 = .ok (.iaload, 1) := by decide +kernel
theorem dL_law_335 : decode cL_law 335 = .ok (.aload_n 0, 1) := by decide +kernel
theorem dL_law_336 : decode cL_law 336 = .ok (.iload_n 3, 1) := by decide +kernel
theorem dL_law_337 : decode cL_law 337 = .ok (.iconst 3, 1) := by decide +kernel
theorem dL_law_338 : decode cL_law 338 = .ok (.iadd, 1) := by decide +kernel
theorem dL_law_339 : decode cL_law 339 = .ok (.iaload, 1) := by decide +kernel
theorem dL_law_340 : decode cL_law 340 = .ok (.invokevirtual 33, 3) := by decide +kernel
theorem dL_law_343 : decode cL_law 343 = .ok (.aload_n 2, 1) := by decide +kernel
theorem dL_law_344 : decode cL_law 344 = .ok (.aload_n 0, 1) := by decide +kernel
theorem dL_law_345 : decode cL_law 345 = .ok (.iload_n 3, 1) := by decide +kernel
theorem dL_law_346 : decode cL_law 346 = .ok (.iconst 1, 1) := by decide +kernel
theorem dL_law_347 : decode cL_law 347 = .ok (.iadd, 1) := by decide +kernel
theorem dL_law_348 : decode cL_law 348 = .ok (.iaload, 1) := by decide +kernel
theorem dL_law_349 : decode cL_law 349 = .ok (.aload_n 0, 1) := by decide +kernel
theorem dL_law_350 : decode cL_law 350 = .ok (.iload_n 3, 1) := by decide +kernel
theorem dL_law_351 : decode cL_law 351 = .ok (.iconst 2, 1) := by decide +kernel
theorem dL_law_352 : decode cL_law 352 = .ok (.iadd, 1) := by decide +kernel
theorem dL_law_353 : decode cL_law 353 = .ok (.iaload, 1) := by decide +kernel
theorem dL_law_354 : decode cL_law 354 = .ok (.aload_n 0, 1) := by decide +kernel
theorem dL_law_355 : decode cL_law 355 = .ok (.iload_n 3, 1) := by decide +kernel
theorem dL_law_356 : decode cL_law 356 = .ok (.iconst 3, 1) := by decide +kernel
theorem dL_law_357 : decode cL_law 357 = .ok (.iadd, 1) := by decide +kernel
theorem dL_law_358 : decode cL_law 358 = .ok (.iaload, 1) := by decide +kernel
theorem dL_law_359 : decode cL_law 359 = .ok (.invokevirtual 36, 3) := by decide +kernel
theorem dL_law_362 : decode cL_law 362 = .ok (.if_icmp .eq 806, 3) := by decide +kernel
theorem dL_law_365 : decode cL_law 365 = .ok (.iconst 0, 1) := by decide +kernel
theorem dL_law_366 : decode cL_law 366 = .ok (.ireturn, 1) := by decide +kernel
theorem dL_law_367 : decode cL_law 367 = .ok (.aload_n 1, 1) := by decide +kernel
theorem dL_law_368 : decode cL_law 368 = .ok (.aload_n 0, 1) := by decide +kernel
theorem dL_law_369 : decode cL_law 369 = .ok (.iload_n 3, 1) := by decide +kernel
theorem dL_law_370 : decode cL_law 370 = .ok (.iconst 1, 1) := by decide +kernel
theorem dL_law_371 : decode cL_law 371 = .ok (.iadd, 1) := by decide +kernel
theorem dL_law_372 : decode cL_law 372 = .ok (.iaload, 1) := by decide +kernel
theorem dL_law_373 : decode cL_law 373 = .ok (.aload_n 0, 1) := by decide +kernel
theorem dL_law_374 : decode cL_law 374 = .ok (.iload_n 3, 1) := by decide +kernel
theorem dL_law_375 : decode cL_law 375 = .ok (.iconst 2, 1) := by decide +kernel
theorem dL_law_376 : decode cL_law 376 = .ok (.iadd, 1) := by decide +kernel
theorem dL_law_377 : decode cL_law 377 = .ok (.iaload, 1) := by decide +kernel
theorem dL_law_378 : decode cL_law 378 = .ok (.aload_n 0, 1) := by decide +kernel
theorem dL_law_379 : decode cL_law 379 = .ok (.iload_n 3, 1) := by decide +kernel
theorem dL_law_380 : decode cL_law 380 = .ok (.iconst 3, 1) := by decide +kernel
theorem dL_law_381 : decode cL_law 381 = .ok (.iadd, 1) := by decide +kernel
theorem dL_law_382 : decode cL_law 382 = .ok (.iaload, 1) := by decide +kernel
theorem dL_law_383 : decode cL_law 383 = .ok (.invokevirtual 37, 3) := by decide +kernel
theorem dL_law_386 : decode cL_law 386 = .ok (.aload_n 2, 1) := by decide +kernel
theorem dL_law_387 : decode cL_law 387 = .ok (.aload_n 0, 1) := by decide +kernel
theorem dL_law_388 : decode cL_law 388 = .ok (.iload_n 3, 1) := by decide +kernel
theorem dL_law_389 : decode cL_law 389 = .ok (.iconst 1, 1) := by decide +kernel
theorem dL_law_390 : decode cL_law 390 = .ok (.iadd, 1) := by decide +kernel
theorem dL_law_391 : decode cL_law 391 = .ok (.iaload, 1) := by decide +kernel
theorem dL_law_392 : decode cL_law 392 = .ok (.aload_n 0, 1) := by decide +kernel
theorem dL_law_393 : decode cL_law 393 = .ok (.iload_n 3, 1) := by decide +kernel
theorem dL_law_394 : decode cL_law 394 = .ok (.iconst 2, 1) := by decide +kernel
theorem dL_law_395 : decode cL_law 395 = .ok (.iadd, 1) := by decide +kernel
theorem dL_law_396 : decode cL_law 396 = .ok (.iaload, 1) := by decide +kernel
theorem dL_law_397 : decode cL_law 397 = .ok (.aload_n 0, 1) := by decide +kernel
theorem dL_law_398 : decode cL_law 398 = .ok (.iload_n 3, 1) := by decide +kernel
theorem dL_law_399 : decode cL_law 399 = .ok (.iconst 3, 1) := by decide +kernel
theorem dL_law_400 : decode cL_law 400 = .ok (.iadd, 1) := by decide +kernel
theorem dL_law_401 : decode cL_law 401 = .ok (.iaload, 1) := by decide +kernel
theorem dL_law_402 : decode cL_law 402 = .ok (.invokevirtual 40, 3) := by decide +kernel
theorem dL_law_405 : decode cL_law 405 = .ok (.if_icmp .eq 763, 3) := by decide +kernel
theorem dL_law_408 : decode cL_law 408 = .ok (.iconst 0, 1) := by decide +kernel
theorem dL_law_409 : decode cL_law 409 = .ok (.ireturn, 1) := by decide +kernel
theorem dL_law_410 : decode cL_law 410 = .ok (.aload_n 1, 1) := by decide +kernel
theorem dL_law_411 : decode cL_law 411 = .ok (.aload_n 0, 1) := by decide +kernel
theorem dL_law_412 : decode cL_law 412 = .ok (.iload_n 3, 1) := by decide +kernel
theorem dL_law_413 : decode cL_law 413 = .ok (.iconst 1, 1) := by decide +kernel
theorem dL_law_414 : decode cL_law 414 = .ok (.iadd, 1) := by decide +kernel
theorem dL_law_415 : decode cL_law 415 = .ok (.iaload, 1) := by decide +kernel
theorem dL_law_416 : decode cL_law 416 = .ok (.aload_n 0, 1) := by decide +kernel
theorem dL_law_417 : decode cL_law 417 = .ok (.iload_n 3, 1) := by decide +kernel
theorem dL_law_418 : decode cL_law 418 = .ok (.iconst 2, 1) := by decide +kernel
theorem dL_law_419 : decode cL_law 419 = .ok (.iadd, 1) := by decide +kernel
theorem dL_law_420 : decode cL_law 420 = .ok (.iaload, 1) := by decide +kernel
theorem dL_law_421 : decode cL_law 421 = .ok (.aload_n 0, 1) := by decide +kernel
theorem dL_law_422 : decode cL_law 422 = .ok (.iload_n 3, 1) := by decide +kernel
theorem dL_law_423 : decode cL_law 423 = .ok (.iconst 3, 1) := by decide +kernel
theorem dL_law_424 : decode cL_law 424 = .ok (.iadd, 1) := by decide +kernel
theorem dL_law_425 : decode cL_law 425 = .ok (.iaload, 1) := by decide +kernel
theorem dL_law_426 : decode cL_law 426 = .ok (.ifCond .eq 7, 3) := by decide +kernel
theorem dL_law_429 : decode cL_law 429 = .ok (.iconst 1, 1) := by decide +kernel
theorem dL_law_430 : decode cL_law 430 = .ok (.goto 4, 3) := by decide +kernel
theorem dL_law_433 : decode cL_law 433 = .ok (.iconst 0, 1) := by decide +kernel
theorem dL_law_434 : decode cL_law 434 = .ok (.invokevirtual 41, 3) := by decide +kernel
theorem dL_law_437 : decode cL_law 437 = .ok (.aload_n 2, 1) := by decide +kernel
theorem dL_law_438 : decode cL_law 438 = .ok (.aload_n 0, 1) := by decide +kernel
theorem dL_law_439 : decode cL_law 439 = .ok (.iload_n 3, 1) := by decide +kernel
theorem dL_law_440 : decode cL_law 440 = .ok (.iconst 1, 1) := by decide +kernel
theorem dL_law_441 : decode cL_law 441 = .ok (.iadd, 1) := by decide +kernel
theorem dL_law_442 : decode cL_law 442 = .ok (.iaload, 1) := by decide +kernel
theorem dL_law_443 : decode cL_law 443 = .ok (.aload_n 0, 1) := by decide +kernel
theorem dL_law_444 : decode cL_law 444 = .ok (.iload_n 3, 1) := by decide +kernel
theorem dL_law_445 : decode cL_law 445 = .ok (.iconst 2, 1) := by decide +kernel
theorem dL_law_446 : decode cL_law 446 = .ok (.iadd, 1) := by decide +kernel
theorem dL_law_447 : decode cL_law 447 = .ok (.iaload, 1) := by decide +kernel
theorem dL_law_448 : decode cL_law 448 = .ok (.aload_n 0, 1) := by decide +kernel
theorem dL_law_449 : decode cL_law 449 = .ok (.iload_n 3, 1) := by decide +kernel
theorem dL_law_450 : decode cL_law 450 = .ok (.iconst 3, 1) := by decide +kernel
theorem dL_law_451 : decode cL_law 451 = .ok (.iadd, 1) := by decide +kernel
theorem dL_law_452 : decode cL_law 452 = .ok (.iaload, 1) := by decide +kernel
theorem dL_law_453 : decode cL_law 453 = .ok (.ifCond .eq 7, 3) := by decide +kernel
theorem dL_law_456 : decode cL_law 456 = .ok (.iconst 1, 1) := by decide +kernel
theorem dL_law_457 : decode cL_law 457 = .ok (.goto 4, 3) := by decide +kernel
theorem dL_law_460 : decode cL_law 460 = .ok (.iconst 0, 1) := by decide +kernel
theorem dL_law_461 : decode cL_law 461 = .ok (.invokevirtual 45, 3) := by decide +kernel
theorem dL_law_464 : decode cL_law 464 = .ok (.if_icmp .eq 704, 3) := by decide +kernel
theorem dL_law_467 : decode cL_law 467 = .ok (.iconst 0, 1) := by decide +kernel
theorem dL_law_468 : decode cL_law 468 = .ok (.ireturn, 1) := by decide +kernel
theorem dL_law_469 : decode cL_law 469 = .ok (.aload_n 1, 1) := by decide +kernel
theorem dL_law_470 : decode cL_law 470 = .ok (.aload_n 0, 1) := by decide +kernel
theorem dL_law_471 : decode cL_law 471 = .ok (.iload_n 3, 1) := by decide +kernel
theorem dL_law_472 : decode cL_law 472 = .ok (.iconst 1, 1) := by decide +kernel
theorem dL_law_473 : decode cL_law 473 = .ok (.iadd, 1) := by decide +kernel
theorem dL_law_474 : decode cL_law 474 = .ok (.iaload, 1) := by decide +kernel
theorem dL_law_475 : decode cL_law 475 = .ok (.aload_n 0, 1) := by decide +kernel
theorem dL_law_476 : decode cL_law 476 = .ok (.iload_n 3, 1) := by decide +kernel
theorem dL_law_477 : decode cL_law 477 = .ok (.iconst 2, 1) := by decide +kernel
theorem dL_law_478 : decode cL_law 478 = .ok (.iadd, 1) := by decide +kernel
theorem dL_law_479 : decode cL_law 479 = .ok (.iaload, 1) := by decide +kernel
theorem dL_law_480 : decode cL_law 480 = .ok (.ifCond .eq 7, 3) := by decide +kernel
theorem dL_law_483 : decode cL_law 483 = .ok (.iconst 1, 1) := by decide +kernel
theorem dL_law_484 : decode cL_law 484 = .ok (.goto 4, 3) := by decide +kernel
theorem dL_law_487 : decode cL_law 487 = .ok (.iconst 0, 1) := by decide +kernel
theorem dL_law_488 : decode cL_law 488 = .ok (.invokevirtual 46, 3) := by decide +kernel
theorem dL_law_491 : decode cL_law 491 = .ok (.aload_n 2, 1) := by decide +kernel
theorem dL_law_492 : decode cL_law 492 = .ok (.aload_n 0, 1) := by decide +kernel
theorem dL_law_493 : decode cL_law 493 = .ok (.iload_n 3, 1) := by decide +kernel
theorem dL_law_494 : decode cL_law 494 = .ok (.iconst 1, 1) := by decide +kernel
theorem dL_law_495 : decode cL_law 495 = .ok (.iadd, 1) := by decide +kernel
theorem dL_law_496 : decode cL_law 496 = .ok (.iaload, 1) := by decide +kernel
theorem dL_law_497 : decode cL_law 497 = .ok (.aload_n 0, 1) := by decide +kernel
theorem dL_law_498 : decode cL_law 498 = .ok (.iload_n 3, 1) := by decide +kernel
theorem dL_law_499 : decode cL_law 499 = .ok (.iconst 2, 1) := by decide +kernel
theorem dL_law_500 : decode cL_law 500 = .ok (.iadd, 1) := by decide +kernel
theorem dL_law_501 : decode cL_law 501 = .ok (.iaload, 1) := by decide +kernel
theorem dL_law_502 : decode cL_law 502 = .ok (.ifCond .eq 7, 3) := by decide +kernel
theorem dL_law_505 : decode cL_law 505 = .ok (.iconst 1, 1) := by decide +kernel
theorem dL_law_506 : decode cL_law 506 = .ok (.goto 4, 3) := by decide +kernel
theorem dL_law_509 : decode cL_law 509 = .ok (.iconst 0, 1) := by decide +kernel
theorem dL_law_510 : decode cL_law 510 = .ok (.invokevirtual 50, 3) := by decide +kernel
theorem dL_law_513 : decode cL_law 513 = .ok (.if_icmp .eq 655, 3) := by decide +kernel
theorem dL_law_516 : decode cL_law 516 = .ok (.iconst 0, 1) := by decide +kernel
theorem dL_law_517 : decode cL_law 517 = .ok (.ireturn, 1) := by decide +kernel
theorem dL_law_518 : decode cL_law 518 = .ok (.aload_n 1, 1) := by decide +kernel
theorem dL_law_519 : decode cL_law 519 = .ok (.aload_n 0, 1) := by decide +kernel
theorem dL_law_520 : decode cL_law 520 = .ok (.iload_n 3, 1) := by decide +kernel
theorem dL_law_521 : decode cL_law 521 = .ok (.iconst 1, 1) := by decide +kernel
theorem dL_law_522 : decode cL_law 522 = .ok (.iadd, 1) := by decide +kernel
theorem dL_law_523 : decode cL_law 523 = .ok (.iaload, 1) := by decide +kernel
theorem dL_law_524 : decode cL_law 524 = .ok (.aload_n 0, 1) := by decide +kernel
theorem dL_law_525 : decode cL_law 525 = .ok (.iload_n 3, 1) := by decide +kernel
theorem dL_law_526 : decode cL_law 526 = .ok (.iconst 2, 1) := by decide +kernel
theorem dL_law_527 : decode cL_law 527 = .ok (.iadd, 1) := by decide +kernel
theorem dL_law_528 : decode cL_law 528 = .ok (.iaload, 1) := by decide +kernel
theorem dL_law_529 : decode cL_law 529 = .ok (.aload_n 0, 1) := by decide +kernel
theorem dL_law_530 : decode cL_law 530 = .ok (.iload_n 3, 1) := by decide +kernel
theorem dL_law_531 : decode cL_law 531 = .ok (.iconst 3, 1) := by decide +kernel
theorem dL_law_532 : decode cL_law 532 = .ok (.iadd, 1) := by decide +kernel
theorem dL_law_533 : decode cL_law 533 = .ok (.iaload, 1) := by decide +kernel
theorem dL_law_534 : decode cL_law 534 = .ok (.invokevirtual 51, 3) := by decide +kernel
theorem dL_law_537 : decode cL_law 537 = .ok (.aload_n 2, 1) := by decide +kernel
theorem dL_law_538 : decode cL_law 538 = .ok (.aload_n 0, 1) := by decide +kernel
theorem dL_law_539 : decode cL_law 539 = .ok (.iload_n 3, 1) := by decide +kernel
theorem dL_law_540 : decode cL_law 540 = .ok (.iconst 1, 1) := by decide +kernel
theorem dL_law_541 : decode cL_law 541 = .ok (.iadd, 1) := by decide +kernel
theorem dL_law_542 : decode cL_law 542 = .ok (.iaload, 1) := by decide +kernel
theorem dL_law_543 : decode cL_law 543 = .ok (.aload_n 0, 1) := by decide +kernel
theorem dL_law_544 : decode cL_law 544 = .ok (.iload_n 3, 1) := by decide +kernel
theorem dL_law_545 : decode cL_law 545 = .ok (.iconst 2, 1) := by decide +kernel
theorem dL_law_546 : decode cL_law 546 = .ok (.iadd, 1) := by decide +kernel
theorem dL_law_547 : decode cL_law 547 = .ok (.iaload, 1) := by decide +kernel
theorem dL_law_548 : decode cL_law 548 = .ok (.aload_n 0, 1) := by decide +kernel
theorem dL_law_549 : decode cL_law 549 = .ok (.iload_n 3, 1) := by decide +kernel
theorem dL_law_550 : decode cL_law 550 = .ok (.iconst 3, 1) := by decide +kernel
theorem dL_law_551 : decode cL_law 551 = .ok (.iadd, 1) := by decide +kernel
theorem dL_law_552 : decode cL_law 552 = .ok (.iaload, 1) := by decide +kernel
theorem dL_law_553 : decode cL_law 553 = .ok (.invokevirtual 54, 3) := by decide +kernel
theorem dL_law_556 : decode cL_law 556 = .ok (.if_icmp .eq 612, 3) := by decide +kernel
theorem dL_law_559 : decode cL_law 559 = .ok (.iconst 0, 1) := by decide +kernel
theorem dL_law_560 : decode cL_law 560 = .ok (.ireturn, 1) := by decide +kernel
theorem dL_law_561 : decode cL_law 561 = .ok (.aload_n 1, 1) := by decide +kernel
theorem dL_law_562 : decode cL_law 562 = .ok (.aload_n 0, 1) := by decide +kernel
theorem dL_law_563 : decode cL_law 563 = .ok (.iload_n 3, 1) := by decide +kernel
theorem dL_law_564 : decode cL_law 564 = .ok (.iconst 1, 1) := by decide +kernel
theorem dL_law_565 : decode cL_law 565 = .ok (.iadd, 1) := by decide +kernel
theorem dL_law_566 : decode cL_law 566 = .ok (.iaload, 1) := by decide +kernel
theorem dL_law_567 : decode cL_law 567 = .ok (.aload_n 0, 1) := by decide +kernel
theorem dL_law_568 : decode cL_law 568 = .ok (.iload_n 3, 1) := by decide +kernel
theorem dL_law_569 : decode cL_law 569 = .ok (.iconst 2, 1) := by decide +kernel
theorem dL_law_570 : decode cL_law 570 = .ok (.iadd, 1) := by decide +kernel
theorem dL_law_571 : decode cL_law 571 = .ok (.iaload, 1) := by decide +kernel
theorem dL_law_572 : decode cL_law 572 = .ok (.aload_n 0, 1) := by decide +kernel
theorem dL_law_573 : decode cL_law 573 = .ok (.iload_n 3, 1) := by decide +kernel
theorem dL_law_574 : decode cL_law 574 = .ok (.iconst 3, 1) := by decide +kernel
theorem dL_law_575 : decode cL_law 575 = .ok (.iadd, 1) := by decide +kernel
theorem dL_law_576 : decode cL_law 576 = .ok (.iaload, 1) := by decide +kernel
theorem dL_law_577 : decode cL_law 577 = .ok (.invokevirtual 55, 3) := by decide +kernel
theorem dL_law_580 : decode cL_law 580 = .ok (.aload_n 2, 1) := by decide +kernel
theorem dL_law_581 : decode cL_law 581 = .ok (.aload_n 0, 1) := by decide +kernel
theorem dL_law_582 : decode cL_law 582 = .ok (.iload_n 3, 1) := by decide +kernel
theorem dL_law_583 : decode cL_law 583 = .ok (.iconst 1, 1) := by decide +kernel
theorem dL_law_584 : decode cL_law 584 = .ok (.iadd, 1) := by decide +kernel
theorem dL_law_585 : decode cL_law 585 = .ok (.iaload, 1) := by decide +kernel
theorem dL_law_586 : decode cL_law 586 = .ok (.aload_n 0, 1) := by decide +kernel
theorem dL_law_587 : decode cL_law 587 = .ok (.iload_n 3, 1) := by decide +kernel
theorem dL_law_588 : decode cL_law 588 = .ok (.iconst 2, 1) := by decide +kernel
theorem dL_law_589 : decode cL_law 589 = .ok (.iadd, 1) := by decide +kernel
theorem dL_law_590 : decode cL_law 590 = .ok (.iaload, 1) := by decide +kernel
theorem dL_law_591 : decode cL_law 591 = .ok (.aload_n 0, 1) := by decide +kernel
theorem dL_law_592 : decode cL_law 592 = .ok (.iload_n 3, 1) := by decide +kernel
theorem dL_law_593 : decode cL_law 593 = .ok (.iconst 3, 1) := by decide +kernel
theorem dL_law_594 : decode cL_law 594 = .ok (.iadd, 1) := by decide +kernel
theorem dL_law_595 : decode cL_law 595 = .ok (.iaload, 1) := by decide +kernel
theorem dL_law_596 : decode cL_law 596 = .ok (.invokevirtual 58, 3) := by decide +kernel
theorem dL_law_599 : decode cL_law 599 = .ok (.if_icmp .eq 569, 3) := by decide +kernel
theorem dL_law_602 : decode cL_law 602 = .ok (.iconst 0, 1) := by decide +kernel
theorem dL_law_603 : decode cL_law 603 = .ok (.ireturn, 1) := by decide +kernel
theorem dL_law_604 : decode cL_law 604 = .ok (.aload_n 1, 1) := by decide +kernel
theorem dL_law_605 : decode cL_law 605 = .ok (.aload_n 0, 1) := by decide +kernel
theorem dL_law_606 : decode cL_law 606 = .ok (.iload_n 3, 1) := by decide +kernel
theorem dL_law_607 : decode cL_law 607 = .ok (.iconst 1, 1) := by decide +kernel
theorem dL_law_608 : decode cL_law 608 = .ok (.iadd, 1) := by decide +kernel
theorem dL_law_609 : decode cL_law 609 = .ok (.iaload, 1) := by decide +kernel
theorem dL_law_610 : decode cL_law 610 = .ok (.aload_n 0, 1) := by decide +kernel
theorem dL_law_611 : decode cL_law 611 = .ok (.iload_n 3, 1) := by decide +kernel
theorem dL_law_612 : decode cL_law 612 = .ok (.iconst 2, 1) := by decide +kernel
theorem dL_law_613 : decode cL_law 613 = .ok (.iadd, 1) := by decide +kernel
theorem dL_law_614 : decode cL_law 614 = .ok (.iaload, 1) := by decide +kernel
theorem dL_law_615 : decode cL_law 615 = .ok (.invokevirtual 59, 3) := by decide +kernel
theorem dL_law_618 : decode cL_law 618 = .ok (.aload_n 2, 1) := by decide +kernel
theorem dL_law_619 : decode cL_law 619 = .ok (.aload_n 0, 1) := by decide +kernel
theorem dL_law_620 : decode cL_law 620 = .ok (.iload_n 3, 1) := by decide +kernel
theorem dL_law_621 : decode cL_law 621 = .ok (.iconst 1, 1) := by decide +kernel
theorem dL_law_622 : decode cL_law 622 = .ok (.iadd, 1) := by decide +kernel
theorem dL_law_623 : decode cL_law 623 = .ok (.iaload, 1) := by decide +kernel
theorem dL_law_624 : decode cL_law 624 = .ok (.aload_n 0, 1) := by decide +kernel
theorem dL_law_625 : decode cL_law 625 = .ok (.iload_n 3, 1) := by decide +kernel
theorem dL_law_626 : decode cL_law 626 = .ok (.iconst 2, 1) := by decide +kernel
theorem dL_law_627 : decode cL_law 627 = .ok (.iadd, 1) := by decide +kernel
theorem dL_law_628 : decode cL_law 628 = .ok (.iaload, 1) := by decide +kernel
theorem dL_law_629 : decode cL_law 629 = .ok (.invokevirtual 62, 3) := by decide +kernel
theorem dL_law_632 : decode cL_law 632 = .ok (.if_icmp .eq 536, 3) := by decide +kernel
theorem dL_law_635 : decode cL_law 635 = .ok (.iconst 0, 1) := by decide +kernel
theorem dL_law_636 : decode cL_law 636 = .ok (.ireturn, 1) := by decide +kernel
theorem dL_law_637 : decode cL_law 637 = .ok (.aload_n 1, 1) := by decide +kernel
theorem dL_law_638 : decode cL_law 638 = .ok (.aload_n 0, 1) := by decide +kernel
theorem dL_law_639 : decode cL_law 639 = .ok (.iload_n 3, 1) := by decide +kernel
theorem dL_law_640 : decode cL_law 640 = .ok (.iconst 1, 1) := by decide +kernel
theorem dL_law_641 : decode cL_law 641 = .ok (.iadd, 1) := by decide +kernel
theorem dL_law_642 : decode cL_law 642 = .ok (.iaload, 1) := by decide +kernel
theorem dL_law_643 : decode cL_law 643 = .ok (.aload_n 0, 1) := by decide +kernel
theorem dL_law_644 : decode cL_law 644 = .ok (.iload_n 3, 1) := by decide +kernel
theorem dL_law_645 : decode cL_law 645 = .ok (.iconst 2, 1) := by decide +kernel
theorem dL_law_646 : decode cL_law 646 = .ok (.iadd, 1) := by decide +kernel
theorem dL_law_647 : decode cL_law 647 = .ok (.iaload, 1) := by decide +kernel
theorem dL_law_648 : decode cL_law 648 = .ok (.invokevirtual 63, 3) := by decide +kernel
theorem dL_law_651 : decode cL_law 651 = .ok (.aload_n 2, 1) := by decide +kernel
theorem dL_law_652 : decode cL_law 652 = .ok (.aload_n 0, 1) := by decide +kernel
theorem dL_law_653 : decode cL_law 653 = .ok (.iload_n 3, 1) := by decide +kernel
end
section
theorem dL_law_654 : decode cL_law 654 = .ok (.iconst 1, 1) := by decide +kernel
theorem dL_law_655 : decode cL_law 655 = .ok (.iadd, 1) := by decide +kernel
theorem dL_law_656 : decode cL_law 656 = .ok (.iaload, 1) := by decide +kernel
theorem dL_law_657 : decode cL_law 657 = .ok (.aload_n 0, 1) := by decide +kernel
theorem dL_law_658 : decode cL_law 658 = .ok (.iload_n 3, 1) := by decide +kernel
theorem dL_law_659 : decode cL_law 659 = .ok (.iconst 2, 1) := by decide +kernel
theorem dL_law_660 : decode cL_law 660 = .ok (.iadd, 1) := by decide +kernel
theorem dL_law_661 : decode cL_law 661 = .ok (.iaload, 1) := by decide +kernel
theorem dL_law_662 : decode cL_law 662 = .ok (.invokevirtual 66, 3) := by decide +kernel
theorem dL_law_665 : decode cL_law 665 = .ok (.if_icmp .eq 503, 3) := by decide +kernel
theorem dL_law_668 : decode cL_law 668 = .ok (.iconst 0, 1) := by decide +kernel
theorem dL_law_669 : decode cL_law 669 = .ok (.ireturn, 1) := by decide +kernel
theorem dL_law_670 : decode cL_law 670 = .ok (.aload_n 1, 1) := by decide +kernel
theorem dL_law_671 : decode cL_law 671 = .ok (.aload_n 0, 1) := by decide +kernel
theorem dL_law_672 : decode cL_law 672 = .ok (.iload_n 3, 1) := by decide +kernel
theorem dL_law_673 : decode cL_law 673 = .ok (.iconst 1, 1) := by decide +kernel
theorem dL_law_674 : decode cL_law 674 = .ok (.iadd, 1) := by decide +kernel
theorem dL_law_675 : decode cL_law 675 = .ok (.iaload, 1) := by decide +kernel
theorem dL_law_676 : decode cL_law 676 = .ok (.invokevirtual 67, 3) := by decide +kernel
theorem dL_law_679 : decode cL_law 679 = .ok (.aload_n 2, 1) := by decide +kernel
theorem dL_law_680 : decode cL_law 680 = .ok (.aload_n 0, 1) := by decide +kernel
theorem dL_law_681 : decode cL_law 681 = .ok (.iload_n 3, 1) := by decide +kernel
theorem dL_law_682 : decode cL_law 682 = .ok (.iconst 1, 1) := by decide +kernel
theorem dL_law_683 : decode cL_law 683 = .ok (.iadd, 1) := by decide +kernel
theorem dL_law_684 : decode cL_law 684 = .ok (.iaload, 1) := by decide +kernel
theorem dL_law_685 : decode cL_law 685 = .ok (.invokevirtual 71, 3) := by decide +kernel
theorem dL_law_688 : decode cL_law 688 = .ok (.if_icmp .eq 480, 3) := by decide +kernel
theorem dL_law_691 : decode cL_law 691 = .ok (.iconst 0, 1) := by decide +kernel
theorem dL_law_692 : decode cL_law 692 = .ok (.ireturn, 1) := by decide +kernel
theorem dL_law_693 : decode cL_law 693 = .ok (.aload_n 1, 1) := by decide +kernel
theorem dL_law_694 : decode cL_law 694 = .ok (.aload_n 0, 1) := by decide +kernel
theorem dL_law_695 : decode cL_law 695 = .ok (.iload_n 3, 1) := by decide +kernel
theorem dL_law_696 : decode cL_law 696 = .ok (.iconst 1, 1) := by decide +kernel
theorem dL_law_697 : decode cL_law 697 = .ok (.iadd, 1) := by decide +kernel
theorem dL_law_698 : decode cL_law 698 = .ok (.iaload, 1) := by decide +kernel
theorem dL_law_699 : decode cL_law 699 = .ok (.aload_n 0, 1) := by decide +kernel
theorem dL_law_700 : decode cL_law 700 = .ok (.iload_n 3, 1) := by decide +kernel
theorem dL_law_701 : decode cL_law 701 = .ok (.iconst 2, 1) := by decide +kernel
theorem dL_law_702 : decode cL_law 702 = .ok (.iadd, 1) := by decide +kernel
theorem dL_law_703 : decode cL_law 703 = .ok (.iaload, 1) := by decide +kernel
theorem dL_law_704 : decode cL_law 704 = .ok (.invokevirtual 72, 3) := by decide +kernel
theorem dL_law_707 : decode cL_law 707 = .ok (.aload_n 2, 1) := by decide +kernel
theorem dL_law_708 : decode cL_law 708 = .ok (.aload_n 0, 1) := by decide +kernel
theorem dL_law_709 : decode cL_law 709 = .ok (.iload_n 3, 1) := by decide +kernel
theorem dL_law_710 : decode cL_law 710 = .ok (.iconst 1, 1) := by decide +kernel
theorem dL_law_711 : decode cL_law 711 = .ok (.iadd, 1) := by decide +kernel
theorem dL_law_712 : decode cL_law 712 = .ok (.iaload, 1) := by decide +kernel
theorem dL_law_713 : decode cL_law 713 = .ok (.aload_n 0, 1) := by decide +kernel
theorem dL_law_714 : decode cL_law 714 = .ok (.iload_n 3, 1) := by decide +kernel
theorem dL_law_715 : decode cL_law 715 = .ok (.iconst 2, 1) := by decide +kernel
theorem dL_law_716 : decode cL_law 716 = .ok (.iadd, 1) := by decide +kernel
theorem dL_law_717 : decode cL_law 717 = .ok (.iaload, 1) := by decide +kernel
theorem dL_law_718 : decode cL_law 718 = .ok (.invokevirtual 75, 3) := by decide +kernel
theorem dL_law_721 : decode cL_law 721 = .ok (.if_icmp .eq 447, 3) := by decide +kernel
theorem dL_law_724 : decode cL_law 724 = .ok (.iconst 0, 1) := by decide +kernel
theorem dL_law_725 : decode cL_law 725 = .ok (.ireturn, 1) := by decide +kernel
theorem dL_law_726 : decode cL_law 726 = .ok (.aload_n 1, 1) := by decide +kernel
theorem dL_law_727 : decode cL_law 727 = .ok (.aload_n 0, 1) := by decide +kernel
theorem dL_law_728 : decode cL_law 728 = .ok (.iload_n 3, 1) := by decide +kernel
theorem dL_law_729 : decode cL_law 729 = .ok (.iconst 1, 1) := by decide +kernel
theorem dL_law_730 : decode cL_law 730 = .ok (.iadd, 1) := by decide +kernel
theorem dL_law_731 : decode cL_law 731 = .ok (.iaload, 1) := by decide +kernel
theorem dL_law_732 : decode cL_law 732 = .ok (.invokevirtual 76, 3) := by decide +kernel
theorem dL_law_735 : decode cL_law 735 = .ok (.aload_n 2, 1) := by decide +kernel
theorem dL_law_736 : decode cL_law 736 = .ok (.aload_n 0, 1) := by decide +kernel
theorem dL_law_737 : decode cL_law 737 = .ok (.iload_n 3, 1) := by decide +kernel
theorem dL_law_738 : decode cL_law 738 = .ok (.iconst 1, 1) := by decide +kernel
theorem dL_law_739 : decode cL_law 739 = .ok (.iadd, 1) := by decide +kernel
theorem dL_law_740 : decode cL_law 740 = .ok (.iaload, 1) := by decide +kernel
theorem dL_law_741 : decode cL_law 741 = .ok (.invokevirtual 79, 3) := by decide +kernel
theorem dL_law_744 : decode cL_law 744 = .ok (.if_icmp .eq 424, 3) := by decide +kernel
theorem dL_law_747 : decode cL_law 747 = .ok (.iconst 0, 1) := by decide +kernel
theorem dL_law_748 : decode cL_law 748 = .ok (.ireturn, 1) := by decide +kernel
theorem dL_law_749 : decode cL_law 749 = .ok (.aload_n 1, 1) := by decide +kernel
theorem dL_law_750 : decode cL_law 750 = .ok (.aload_n 0, 1) := by decide +kernel
theorem dL_law_751 : decode cL_law 751 = .ok (.iload_n 3, 1) := by decide +kernel
theorem dL_law_752 : decode cL_law 752 = .ok (.iconst 1, 1) := by decide +kernel
theorem dL_law_753 : decode cL_law 753 = .ok (.iadd, 1) := by decide +kernel
theorem dL_law_754 : decode cL_law 754 = .ok (.iaload, 1) := by decide +kernel
theorem dL_law_755 : decode cL_law 755 = .ok (.aload_n 0, 1) := by decide +kernel
theorem dL_law_756 : decode cL_law 756 = .ok (.iload_n 3, 1) := by decide +kernel
theorem dL_law_757 : decode cL_law 757 = .ok (.iconst 2, 1) := by decide +kernel
theorem dL_law_758 : decode cL_law 758 = .ok (.iadd, 1) := by decide +kernel
theorem dL_law_759 : decode cL_law 759 = .ok (.iaload, 1) := by decide +kernel
theorem dL_law_760 : decode cL_law 760 = .ok (.invokevirtual 80, 3) := by decide +kernel
theorem dL_law_763 : decode cL_law 763 = .ok (.aload_n 2, 1) := by decide +kernel
theorem dL_law_764 : decode cL_law 764 = .ok (.aload_n 0, 1) := by decide +kernel
theorem dL_law_765 : decode cL_law 765 = .ok (.iload_n 3, 1) := by decide +kernel
theorem dL_law_766 : decode cL_law 766 = .ok (.iconst 1, 1) := by decide +kernel
theorem dL_law_767 : decode cL_law 767 = .ok (.iadd, 1) := by decide +kernel
theorem dL_law_768 : decode cL_law 768 = .ok (.iaload, 1) := by decide +kernel
theorem dL_law_769 : decode cL_law 769 = .ok (.aload_n 0, 1) := by decide +kernel
theorem dL_law_770 : decode cL_law 770 = .ok (.iload_n 3, 1) := by decide +kernel
theorem dL_law_771 : decode cL_law 771 = .ok (.iconst 2, 1) := by decide +kernel
theorem dL_law_772 : decode cL_law 772 = .ok (.iadd, 1) := by decide +kernel
theorem dL_law_773 : decode cL_law 773 = .ok (.iaload, 1) := by decide +kernel
theorem dL_law_774 : decode cL_law 774 = .ok (.invokevirtual 83, 3) := by decide +kernel
theorem dL_law_777 : decode cL_law 777 = .ok (.if_icmp .eq 391, 3) := by decide +kernel
theorem dL_law_780 : decode cL_law 780 = .ok (.iconst 0, 1) := by decide +kernel
theorem dL_law_781 : decode cL_law 781 = .ok (.ireturn, 1) := by decide +kernel
theorem dL_law_782 : decode cL_law 782 = .ok (.aload_n 1, 1) := by decide +kernel
theorem dL_law_783 : decode cL_law 783 = .ok (.aload_n 0, 1) := by decide +kernel
theorem dL_law_784 : decode cL_law 784 = .ok (.iload_n 3, 1) := by decide +kernel
theorem dL_law_785 : decode cL_law 785 = .ok (.iconst 1, 1) := by decide +kernel
theorem dL_law_786 : decode cL_law 786 = .ok (.iadd, 1) := by decide +kernel
theorem dL_law_787 : decode cL_law 787 = .ok (.iaload, 1) := by decide +kernel
theorem dL_law_788 : decode cL_law 788 = .ok (.invokevirtual 84, 3) := by decide +kernel
theorem dL_law_791 : decode cL_law 791 = .ok (.aload_n 2, 1) := by decide +kernel
theorem dL_law_792 : decode cL_law 792 = .ok (.aload_n 0, 1) := by decide +kernel
theorem dL_law_793 : decode cL_law 793 = .ok (.iload_n 3, 1) := by decide +kernel
theorem dL_law_794 : decode cL_law 794 = .ok (.iconst 1, 1) := by decide +kernel
theorem dL_law_795 : decode cL_law 795 = .ok (.iadd, 1) := by decide +kernel
theorem dL_law_796 : decode cL_law 796 = .ok (.iaload, 1) := by decide +kernel
theorem dL_law_797 : decode cL_law 797 = .ok (.invokevirtual 87, 3) := by decide +kernel
theorem dL_law_800 : decode cL_law 800 = .ok (.if_icmp .eq 368, 3) := by decide +kernel
theorem dL_law_803 : decode cL_law 803 = .ok (.iconst 0, 1) := by decide +kernel
theorem dL_law_804 : decode cL_law 804 = .ok (.ireturn, 1) := by decide +kernel
theorem dL_law_805 : decode cL_law 805 = .ok (.aload_n 1, 1) := by decide +kernel
theorem dL_law_806 : decode cL_law 806 = .ok (.aload_n 0, 1) := by decide +kernel
theorem dL_law_807 : decode cL_law 807 = .ok (.iload_n 3, 1) := by decide +kernel
theorem dL_law_808 : decode cL_law 808 = .ok (.iconst 1, 1) := by decide +kernel
theorem dL_law_809 : decode cL_law 809 = .ok (.iadd, 1) := by decide +kernel
theorem dL_law_810 : decode cL_law 810 = .ok (.iaload, 1) := by decide +kernel
theorem dL_law_811 : decode cL_law 811 = .ok (.aload_n 0, 1) := by decide +kernel
theorem dL_law_812 : decode cL_law 812 = .ok (.iload_n 3, 1) := by decide +kernel
theorem dL_law_813 : decode cL_law 813 = .ok (.iconst 2, 1) := by decide +kernel
theorem dL_law_814 : decode cL_law 814 = .ok (.iadd, 1) := by decide +kernel
theorem dL_law_815 : decode cL_law 815 = .ok (.iaload, 1) := by decide +kernel
theorem dL_law_816 : decode cL_law 816 = .ok (.aload_n 0, 1) := by decide +kernel
theorem dL_law_817 : decode cL_law 817 = .ok (.iload_n 3, 1) := by decide +kernel
theorem dL_law_818 : decode cL_law 818 = .ok (.iconst 3, 1) := by decide +kernel
theorem dL_law_819 : decode cL_law 819 = .ok (.iadd, 1) := by decide +kernel
theorem dL_law_820 : decode cL_law 820 = .ok (.iaload, 1) := by decide +kernel
theorem dL_law_821 : decode cL_law 821 = .ok (.aload_n 0, 1) := by decide +kernel
theorem dL_law_822 : decode cL_law 822 = .ok (.iload_n 3, 1) := by decide +kernel
theorem dL_law_823 : decode cL_law 823 = .ok (.iconst 4, 1) := by decide +kernel
theorem dL_law_824 : decode cL_law 824 = .ok (.iadd, 1) := by decide +kernel
theorem dL_law_825 : decode cL_law 825 = .ok (.iaload, 1) := by decide +kernel
theorem dL_law_826 : decode cL_law 826 = .ok (.invokevirtual 88, 3) := by decide +kernel
theorem dL_law_829 : decode cL_law 829 = .ok (.aload_n 2, 1) := by decide +kernel
theorem dL_law_830 : decode cL_law 830 = .ok (.aload_n 0, 1) := by decide +kernel
theorem dL_law_831 : decode cL_law 831 = .ok (.iload_n 3, 1) := by decide +kernel
theorem dL_law_832 : decode cL_law 832 = .ok (.iconst 1, 1) := by decide +kernel
theorem dL_law_833 : decode cL_law 833 = .ok (.iadd, 1) := by decide +kernel
theorem dL_law_834 : decode cL_law 834 = .ok (.iaload, 1) := by decide +kernel
theorem dL_law_835 : decode cL_law 835 = .ok (.aload_n 0, 1) := by decide +kernel
theorem dL_law_836 : decode cL_law 836 = .ok (.iload_n 3, 1) := by decide +kernel
theorem dL_law_837 : decode cL_law 837 = .ok (.iconst 2, 1) := by decide +kernel
theorem dL_law_838 : decode cL_law 838 = .ok (.iadd, 1) := by decide +kernel
theorem dL_law_839 : decode cL_law 839 = .ok (.iaload, 1) := by decide +kernel
theorem dL_law_840 : decode cL_law 840 = .ok (.aload_n 0, 1) := by decide +kernel
theorem dL_law_841 : decode cL_law 841 = .ok (.iload_n 3, 1) := by decide +kernel
theorem dL_law_842 : decode cL_law 842 = .ok (.iconst 3, 1) := by decide +kernel
theorem dL_law_843 : decode cL_law 843 = .ok (.iadd, 1) := by decide +kernel
theorem dL_law_844 : decode cL_law 844 = .ok (.iaload, 1) := by decide +kernel
theorem dL_law_845 : decode cL_law 845 = .ok (.aload_n 0, 1) := by decide +kernel
theorem dL_law_846 : decode cL_law 846 = .ok (.iload_n 3, 1) := by decide +kernel
theorem dL_law_847 : decode cL_law 847 = .ok (.iconst 4, 1) := by decide +kernel
theorem dL_law_848 : decode cL_law 848 = .ok (.iadd, 1) := by decide +kernel
theorem dL_law_849 : decode cL_law 849 = .ok (.iaload, 1) := by decide +kernel
theorem dL_law_850 : decode cL_law 850 = .ok (.invokevirtual 92, 3) := by decide +kernel
theorem dL_law_853 : decode cL_law 853 = .ok (.if_icmp .eq 315, 3) := by decide +kernel
theorem dL_law_856 : decode cL_law 856 = .ok (.iconst 0, 1) := by decide +kernel
theorem dL_law_857 : decode cL_law 857 = .ok (.ireturn, 1) := by decide +kernel
theorem dL_law_858 : decode cL_law 858 = .ok (.aload_n 1, 1) := by decide +kernel
theorem dL_law_859 : decode cL_law 859 = .ok (.aload_n 0, 1) := by decide +kernel
theorem dL_law_860 : decode cL_law 860 = .ok (.iload_n 3, 1) := by decide +kernel
theorem dL_law_861 : decode cL_law 861 = .ok (.iconst 1, 1) := by decide +kernel
theorem dL_law_862 : decode cL_law 862 = .ok (.iadd, 1) := by decide +kernel
theorem dL_law_863 : decode cL_law 863 = .ok (.iaload, 1) := by decide +kernel
theorem dL_law_864 : decode cL_law 864 = .ok (.aload_n 0, 1) := by decide +kernel
theorem dL_law_865 : decode cL_law 865 = .ok (.iload_n 3, 1) := by decide +kernel
theorem dL_law_866 : decode cL_law 866 = .ok (.iconst 2, 1) := by decide +kernel
theorem dL_law_867 : decode cL_law 867 = .ok (.iadd, 1) := by decide +kernel
theorem dL_law_868 : decode cL_law 868 = .ok (.iaload, 1) := by decide +kernel
theorem dL_law_869 : decode cL_law 869 = .ok (.aload_n 0, 1) := by decide +kernel
theorem dL_law_870 : decode cL_law 870 = .ok (.iload_n 3, 1) := by decide +kernel
theorem dL_law_871 : decode cL_law 871 = .ok (.iconst 3, 1) := by decide +kernel
theorem dL_law_872 : decode cL_law 872 = .ok (.iadd, 1) := by decide +kernel
theorem dL_law_873 : decode cL_law 873 = .ok (.iaload, 1) := by decide +kernel
theorem dL_law_874 : decode cL_law 874 = .ok (.invokevirtual 93, 3) := by decide +kernel
theorem dL_law_877 : decode cL_law 877 = .ok (.aload_n 2, 1) := by decide +kernel
theorem dL_law_878 : decode cL_law 878 = .ok (.aload_n 0, 1) := by decide +kernel
theorem dL_law_879 : decode cL_law 879 = .ok (.iload_n 3, 1) := by decide +kernel
theorem dL_law_880 : decode cL_law 880 = .ok (.iconst 1, 1) := by decide +kernel
theorem dL_law_881 : decode cL_law 881 = .ok (.iadd, 1) := by decide +kernel
theorem dL_law_882 : decode cL_law 882 = .ok (.iaload, 1) := by decide +kernel
theorem dL_law_883 : decode cL_law 883 = .ok (.aload_n 0, 1) := by decide +kernel
theorem dL_law_884 : decode cL_law 884 = .ok (.iload_n 3, 1) := by decide +kernel
theorem dL_law_885 : decode cL_law 885 = .ok (.iconst 2, 1) := by decide +kernel
theorem dL_law_886 : decode cL_law 886 = .ok (.iadd, 1) := by decide +kernel
theorem dL_law_887 : decode cL_law 887 = .ok (.iaload, 1) := by decide +kernel
theorem dL_law_888 : decode cL_law 888 = .ok (.aload_n 0, 1) := by decide +kernel
theorem dL_law_889 : decode cL_law 889 = .ok (.iload_n 3, 1) := by decide +kernel
theorem dL_law_890 : decode cL_law 890 = .ok (.iconst 3, 1) := by decide +kernel
theorem dL_law_891 : decode cL_law 891 = .ok (.iadd, 1) := by decide +kernel
theorem dL_law_892 : decode cL_law 892 = .ok (.iaload, 1) := by decide +kernel
theorem dL_law_893 : decode cL_law 893 = .ok (.invokevirtual 96, 3) := by decide +kernel
theorem dL_law_896 : decode cL_law 896 = .ok (.if_icmp .eq 272, 3) := by decide +kernel
theorem dL_law_899 : decode cL_law 899 = .ok (.iconst 0, 1) := by decide +kernel
theorem dL_law_900 : decode cL_law 900 = .ok (.ireturn, 1) := by decide +kernel
theorem dL_law_901 : decode cL_law 901 = .ok (.aload_n 1, 1) := by decide +kernel
theorem dL_law_902 : decode cL_law 902 = .ok (.aload_n 0, 1) := by decide +kernel
theorem dL_law_903 : decode cL_law 903 = .ok (.iload_n 3, 1) := by decide +kernel
theorem dL_law_904 : decode cL_law 904 = .ok (.iconst 1, 1) := by decide +kernel
theorem dL_law_905 : decode cL_law 905 = .ok (.iadd, 1) := by decide +kernel
theorem dL_law_906 : decode cL_law 906 = .ok (.iaload, 1) := by decide +kernel
theorem dL_law_907 : decode cL_law 907 = .ok (.aload_n 0, 1) := by decide +kernel
theorem dL_law_908 : decode cL_law 908 = .ok (.iload_n 3, 1) := by decide +kernel
theorem dL_law_909 : decode cL_law 909 = .ok (.iconst 2, 1) := by decide +kernel
theorem dL_law_910 : decode cL_law 910 = .ok (.iadd, 1) := by decide +kernel
theorem dL_law_911 : decode cL_law 911 = .ok (.iaload, 1) := by decide +kernel
theorem dL_law_912 : decode cL_law 912 = .ok (.invokevirtual 97, 3) := by decide +kernel
theorem dL_law_915 : decode cL_law 915 = .ok (.aload_n 2, 1) := by decide +kernel
theorem dL_law_916 : decode cL_law 916 = .ok (.aload_n 0, 1) := by decide +kernel
theorem dL_law_917 : decode cL_law 917 = .ok (.iload_n 3, 1) := by decide +kernel
theorem dL_law_918 : decode cL_law 918 = .ok (.iconst 1, 1) := by decide +kernel
theorem dL_law_919 : decode cL_law 919 = .ok (.iadd, 1) := by decide +kernel
theorem dL_law_920 : decode cL_law 920 = .ok (.iaload, 1) := by decide +kernel
theorem dL_law_921 : decode cL_law 921 = .ok (.aload_n 0, 1) := by decide +kernel
theorem dL_law_922 : decode cL_law 922 = .ok (.iload_n 3, 1) := by decide +kernel
theorem dL_law_923 : decode cL_law 923 = .ok (.iconst 2, 1) := by decide +kernel
theorem dL_law_924 : decode cL_law 924 = .ok (.iadd, 1) := by decide +kernel
theorem dL_law_925 : decode cL_law 925 = .ok (.iaload, 1) := by decide +kernel
theorem dL_law_926 : decode cL_law 926 = .ok (.invokevirtual 100, 3) := by decide +kernel
theorem dL_law_929 : decode cL_law 929 = .ok (.if_icmp .eq 239, 3) := by decide +kernel
theorem dL_law_932 : decode cL_law 932 = .ok (.iconst 0, 1) := by decide +kernel
theorem dL_law_933 : decode cL_law 933 = .ok (.ireturn, 1) := by decide +kernel
theorem dL_law_934 : decode cL_law 934 = .ok (.aload_n 1, 1) := by decide +kernel
theorem dL_law_935 : decode cL_law 935 = .ok (.aload_n 0, 1) := by decide +kernel
theorem dL_law_936 : decode cL_law 936 = .ok (.iload_n 3, 1) := by decide +kernel
theorem dL_law_937 : decode cL_law 937 = .ok (.iconst 1, 1) := by decide +kernel
theorem dL_law_938 : decode cL_law 938 = .ok (.iadd, 1) := by decide +kernel
theorem dL_law_939 : decode cL_law 939 = .ok (.iaload, 1) := by decide +kernel
theorem dL_law_940 : decode cL_law 940 = .ok (.aload_n 0, 1) := by decide +kernel
theorem dL_law_941 : decode cL_law 941 = .ok (.iload_n 3, 1) := by decide +kernel
theorem dL_law_942 : decode cL_law 942 = .ok (.iconst 2, 1) := by decide +kernel
theorem dL_law_943 : decode cL_law 943 = .ok (.iadd, 1) := by decide +kernel
theorem dL_law_944 : decode cL_law 944 = .ok (.iaload, 1) := by decide +kernel
theorem dL_law_945 : decode cL_law 945 = .ok (.invokevirtual 101, 3) := by decide +kernel
theorem dL_law_948 : decode cL_law 948 = .ok (.aload_n 2, 1) := by decide +kernel
theorem dL_law_949 : decode cL_law 949 = .ok (.aload_n 0, 1) := by decide +kernel
theorem dL_law_950 : decode cL_law 950 = .ok (.iload_n 3, 1) := by decide +kernel
theorem dL_law_951 : decode cL_law 951 = .ok (.iconst 1, 1) := by decide +kernel
theorem dL_law_952 : decode cL_law 952 = .ok (.iadd, 1) := by decide +kernel
theorem dL_law_953 : decode cL_law 953 = .ok (.iaload, 1) := by decide +kernel
theorem dL_law_954 : decode cL_law 954 = .ok (.aload_n 0, 1) := by decide +kernel
theorem dL_law_955 : decode cL_law 955 = .ok (.iload_n 3, 1) := by decide +kernel
theorem dL_law_956 : decode cL_law 956 = .ok (.iconst 2, 1) := by decide +kernel
theorem dL_law_957 : decode cL_law 957 = .ok (.iadd, 1) := by decide +kernel
theorem dL_law_958 : decode cL_law 958 = .ok (.iaload, 1) := by decide +kernel
theorem dL_law_959 : decode cL_law 959 = .ok (.invokevirtual 104, 3) := by decide +kernel
theorem dL_law_962 : decode cL_law 962 = .ok (.if_icmp .eq 206, 3) := by decide +kernel
theorem dL_law_965 : decode cL_law 965 = .ok (.iconst 0, 1) := by decide +kernel
theorem dL_law_966 : decode cL_law 966 = .ok (.ireturn, 1) := by decide +kernel
theorem dL_law_967 : decode cL_law 967 = .ok (.aload_n 1, 1) := by decide +kernel
theorem dL_law_968 : decode cL_law 968 = .ok (.aload_n 0, 1) := by decide +kernel
theorem dL_law_969 : decode cL_law 969 = .ok (.iload_n 3, 1) := by decide +kernel
theorem dL_law_970 : decode cL_law 970 = .ok (.iconst 1, 1) := by decide +kernel
theorem dL_law_971 : decode cL_law 971 = .ok (.iadd, 1) := by decide +kernel
theorem dL_law_972 : decode cL_law 972 = .ok (.iaload, 1) := by decide +kernel
theorem dL_law_973 : decode cL_law 973 = .ok (.invokevirtual 105, 3) := by decide +kernel
theorem dL_law_976 : decode cL_law 976 = .ok (.aload_n 2, 1) := by decide +kernel
theorem dL_law_977 : decode cL_law 977 = .ok (.aload_n 0, 1) := by decide +kernel
theorem dL_law_978 : decode cL_law 978 = .ok (.iload_n 3, 1) := by decide +kernel
theorem dL_law_979 : decode cL_law 979 = .ok (.iconst 1, 1) := by decide +kernel
theorem dL_law_980 : decode cL_law 980 = .ok (.iadd, 1) := by decide +kernel
theorem dL_law_981 : decode cL_law 981 = .ok (.iaload, 1) := by decide +kernel
theorem dL_law_982 : decode cL_law 982 = .ok (.invokevirtual 108, 3) := by decide +kernel
theorem dL_law_985 : decode cL_law 985 = .ok (.if_icmp .eq 183, 3) := by decide +kernel
theorem dL_law_988 : decode cL_law 988 = .ok (.iconst 0, 1) := by decide +kernel
theorem dL_law_989 : decode cL_law 989 = .ok (.ireturn, 1) := by decide +kernel
theorem dL_law_990 : decode cL_law 990 = .ok (.aload_n 1, 1) := by decide +kernel
theorem dL_law_991 : decode cL_law 991 = .ok (.aload_n 0, 1) := by decide +kernel
theorem dL_law_992 : decode cL_law 992 = .ok (.iload_n 3, 1) := by decide +kernel
theorem dL_law_993 : decode cL_law 993 = .ok (.iconst 1, 1) := by decide +kernel
theorem dL_law_994 : decode cL_law 994 = .ok (.iadd, 1) := by decide +kernel
theorem dL_law_995 : decode cL_law 995 = .ok (.iaload, 1) := by decide +kernel
theorem dL_law_996 : decode cL_law 996 = .ok (.aload_n 0, 1) := by decide +kernel
theorem dL_law_997 : decode cL_law 997 = .ok (.iload_n 3, 1) := by decide +kernel
theorem dL_law_998 : decode cL_law 998 = .ok (.iconst 2, 1) := by decide +kernel
theorem dL_law_999 : decode cL_law 999 = .ok (.iadd, 1) := by decide +kernel
theorem dL_law_1000 : decode cL_law 1000 = .ok (.iaload, 1) := by decide +kernel
theorem dL_law_1001 : decode cL_law 1001 = .ok (.aload_n 0, 1) := by decide +kernel
theorem dL_law_1002 : decode cL_law 1002 = .ok (.iload_n 3, 1) := by decide +kernel
theorem dL_law_1003 : decode cL_law 1003 = .ok (.iconst 3, 1) := by decide +kernel
theorem dL_law_1004 : decode cL_law 1004 = .ok (.iadd, 1) := by decide +kernel
theorem dL_law_1005 : decode cL_law 1005 = .ok (.iaload, 1) := by decide +kernel
theorem dL_law_1006 : decode cL_law 1006 = .ok (.invokevirtual 109, 3) := by decide +kernel
theorem dL_law_1009 : decode cL_law 1009 = .ok (.aload_n 2, 1) := by decide +kernel
theorem dL_law_1010 : decode cL_law 1010 = .ok (.aload_n 0, 1) := by decide +kernel
theorem dL_law_1011 : decode cL_law 1011 = .ok (.iload_n 3, 1) := by decide +kernel
theorem dL_law_1012 : decode cL_law 1012 = .ok (.iconst 1, 1) := by decide +kernel
theorem dL_law_1013 : decode cL_law 1013 = .ok (.iadd, 1) := by decide +kernel
theorem dL_law_1014 : decode cL_law 1014 = .ok (.iaload, 1) := by decide +kernel
theorem dL_law_1015 : decode cL_law 1015 = .ok (.aload_n 0, 1) := by decide +kernel
theorem dL_law_1016 : decode cL_law 1016 = .ok (.iload_n 3, 1) := by decide +kernel
theorem dL_law_1017 : decode cL_law 1017 = .ok (.iconst 2, 1) := by decide +kernel
theorem dL_law_1018 : decode cL_law 1018 = .ok (.iadd, 1) := by decide +kernel
theorem dL_law_1019 : decode cL_law 1019 = .ok (.iaload, 1) := by decide +kernel
theorem dL_law_1020 : decode cL_law 1020 = .ok (.aload_n 0, 1) := by decide +kernel
theorem dL_law_1021 : decode cL_law 1021 = .ok (.iload_n 3, 1) := by decide +kernel
theorem dL_law_1022 : decode cL_law 1022 = .ok (.iconst 3, 1) := by decide +kernel
theorem dL_law_1023 : decode cL_law 1023 = .ok (.iadd, 1) := by decide +kernel
theorem dL_law_1024 : decode cL_law 1024 = .ok (.iaload, 1) := by decide +kernel
theorem dL_law_1025 : decode cL_law 1025 = .ok (.invokevirtual 112, 3) := by decide +kernel
theorem dL_law_1028 : decode cL_law 1028 = .ok (.if_icmp .eq 140, 3) := by decide +kernel
theorem dL_law_1031 : decode cL_law 1031 = .ok (.iconst 0, 1) := by decide +kernel
theorem dL_law_1032 : decode cL_law 1032 = .ok (.ireturn, 1) := by decide +kernel
theorem dL_law_1033 : decode cL_law 1033 = .ok (.aload_n 1, 1) := by decide +kernel
theorem dL_law_1034 : decode cL_law 1034 = .ok (.aload_n 0, 1) := by decide +kernel
theorem dL_law_1035 : decode cL_law 1035 = .ok (.iload_n 3, 1) := by decide +kernel
theorem dL_law_1036 : decode cL_law 1036 = .ok (.iconst 1, 1) := by decide +kernel
theorem dL_law_1037 : decode cL_law 1037 = .ok (.iadd, 1) := by decide +kernel
theorem dL_law_1038 : decode cL_law 1038 = .ok (.iaload, 1) := by decide +kernel
theorem dL_law_1039 : decode cL_law 1039 = .ok (.aload_n 0, 1) := by decide +kernel
theorem dL_law_1040 : decode cL_law 1040 = .ok (.iload_n 3, 1) := by decide +kernel
theorem dL_law_1041 : decode cL_law 1041 = .ok (.iconst 2, 1) := by decide +kernel
theorem dL_law_1042 : decode cL_law 1042 = .ok (.iadd, 1) := by decide +kernel
theorem dL_law_1043 : decode cL_law 1043 = .ok (.iaload, 1) := by decide +kernel
theorem dL_law_1044 : decode cL_law 1044 = .ok (.invokevirtual 113, 3) := by decide +kernel
theorem dL_law_1047 : decode cL_law 1047 = .ok (.aload_n 2, 1) := by decide +kernel
theorem dL_law_1048 : decode cL_law 1048 = .ok (.aload_n 0, 1) := by decide +kernel
theorem dL_law_1049 : decode cL_law 1049 = .ok (.iload_n 3, 1) := by decide +kernel
theorem dL_law_1050 : decode cL_law 1050 = .ok (.iconst 1, 1) := by decide +kernel
theorem dL_law_1051 : decode cL_law 1051 = .ok (.iadd, 1) := by decide +kernel
theorem dL_law_1052 : decode cL_law 1052 = .ok (.iaload, 1) := by decide +kernel
theorem dL_law_1053 : decode cL_law 1053 = .ok (.aload_n 0, 1) := by decide +kernel
theorem dL_law_1054 : decode cL_law 1054 = .ok (.iload_n 3, 1) := by decide +kernel
theorem dL_law_1055 : decode cL_law 1055 = .ok (.iconst 2, 1) := by decide +kernel
theorem dL_law_1056 : decode cL_law 1056 = .ok (.iadd, 1) := by decide +kernel
theorem dL_law_1057 : decode cL_law 1057 = .ok (.iaload, 1) := by decide +kernel
theorem dL_law_1058 : decode cL_law 1058 = .ok (.invokevirtual 116, 3) := by decide +kernel
theorem dL_law_1061 : decode cL_law 1061 = .ok (.if_icmp .eq 107, 3) := by decide +kernel
theorem dL_law_1064 : decode cL_law 1064 = .ok (.iconst 0, 1) := by decide +kernel
theorem dL_law_1065 : decode cL_law 1065 = .ok (.ireturn, 1) := by decide +kernel
theorem dL_law_1066 : decode cL_law 1066 = .ok (.aload_n 1, 1) := by decide +kernel
theorem dL_law_1067 : decode cL_law 1067 = .ok (.aload_n 0, 1) := by decide +kernel
theorem dL_law_1068 : decode cL_law 1068 = .ok (.iload_n 3, 1) := by decide +kernel
theorem dL_law_1069 : decode cL_law 1069 = .ok (.iconst 1, 1) := by decide +kernel
theorem dL_law_1070 : decode cL_law 1070 = .ok (.iadd, 1) := by decide +kernel
theorem dL_law_1071 : decode cL_law 1071 = .ok (.iaload, 1) := by decide +kernel
theorem dL_law_1072 : decode cL_law 1072 = .ok (.aload_n 0, 1) := by decide +kernel
theorem dL_law_1073 : decode cL_law 1073 = .ok (.iload_n 3, 1) := by decide +kernel
theorem dL_law_1074 : decode cL_law 1074 = .ok (.iconst 2, 1) := by decide +kernel
theorem dL_law_1075 : decode cL_law 1075 = .ok (.iadd, 1) := by decide +kernel
theorem dL_law_1076 : decode cL_law 1076 = .ok (.iaload, 1) := by decide +kernel
theorem dL_law_1077 : decode cL_law 1077 = .ok (.invokevirtual 117, 3) := by decide +kernel
theorem dL_law_1080 : decode cL_law 1080 = .ok (.aload_n 2, 1) := by decide +kernel
theorem dL_law_1081 : decode cL_law 1081 = .ok (.aload_n 0, 1) := by decide +kernel
theorem dL_law_1082 : decode cL_law 1082 = .ok (.iload_n 3, 1) := by decide +kernel
theorem dL_law_1083 : decode cL_law 1083 = .ok (.iconst 1, 1) := by decide +kernel
theorem dL_law_1084 : decode cL_law 1084 = .ok (.iadd, 1) := by decide +kernel
theorem dL_law_1085 : decode cL_law 1085 = .ok (.iaload, 1) := by decide +kernel
theorem dL_law_1086 : decode cL_law 1086 = .ok (.aload_n 0, 1) := by decide +kernel
theorem dL_law_1087 : decode cL_law 1087 = .ok (.iload_n 3, 1) := by decide +kernel
theorem dL_law_1088 : decode cL_law 1088 = .ok (.iconst 2, 1) := by decide +kernel
theorem dL_law_1089 : decode cL_law 1089 = .ok (.iadd, 1) := by decide +kernel
theorem dL_law_1090 : decode cL_law 1090 = .ok (.iaload, 1) := by decide +kernel
theorem dL_law_1091 : decode cL_law 1091 = .ok (.invokevirtual 120, 3) := by decide +kernel
theorem dL_law_1094 : decode cL_law 1094 = .ok (.if_icmp .eq 74, 3) := by decide +kernel
theorem dL_law_1097 : decode cL_law 1097 = .ok (.iconst 0, 1) := by decide +kernel
theorem dL_law_1098 : decode cL_law 1098 = .ok (.ireturn, 1) := by decide +kernel
theorem dL_law_1099 : decode cL_law 1099 = .ok (.aload_n 1, 1) := by decide +kernel
theorem dL_law_1100 : decode cL_law 1100 = .ok (.aload_n 0, 1) := by decide +kernel
theorem dL_law_1101 : decode cL_law 1101 = .ok (.iload_n 3, 1) := by decide +kernel
theorem dL_law_1102 : decode cL_law 1102 = .ok (.iconst 1, 1) := by decide +kernel
theorem dL_law_1103 : decode cL_law 1103 = .ok (.iadd, 1) := by decide +kernel
theorem dL_law_1104 : decode cL_law 1104 = .ok (.iaload, 1) := by decide +kernel
theorem dL_law_1105 : decode cL_law 1105 = .ok (.invokevirtual 121, 3) := by decide +kernel
theorem dL_law_1108 : decode cL_law 1108 = .ok (.aload_n 2, 1) := by decide +kernel
theorem dL_law_1109 : decode cL_law 1109 = .ok (.aload_n 0, 1) := by decide +kernel
theorem dL_law_1110 : decode cL_law 1110 = .ok (.iload_n 3, 1) := by decide +kernel
theorem dL_law_1111 : decode cL_law 1111 = .ok (.iconst 1, 1) := by decide +kernel
theorem dL_law_1112 : decode cL_law 1112 = .ok (.iadd, 1) := by decide +kernel
theorem dL_law_1113 : decode cL_law 1113 = .ok (.iaload, 1) := by decide +kernel
theorem dL_law_1114 : decode cL_law 1114 = .ok (.invokevirtual 124, 3) := by decide +kernel
theorem dL_law_1117 : decode cL_law 1117 = .ok (.if_icmp .eq 51, 3) := by decide +kernel
theorem dL_law_1120 : decode cL_law 1120 = .ok (.iconst 0, 1) := by decide +kernel
theorem dL_law_1121 : decode cL_law 1121 = .ok (.ireturn, 1) := by decide +kernel
theorem dL_law_1122 : decode cL_law 1122 = .ok (.aload_n 1, 1) := by decide +kernel
theorem dL_law_1123 : decode cL_law 1123 = .ok (.aload_n 0, 1) := by decide +kernel
theorem dL_law_1124 : decode cL_law 1124 = .ok (.iload_n 3, 1) := by decide +kernel
theorem dL_law_1125 : decode cL_law 1125 = .ok (.iconst 1, 1) := by decide +kernel
theorem dL_law_1126 : decode cL_law 1126 = .ok (.iadd, 1) := by decide +kernel
theorem dL_law_1127 : decode cL_law 1127 = .ok (.iaload, 1) := by decide +kernel
theorem dL_law_1128 : decode cL_law 1128 = .ok (.invokevirtual 125, 3) := by decide +kernel
theorem dL_law_1131 : decode cL_law 1131 = .ok (.aload_n 2, 1) := by decide +kernel
theorem dL_law_1132 : decode cL_law 1132 = .ok (.aload_n 0, 1) := by decide +kernel
theorem dL_law_1133 : decode cL_law 1133 = .ok (.iload_n 3, 1) := by decide +kernel
theorem dL_law_1134 : decode cL_law 1134 = .ok (.iconst 1, 1) := by decide +kernel
theorem dL_law_1135 : decode cL_law 1135 = .ok (.iadd, 1) := by decide +kernel
theorem dL_law_1136 : decode cL_law 1136 = .ok (.iaload, 1) := by decide +kernel
theorem dL_law_1137 : decode cL_law 1137 = .ok (.invokevirtual 129, 3) := by decide +kernel
theorem dL_law_1140 : decode cL_law 1140 = .ok (.if_icmp .eq 28, 3) := by decide +kernel
theorem dL_law_1143 : decode cL_law 1143 = .ok (.iconst 0, 1) := by decide +kernel
theorem dL_law_1144 : decode cL_law 1144 = .ok (.ireturn, 1) := by decide +kernel
theorem dL_law_1145 : decode cL_law 1145 = .ok (.aload_n 1, 1) := by decide +kernel
theorem dL_law_1146 : decode cL_law 1146 = .ok (.aload_n 0, 1) := by decide +kernel
theorem dL_law_1147 : decode cL_law 1147 = .ok (.iload_n 3, 1) := by decide +kernel
theorem dL_law_1148 : decode cL_law 1148 = .ok (.iconst 1, 1) := by decide +kernel
theorem dL_law_1149 : decode cL_law 1149 = .ok (.iadd, 1) := by decide +kernel
theorem dL_law_1150 : decode cL_law 1150 = .ok (.iaload, 1) := by decide +kernel
theorem dL_law_1151 : decode cL_law 1151 = .ok (.invokevirtual 130, 3) := by decide +kernel
theorem dL_law_1154 : decode cL_law 1154 = .ok (.aload_n 2, 1) := by decide +kernel
theorem dL_law_1155 : decode cL_law 1155 = .ok (.aload_n 0, 1) := by decide +kernel
theorem dL_law_1156 : decode cL_law 1156 = .ok (.iload_n 3, 1) := by decide +kernel
theorem dL_law_1157 : decode cL_law 1157 = .ok (.iconst 1, 1) := by decide +kernel
theorem dL_law_1158 : decode cL_law 1158 = .ok (.iadd, 1) := by decide +kernel
theorem dL_law_1159 : decode cL_law 1159 = .ok (.iaload, 1) := by decide +kernel
theorem dL_law_1160 : decode cL_law 1160 = .ok (.invokevirtual 133, 3) := by decide +kernel
theorem dL_law_1163 : decode cL_law 1163 = .ok (.if_icmp .eq 5, 3) := by decide +kernel
theorem dL_law_1166 : decode cL_law 1166 = .ok (.iconst 0, 1) := by decide +kernel
theorem dL_law_1167 : decode cL_law 1167 = .ok (.ireturn, 1) := by decide +kernel
theorem dL_law_1168 : decode cL_law 1168 = .ok (.iinc 3 7, 3) := by decide +kernel
theorem dL_law_1171 : decode cL_law 1171 = .ok (.goto (-1153), 3) := by decide +kernel
theorem dL_law_1174 : decode cL_law 1174 = .ok (.iconst 1, 1) := by decide +kernel
theorem dL_law_1175 : decode cL_law 1175 = .ok (.ireturn, 1) := by decide +kernel
end
section
/-! LOGICAL MEMORY: every cell that the two systems make has a logical name (a triple); values on the frame and in the cells are logical; ad gives a name's address. -/
abbrev Ln : Type := Nat × Nat × Nat
abbrev AV : Type := Int32 ⊕ Option Ln
abbrev Mm : Type := (Ln → Nat → Int32) × (Ln → Nat → Option Ln) × (Ln → Bool)
abbrev En : Type := (Nat → ClassId) × (Nat → Nat → Nat) × (Nat → ClassId)
abbrev vi (x : Int32) : AV := Sum.inl x
abbrev vr (k : Ln) : AV := Sum.inr (some k)
abbrev vn : AV := Sum.inr none
def wI (S : Mm) (k : Ln) (j : Nat) (v : Int32) : Mm := (fun k' j' => if k' = k ∧ j' = j then v else S.1 k' j', S.2)
def wR (S : Mm) (k : Ln) (j : Nat) (r : Option Ln) : Mm := (S.1, fun k' j' => if k' = k ∧ j' = j then r else S.2.1 k' j', S.2.2)
def nwm (S : Mm) (k : Ln) : Mm := (fun k' j' => if k' = k then 0 else S.1 k' j', fun k' j' => if k' = k then none else S.2.1 k' j', fun k' => if k' = k then true else S.2.2 k')
/-- the name of the class's constant array -/
def wK : Ln := (9, 0, 0)
/-- kinds: (0, class) an object; (1, n) int[n]; (2, n) boolean[n]; (3, n) Machine[n]; (4, n) Lane[n]; (5, n) int[n][] -/
def kd0 : Nat → Nat × Nat
  | 0 => (0, 6) | 1 => (3, 6) | 2 => (1, 16) | 3 => (1, 7) | 4 => (1, 6) | 5 => (0, 0) | 6 => (1, 6) | 7 => (1, 6) | 8 => (0, 5) | 9 => (5, 9) | _ => (1, 8)
def kdM : Nat → Nat × Nat
  | 0 => (0, 3) | 1 => (4, 8) | 2 => (0, 4) | 3 => (1, 6) | 4 => (1, 6) | 5 => (1, 6) | 6 => (1, 6) | 7 => (1, 6) | 8 => (1, 6) | 9 => (1, 6) | 10 => (0, 1) | _ => (1, 384)
def kd7 : Nat → Nat × Nat
  | 0 => (0, 7) | 2 => (1, 6) | 3 => (1, 36) | 4 => (1, 36) | 5 => (1, 36) | 6 => (1, 36) | 7 => (1, 36) | 8 => (2, 6) | 9 => (1, 6)
  | 10 => (1, 48) | 11 => (1, 48) | 12 => (1, 48) | 13 => (1, 48) | 14 => (1, 48) | 15 => (1, 48) | 16 => (1, 48) | 17 => (1, 48) | 18 => (2, 48) | 19 => (2, 48)
  | 20 => (1, 16) | 21 => (1, 2304) | 22 => (1, 2304) | 23 => (1, 6) | 24 => (1, 6) | 25 => (1, 6) | 26 => (1, 6) | 28 => (1, 6) | 29 => (1, 8) | 30 => (1, 7) | 31 => (1, 14007) | 32 => (1, 6) | _ => (1, 1809)
def kd (k : Ln) : Nat × Nat := match k.1 with
  | 0 => kd0 k.2.2
  | 1 => kdM k.2.2
  | 2 => kd7 k.2.2
  | 3 => (0, 2)
  | _ => (1, 201)
def tyC (ci : Nat) : Nat → FieldType := match ci with
  | 0 => tyX0 | 1 => tyX1 | 2 => tyX2 | 3 => tyX3 | 4 => tyX4 | 5 => tyX5 | 6 => tyX6 | _ => tyX7
def isRefT : FieldType → Bool
  | .int => false
  | .boolean => false
  | _ => true
def nfC (ci : Nat) : Nat := match ci with
  | 0 => 2 | 1 => 2 | 2 => 10 | 3 => 10 | 4 => 8 | 5 => 2 | 6 => 9 | _ => 34
def vo (ad : Ln → Nat) : Option Ln → Value
  | none => .null
  | some k => .ref (ad k)
def tr (ad : Ln → Nat) : AV → Value
  | .inl x => .int x
  | .inr o => vo ad o
def fval (ad : Ln → Nat) (S : Mm) (k : Ln) (ci j : Nat) : Value := if isRefT (tyC ci j) = true then vo ad (S.2.1 k j) else .int (S.1 k j)
def aval (ad : Ln → Nat) (S : Mm) (k : Ln) (t j : Nat) : Value := if t ≤ 2 then .int (S.1 k j) else vo ad (S.2.1 k j)
def cellOK (E : En) (ad : Ln → Nat) (S : Mm) (k : Ln) (H : Heap) : Prop :=
  if (kd k).1 = 0 then t_OB (ad k) (E.1 (kd k).2) (nfC (kd k).2) (E.2.1 (kd k).2) H (fval ad S k (kd k).2)
  else H[ad k]? = some (arrV (E.2.2 (kd k).1) (kd k).2 (aval ad S k (kd k).1))
def Hp (E : En) (base : Nat) (ad : Ln → Nat) (S : Mm) (H : Heap) : Prop :=
  (∀ k, S.2.2 k = true → cellOK E ad S k H ∧ base ≤ ad k) ∧ (∀ j k, S.2.2 j = true → S.2.2 k = true → ad j = ad k → j = k) ∧ (∀ k j r, S.2.2 k = true → S.2.1 k j = some r → S.2.2 r = true)
/-- the words: those of private members of nest mates stand apart -/
def isNest : Cond → Bool
  | .fieldLinkNest .. => true
  | .methodLinkNest .. => true
  | _ => false
def gdW : List Cond := lw_tbl.filter goodWord
def nsW : List Cond := lw_tbl.filter isNest
def wths : Nat → Int32
  | 0 => 500 | 1 => 200 | 2 => 100 | 3 => 50 | 4 => 20 | _ => 10
def KU (E : En) (base aw : Nat) (U : State) : Prop :=
  va_K (E.1, E.2.1) vwCl [(E.2.2 1, .int), (E.2.2 2, .boolean), (E.2.2 3, .object RX3), (E.2.2 4, .object RX2), (E.2.2 5, .array .int)] U ∧ (∀ w ∈ nsW, va_Nw w U)
  ∧ va_Z RX6 "WORTHS" "[I" (.ref aw) (fun q => base ≤ q) U U.heap ∧ va_X aw 6 wths U U.heap ∧ aw < base ∧ base ≤ U.heap.size ∧ va_AO RX3 U ∧ va_AO RX2 U ∧ (Cond.arrayOver (.array .int)).before #[] U = true
/-- the machine, the method, its end; and the surroundings: class numbers, base, the constant array's place, addresses at the start, the names that may come new -/
abbrev Xt : Type := Program × Launch × Env × Room × State × MethodId × Array Value × List Frame × Method × Code × (State → Prop)
abbrev Yt : Type := En × Nat × Nat × (Ln → Nat) × (Ln → Bool)
def Inv (Y : Yt) (s : State) (ad : Ln → Nat) (S : Mm) (H : Heap) (locs : List Loc) : Prop :=
  Hp Y.1 Y.2.1 ad S H ∧ (∀ k, Y.2.2.2.2 k = false → ad k = Y.2.2.2.1 k) ∧ ad wK = Y.2.2.1 ∧ va_S (fun q => Y.2.1 ≤ q) s.heap H locs
def trL (ad : Ln → Nat) (L : List (Nat × AV)) : List (Nat × Value) := L.map (fun q => (q.1, tr ad q.2))
def G (X : Xt) (Y : Yt) (cells slots : Nat) (S : Mm) (pc : Nat) (L : List (Nat × AV)) (st : List AV) : Prop :=
  ∀ (ad : Ln → Nat) (H : Heap) (locs : List Loc) (ls : Array Slot), Inv Y X.2.2.2.2.1 ad S H locs → lv_has ls X.2.2.2.2.2.2.2.2.2.1.maxLocals (trL ad L) →
    W X.1 X.2.1 X.2.2.1 X.2.2.2.1 X.2.2.2.2.1 X.2.2.2.2.2.1 X.2.2.2.2.2.2.1 X.2.2.2.2.2.2.2.1 X.2.2.2.2.2.2.2.2.1 X.2.2.2.2.2.2.2.2.2.1 H locs cells slots X.2.2.2.2.2.2.2.2.2.2 (F0 X.2.2.2.2.2.1 pc ls (st.map (tr ad)))
/-- what holds all through a method's body -/
def Cx (X : Xt) (Y : Yt) (cc : ByteArray) (nL : Nat) (own : String) : Prop :=
  X.1.tables.exec = Jvm.exec ∧ X.2.2.2.2.2.2.2.2.2.1.code = cc ∧ X.2.2.2.2.2.2.2.2.2.1.maxLocals = nL ∧ X.2.2.2.2.1.vm.findClass own = some X.2.2.2.2.2.1.cls ∧ (∀ w ∈ gdW, w.before X.2.2.2.2.2.2.1 X.2.2.2.2.1 = true) ∧ KU Y.1 Y.2.1 Y.2.2.1 X.2.2.2.2.1 ∧ X.2.2.2.2.2.2.2.2.1.locks = false
def lk : List (Nat × AV) → Nat → Option AV
  | [], _ => none
  | q :: t, i => if q.1 = i then some q.2 else lk t i
def sto (L : List (Nat × AV)) (i : Nat) (v : AV) : List (Nat × AV) := (i, v) :: L.filter (fun q => !(q.1 == i))
theorem lk_mem : ∀ {L : List (Nat × AV)} {i : Nat} {v : AV}, lk L i = some v → (i, v) ∈ L
  | [], _, _, h => by cases h
  | q :: t, i, v, h => by
    unfold lk at h
    split at h
    · rename_i e
      cases h
      rw [← e]
      exact List.mem_cons_self
    · exact List.mem_cons_of_mem _ (lk_mem h)
theorem lk_at {ad : Ln → Nat} {ls : Array Slot} {n : Nat} {L : List (Nat × AV)} {i : Nat} {v : AV} (hl : lv_has ls n (trL ad L)) (h : lk L i = some v) : ls[i]? = some (.val (tr ad v)) :=
  hl.2.2 (i, tr ad v) (List.mem_map.mpr ⟨(i, v), lk_mem h, rfl⟩)
theorem tr_cat (ad : Ln → Nat) (v : AV) : (tr ad v).category = 1 := by
  rcases v with x | o
  · rfl
  · cases o <;> rfl
theorem sto_eq (ad : Ln → Nat) (L : List (Nat × AV)) (i : Nat) (v : AV) : (i, tr ad v) :: (trL ad L).filter (fun q => !(q.1 == i) && !(q.1 + 1 == i && q.2.category == 2)) = trL ad (sto L i v) := by
  unfold sto trL
  rw [List.map_cons, List.filter_map]
  congr 2
  apply List.filter_congr
  intro q _
  simp [Function.comp, tr_cat]
section GA
variable {X : Xt} {Y : Yt} {cc : ByteArray} {nL : Nat} {own : String} {cells slots : Nat} {S : Mm} {pc : Nat} {L : List (Nat × AV)} {st : List AV}
theorem g_iconst (C : Cx X Y cc nL own) {n : Int} (v : Int32) (hd : decode cc pc = .ok (.iconst n, 1)) (hv : Int32.ofInt n = v) (k : G X Y cells slots S (pc + 1) L (vi v :: st)) : G X Y cells slots S pc L st :=
  fun ad H locs ls hI hl => lv_iconst C.1 C.2.1 hd hv (k ad H locs ls hI hl)
theorem g_bipush (C : Cx X Y cc nL own) {n : Int} (v : Int32) (hd : decode cc pc = .ok (.bipush n, 2)) (hv : (Int8.ofInt n).toInt32 = v) (k : G X Y cells slots S (pc + 2) L (vi v :: st)) : G X Y cells slots S pc L st :=
  fun ad H locs ls hI hl => lv_bipush C.1 C.2.1 hd hv (k ad H locs ls hI hl)
theorem g_sipush (C : Cx X Y cc nL own) {n : Int} (v : Int32) (hd : decode cc pc = .ok (.sipush n, 3)) (hv : (Int16.ofInt n).toInt32 = v) (k : G X Y cells slots S (pc + 3) L (vi v :: st)) : G X Y cells slots S pc L st :=
  fun ad H locs ls hI hl => lv_sipush C.1 C.2.1 hd hv (k ad H locs ls hI hl)
theorem g_ldc (C : Cx X Y cc nL own) {index : Nat} (v : Int32) (hd : decode cc pc = .ok (.ldc index, 2)) (hw : Cond.constant own index v ∈ gdW) (k : G X Y cells slots S (pc + 2) L (vi v :: st)) : G X Y cells slots S pc L st :=
  fun ad H locs ls hI hl => lv_ldc C.1 C.2.1 C.2.2.2.1 (C.2.2.2.2.1 _ hw) hd (k ad H locs ls hI hl)
theorem g_null (C : Cx X Y cc nL own) (hd : decode cc pc = .ok (.aconst_null, 1)) (k : G X Y cells slots S (pc + 1) L (vn :: st)) : G X Y cells slots S pc L st :=
  fun ad H locs ls hI hl => lv_null C.1 C.2.1 hd (k ad H locs ls hI hl)
theorem g_iload_n (C : Cx X Y cc nL own) {k4 : Fin 4} {x : Int32} (hd : decode cc pc = .ok (.iload_n k4, 1)) (hl0 : lk L k4 = some (vi x)) (k : G X Y cells slots S (pc + 1) L (vi x :: st)) : G X Y cells slots S pc L st :=
  fun ad H locs ls hI hl => lv_iload_n C.1 C.2.1 hd rfl (lk_at hl hl0) (k ad H locs ls hI hl)
theorem g_iload (C : Cx X Y cc nL own) {i : Nat} {x : Int32} (hd : decode cc pc = .ok (.iload i, 2)) (hl0 : lk L i = some (vi x)) (k : G X Y cells slots S (pc + 2) L (vi x :: st)) : G X Y cells slots S pc L st :=
  fun ad H locs ls hI hl => lv_iload C.1 C.2.1 hd (lk_at hl hl0) (k ad H locs ls hI hl)
theorem g_aload_n (C : Cx X Y cc nL own) {k4 : Fin 4} {o : Option Ln} (hd : decode cc pc = .ok (.aload_n k4, 1)) (hl0 : lk L k4 = some (.inr o)) (k : G X Y cells slots S (pc + 1) L (.inr o :: st)) : G X Y cells slots S pc L st := by
  intro ad H locs ls hI hl
  cases o with
  | none => exact lv_aload_nN C.1 C.2.1 hd rfl (lk_at hl hl0) (k ad H locs ls hI hl)
  | some q => exact lv_aload_n C.1 C.2.1 hd rfl (lk_at hl hl0) (k ad H locs ls hI hl)
theorem g_aload (C : Cx X Y cc nL own) {i : Nat} {o : Option Ln} (hd : decode cc pc = .ok (.aload i, 2)) (hl0 : lk L i = some (.inr o)) (k : G X Y cells slots S (pc + 2) L (.inr o :: st)) : G X Y cells slots S pc L st := by
  intro ad H locs ls hI hl
  cases o with
  | none => exact lv_aloadN C.1 C.2.1 hd (lk_at hl hl0) (k ad H locs ls hI hl)
  | some q => exact lv_aload C.1 C.2.1 hd (lk_at hl hl0) (k ad H locs ls hI hl)
theorem g_istore_n (C : Cx X Y cc nL own) {k4 : Fin 4} {x : Int32} (hd : decode cc pc = .ok (.istore_n k4, 1)) (hn : (k4 : Nat) < nL) (k : G X Y cells slots S (pc + 1) (sto L k4 (vi x)) st) : G X Y cells slots S pc L (vi x :: st) :=
  fun ad H locs ls hI hl => lv_istore_n C.1 C.2.1 hd rfl hl (by rw [C.2.2.1]; exact hn) (sto_eq ad L k4 (vi x)) (fun ls' h' => k ad H locs ls' hI h')
theorem g_istore (C : Cx X Y cc nL own) {i : Nat} {x : Int32} (hd : decode cc pc = .ok (.istore i, 2)) (hn : i < nL) (k : G X Y cells slots S (pc + 2) (sto L i (vi x)) st) : G X Y cells slots S pc L (vi x :: st) :=
  fun ad H locs ls hI hl => lv_istore C.1 C.2.1 hd hl (by rw [C.2.2.1]; exact hn) (sto_eq ad L i (vi x)) (fun ls' h' => k ad H locs ls' hI h')
theorem g_astore_n (C : Cx X Y cc nL own) {k4 : Fin 4} {o : Option Ln} (hd : decode cc pc = .ok (.astore_n k4, 1)) (hn : (k4 : Nat) < nL) (k : G X Y cells slots S (pc + 1) (sto L k4 (.inr o)) st) : G X Y cells slots S pc L (.inr o :: st) := by
  intro ad H locs ls hI hl
  cases o with
  | none => exact lv_astore_nN C.1 C.2.1 hd rfl hl (by rw [C.2.2.1]; exact hn) (sto_eq ad L k4 vn) (fun ls' h' => k ad H locs ls' hI h')
  | some q => exact lv_astore_n C.1 C.2.1 hd rfl hl (by rw [C.2.2.1]; exact hn) (sto_eq ad L k4 (vr q)) (fun ls' h' => k ad H locs ls' hI h')
theorem g_astore (C : Cx X Y cc nL own) {i : Nat} {o : Option Ln} (hd : decode cc pc = .ok (.astore i, 2)) (hn : i < nL) (k : G X Y cells slots S (pc + 2) (sto L i (.inr o)) st) : G X Y cells slots S pc L (.inr o :: st) := by
  intro ad H locs ls hI hl
  cases o with
  | none => exact lv_astoreN C.1 C.2.1 hd hl (by rw [C.2.2.1]; exact hn) (sto_eq ad L i vn) (fun ls' h' => k ad H locs ls' hI h')
  | some q => exact lv_astore C.1 C.2.1 hd hl (by rw [C.2.2.1]; exact hn) (sto_eq ad L i (vr q)) (fun ls' h' => k ad H locs ls' hI h')
theorem g_iinc (C : Cx X Y cc nL own) {i : Nat} {n : Int} {x : Int32} (v : Int32) (hd : decode cc pc = .ok (.iinc i n, 3)) (hl0 : lk L i = some (vi x)) (hn : i < nL) (hv : Int32.ofInt n = v) (k : G X Y cells slots S (pc + 3) (sto L i (vi (x + v))) st) : G X Y cells slots S pc L st := by
  intro ad H locs ls hI hl
  obtain ⟨z, hz⟩ := List.getElem?_of_mem (List.mem_map.mpr ⟨(i, vi x), lk_mem hl0, rfl⟩ : (i, tr ad (vi x)) ∈ trL ad L)
  exact lv_iinc C.1 C.2.1 hd hl hz (by rw [hv]) (by rw [C.2.2.1]; exact hn) (sto_eq ad L i (vi (x + v))) (fun ls' h' => k ad H locs ls' hI h')
theorem g_iadd (C : Cx X Y cc nL own) {x y : Int32} (hd : decode cc pc = .ok (.iadd, 1)) (k : G X Y cells slots S (pc + 1) L (vi (x + y) :: st)) : G X Y cells slots S pc L (vi y :: vi x :: st) :=
  fun ad H locs ls hI hl => lv_iadd C.1 C.2.1 hd (k ad H locs ls hI hl)
theorem g_isub (C : Cx X Y cc nL own) {x y : Int32} (hd : decode cc pc = .ok (.isub, 1)) (k : G X Y cells slots S (pc + 1) L (vi (x - y) :: st)) : G X Y cells slots S pc L (vi y :: vi x :: st) :=
  fun ad H locs ls hI hl => lv_isub C.1 C.2.1 hd (k ad H locs ls hI hl)
theorem g_imul (C : Cx X Y cc nL own) {x y : Int32} (hd : decode cc pc = .ok (.imul, 1)) (k : G X Y cells slots S (pc + 1) L (vi (x * y) :: st)) : G X Y cells slots S pc L (vi y :: vi x :: st) :=
  fun ad H locs ls hI hl => lv_imul C.1 C.2.1 hd (k ad H locs ls hI hl)
theorem g_iand (C : Cx X Y cc nL own) {x y : Int32} (hd : decode cc pc = .ok (.iand, 1)) (k : G X Y cells slots S (pc + 1) L (vi (x &&& y) :: st)) : G X Y cells slots S pc L (vi y :: vi x :: st) :=
  fun ad H locs ls hI hl => lv_iand C.1 C.2.1 hd (k ad H locs ls hI hl)
theorem g_ior (C : Cx X Y cc nL own) {x y : Int32} (hd : decode cc pc = .ok (.ior, 1)) (k : G X Y cells slots S (pc + 1) L (vi (x ||| y) :: st)) : G X Y cells slots S pc L (vi y :: vi x :: st) :=
  fun ad H locs ls hI hl => lv_ior C.1 C.2.1 hd (k ad H locs ls hI hl)
theorem g_idiv (C : Cx X Y cc nL own) {x y : Int32} (hd : decode cc pc = .ok (.idiv, 1)) (hne : ¬ y = 0) (k : G X Y cells slots S (pc + 1) L (vi (x / y) :: st)) : G X Y cells slots S pc L (vi y :: vi x :: st) :=
  fun ad H locs ls hI hl => lv_idiv C.1 C.2.1 hd hne (k ad H locs ls hI hl)
theorem g_irem (C : Cx X Y cc nL own) {x y : Int32} (hd : decode cc pc = .ok (.irem, 1)) (hne : ¬ y = 0) (k : G X Y cells slots S (pc + 1) L (vi (x - x / y * y) :: st)) : G X Y cells slots S pc L (vi y :: vi x :: st) :=
  fun ad H locs ls hI hl => lv_irem C.1 C.2.1 hd hne (k ad H locs ls hI hl)
theorem g_ineg (C : Cx X Y cc nL own) {x : Int32} (hd : decode cc pc = .ok (.ineg, 1)) (k : G X Y cells slots S (pc + 1) L (vi (-x) :: st)) : G X Y cells slots S pc L (vi x :: st) :=
  fun ad H locs ls hI hl => lv_ineg C.1 C.2.1 hd (k ad H locs ls hI hl)
theorem g_ishl (C : Cx X Y cc nL own) {x y : Int32} (hd : decode cc pc = .ok (.ishl, 1)) (k : G X Y cells slots S (pc + 1) L (vi (x <<< (y &&& 31)) :: st)) : G X Y cells slots S pc L (vi y :: vi x :: st) :=
  fun ad H locs ls hI hl => lv_ishl C.1 C.2.1 hd (k ad H locs ls hI hl)
theorem g_ishr (C : Cx X Y cc nL own) {x y : Int32} (hd : decode cc pc = .ok (.ishr, 1)) (k : G X Y cells slots S (pc + 1) L (vi (x >>> (y &&& 31)) :: st)) : G X Y cells slots S pc L (vi y :: vi x :: st) :=
  fun ad H locs ls hI hl => lv_ishr C.1 C.2.1 hd (k ad H locs ls hI hl)
theorem g_dup (C : Cx X Y cc nL own) {v : AV} (hd : decode cc pc = .ok (.dup, 1)) (k : G X Y cells slots S (pc + 1) L (v :: v :: st)) : G X Y cells slots S pc L (v :: st) :=
  fun ad H locs ls hI hl => lv_dup C.1 C.2.1 hd (tr_cat ad v) (k ad H locs ls hI hl)
theorem g_dup2 (C : Cx X Y cc nL own) {v w : AV} (hd : decode cc pc = .ok (.dup2, 1)) (k : G X Y cells slots S (pc + 1) L (v :: w :: v :: w :: st)) : G X Y cells slots S pc L (v :: w :: st) :=
  fun ad H locs ls hI hl => lv_dup2_11 C.1 C.2.1 hd (tr_cat ad v) (tr_cat ad w) (k ad H locs ls hI hl)
theorem g_pop (C : Cx X Y cc nL own) {v : AV} (hd : decode cc pc = .ok (.pop, 1)) (k : G X Y cells slots S (pc + 1) L st) : G X Y cells slots S pc L (v :: st) :=
  fun ad H locs ls hI hl => lv_pop C.1 C.2.1 hd (tr_cat ad v) (k ad H locs ls hI hl)
theorem g_goto (C : Cx X Y cc nL own) {off : Int} (tgt : Nat) (hd : decode cc pc = .ok (.goto off, 3)) (ht : (pc : Int) + off = (tgt : Int)) (k : G X Y cells slots S tgt L st) : G X Y cells slots S pc L st :=
  fun ad H locs ls hI hl => lv_goto C.1 C.2.1 hd ht (k ad H locs ls hI hl)
theorem g_ifnull (C : Cx X Y cc nL own) {o : Option Ln} {off : Int} (tgt : Nat) (hd : decode cc pc = .ok (.ifnull off, 3)) (ht : (pc : Int) + off = (tgt : Int)) (kt : o = none → G X Y cells slots S tgt L st) (kf : ∀ q, o = some q → G X Y cells slots S (pc + 3) L st) : G X Y cells slots S pc L (.inr o :: st) := by
  intro ad H locs ls hI hl
  cases o with
  | none => exact lv_ifnullN C.1 C.2.1 hd ht (kt rfl ad H locs ls hI hl)
  | some q => exact lv_ifnull C.1 C.2.1 hd (kf q rfl ad H locs ls hI hl)
theorem g_ifnonnull (C : Cx X Y cc nL own) {o : Option Ln} {off : Int} (tgt : Nat) (hd : decode cc pc = .ok (.ifnonnull off, 3)) (ht : (pc : Int) + off = (tgt : Int)) (kt : ∀ q, o = some q → G X Y cells slots S tgt L st) (kf : o = none → G X Y cells slots S (pc + 3) L st) : G X Y cells slots S pc L (.inr o :: st) := by
  intro ad H locs ls hI hl
  cases o with
  | none => exact lv_ifnonnullN C.1 C.2.1 hd (kf rfl ad H locs ls hI hl)
  | some q => exact lv_ifnonnull C.1 C.2.1 hd ht (kt q rfl ad H locs ls hI hl)
theorem g_if_eq (C : Cx X Y cc nL own) {x : Int32} {off : Int} (tgt : Nat) (hd : decode cc pc = .ok (.ifCond .eq off, 3)) (ht : (pc : Int) + off = (tgt : Int)) (kt : x = 0 → G X Y cells slots S tgt L st) (kf : ¬ x = 0 → G X Y cells slots S (pc + 3) L st) : G X Y cells slots S pc L (vi x :: st) :=
  fun ad H locs ls hI hl => lv_if_eq C.1 C.2.1 hd ht (fun q => kt q ad H locs ls hI hl) (fun q => kf q ad H locs ls hI hl)
theorem g_icmp_eq (C : Cx X Y cc nL own) {x y : Int32} {off : Int} (tgt : Nat) (hd : decode cc pc = .ok (.if_icmp .eq off, 3)) (ht : (pc : Int) + off = (tgt : Int)) (kt : x = y → G X Y cells slots S tgt L st) (kf : ¬ x = y → G X Y cells slots S (pc + 3) L st) : G X Y cells slots S pc L (vi y :: vi x :: st) :=
  fun ad H locs ls hI hl => lv_icmp_eq C.1 C.2.1 hd ht (fun q => kt q ad H locs ls hI hl) (fun q => kf q ad H locs ls hI hl)
theorem g_if_ne (C : Cx X Y cc nL own) {x : Int32} {off : Int} (tgt : Nat) (hd : decode cc pc = .ok (.ifCond .ne off, 3)) (ht : (pc : Int) + off = (tgt : Int)) (kt : ¬ x = 0 → G X Y cells slots S tgt L st) (kf : x = 0 → G X Y cells slots S (pc + 3) L st) : G X Y cells slots S pc L (vi x :: st) :=
  fun ad H locs ls hI hl => lv_if_ne C.1 C.2.1 hd ht (fun q => kt q ad H locs ls hI hl) (fun q => kf q ad H locs ls hI hl)
theorem g_icmp_ne (C : Cx X Y cc nL own) {x y : Int32} {off : Int} (tgt : Nat) (hd : decode cc pc = .ok (.if_icmp .ne off, 3)) (ht : (pc : Int) + off = (tgt : Int)) (kt : ¬ x = y → G X Y cells slots S tgt L st) (kf : x = y → G X Y cells slots S (pc + 3) L st) : G X Y cells slots S pc L (vi y :: vi x :: st) :=
  fun ad H locs ls hI hl => lv_icmp_ne C.1 C.2.1 hd ht (fun q => kt q ad H locs ls hI hl) (fun q => kf q ad H locs ls hI hl)
theorem g_if_lt (C : Cx X Y cc nL own) {x : Int32} {off : Int} (tgt : Nat) (hd : decode cc pc = .ok (.ifCond .lt off, 3)) (ht : (pc : Int) + off = (tgt : Int)) (kt : x < 0 → G X Y cells slots S tgt L st) (kf : ¬ x < 0 → G X Y cells slots S (pc + 3) L st) : G X Y cells slots S pc L (vi x :: st) :=
  fun ad H locs ls hI hl => lv_if_lt C.1 C.2.1 hd ht (fun q => kt q ad H locs ls hI hl) (fun q => kf q ad H locs ls hI hl)
theorem g_icmp_lt (C : Cx X Y cc nL own) {x y : Int32} {off : Int} (tgt : Nat) (hd : decode cc pc = .ok (.if_icmp .lt off, 3)) (ht : (pc : Int) + off = (tgt : Int)) (kt : x < y → G X Y cells slots S tgt L st) (kf : ¬ x < y → G X Y cells slots S (pc + 3) L st) : G X Y cells slots S pc L (vi y :: vi x :: st) :=
  fun ad H locs ls hI hl => lv_icmp_lt C.1 C.2.1 hd ht (fun q => kt q ad H locs ls hI hl) (fun q => kf q ad H locs ls hI hl)
theorem g_if_ge (C : Cx X Y cc nL own) {x : Int32} {off : Int} (tgt : Nat) (hd : decode cc pc = .ok (.ifCond .ge off, 3)) (ht : (pc : Int) + off = (tgt : Int)) (kt : 0 ≤ x → G X Y cells slots S tgt L st) (kf : ¬ 0 ≤ x → G X Y cells slots S (pc + 3) L st) : G X Y cells slots S pc L (vi x :: st) :=
  fun ad H locs ls hI hl => lv_if_ge C.1 C.2.1 hd ht (fun q => kt q ad H locs ls hI hl) (fun q => kf q ad H locs ls hI hl)
theorem g_icmp_ge (C : Cx X Y cc nL own) {x y : Int32} {off : Int} (tgt : Nat) (hd : decode cc pc = .ok (.if_icmp .ge off, 3)) (ht : (pc : Int) + off = (tgt : Int)) (kt : y ≤ x → G X Y cells slots S tgt L st) (kf : ¬ y ≤ x → G X Y cells slots S (pc + 3) L st) : G X Y cells slots S pc L (vi y :: vi x :: st) :=
  fun ad H locs ls hI hl => lv_icmp_ge C.1 C.2.1 hd ht (fun q => kt q ad H locs ls hI hl) (fun q => kf q ad H locs ls hI hl)
theorem g_if_gt (C : Cx X Y cc nL own) {x : Int32} {off : Int} (tgt : Nat) (hd : decode cc pc = .ok (.ifCond .gt off, 3)) (ht : (pc : Int) + off = (tgt : Int)) (kt : 0 < x → G X Y cells slots S tgt L st) (kf : ¬ 0 < x → G X Y cells slots S (pc + 3) L st) : G X Y cells slots S pc L (vi x :: st) :=
  fun ad H locs ls hI hl => lv_if_gt C.1 C.2.1 hd ht (fun q => kt q ad H locs ls hI hl) (fun q => kf q ad H locs ls hI hl)
theorem g_icmp_gt (C : Cx X Y cc nL own) {x y : Int32} {off : Int} (tgt : Nat) (hd : decode cc pc = .ok (.if_icmp .gt off, 3)) (ht : (pc : Int) + off = (tgt : Int)) (kt : y < x → G X Y cells slots S tgt L st) (kf : ¬ y < x → G X Y cells slots S (pc + 3) L st) : G X Y cells slots S pc L (vi y :: vi x :: st) :=
  fun ad H locs ls hI hl => lv_icmp_gt C.1 C.2.1 hd ht (fun q => kt q ad H locs ls hI hl) (fun q => kf q ad H locs ls hI hl)
theorem g_if_le (C : Cx X Y cc nL own) {x : Int32} {off : Int} (tgt : Nat) (hd : decode cc pc = .ok (.ifCond .le off, 3)) (ht : (pc : Int) + off = (tgt : Int)) (kt : x ≤ 0 → G X Y cells slots S tgt L st) (kf : ¬ x ≤ 0 → G X Y cells slots S (pc + 3) L st) : G X Y cells slots S pc L (vi x :: st) :=
  fun ad H locs ls hI hl => lv_if_le C.1 C.2.1 hd ht (fun q => kt q ad H locs ls hI hl) (fun q => kf q ad H locs ls hI hl)
theorem g_icmp_le (C : Cx X Y cc nL own) {x y : Int32} {off : Int} (tgt : Nat) (hd : decode cc pc = .ok (.if_icmp .le off, 3)) (ht : (pc : Int) + off = (tgt : Int)) (kt : x ≤ y → G X Y cells slots S tgt L st) (kf : ¬ x ≤ y → G X Y cells slots S (pc + 3) L st) : G X Y cells slots S pc L (vi y :: vi x :: st) :=
  fun ad H locs ls hI hl => lv_icmp_le C.1 C.2.1 hd ht (fun q => kt q ad H locs ls hI hl) (fun q => kf q ad H locs ls hI hl)
theorem g_tabIn (C : Cx X Y cc nL own) {dflt lo hi : Int} {offs : Array Int} {len : Nat} {x : Int32} {off : Int} (tgt : Nat) (hd : decode cc pc = .ok (.tableswitch dflt lo hi offs, len)) (h1 : ¬ x.toInt < lo) (h2 : ¬ hi < x.toInt) (ho : offs[(x.toInt - lo).toNat]? = some off) (ht : (pc : Int) + off = (tgt : Int)) (k : G X Y cells slots S tgt L st) : G X Y cells slots S pc L (vi x :: st) :=
  fun ad H locs ls hI hl => lv_tableIn C.1 C.2.1 hd h1 h2 ho ht (k ad H locs ls hI hl)
theorem g_tabOut (C : Cx X Y cc nL own) {dflt lo hi : Int} {offs : Array Int} {len : Nat} {x : Int32} (tgt : Nat) (hd : decode cc pc = .ok (.tableswitch dflt lo hi offs, len)) (h : x.toInt < lo ∨ hi < x.toInt) (ht : (pc : Int) + dflt = (tgt : Int)) (k : G X Y cells slots S tgt L st) : G X Y cells slots S pc L (vi x :: st) :=
  fun ad H locs ls hI hl => lv_tableOut C.1 C.2.1 hd h ht (k ad H locs ls hI hl)
theorem g_widen {k n : Nat} (h1 : cells ≤ k) (h2 : slots ≤ n) (kk : G X Y k n S pc L st) : G X Y cells slots S pc L st :=
  fun ad H locs ls hI hl => W.widen h1 h2 (kk ad H locs ls hI hl)
theorem g_topi {x : Int32} (k : ∀ y : Int32, y = x → G X Y cells slots S pc L (vi y :: st)) : G X Y cells slots S pc L (vi x :: st) := k x rfl
theorem g_eqi {x : Int32} (y : Int32) (e : x = y) (k : G X Y cells slots S pc L (vi y :: st)) : G X Y cells slots S pc L (vi x :: st) := e ▸ k
theorem g_eqS {S' : Mm} (e : S = S') (k : G X Y cells slots S' pc L st) : G X Y cells slots S pc L st := e ▸ k
end GA
end
section
/-! rows that touch cells -/
theorem cellOK.congr {E : En} {ad : Ln → Nat} {S S' : Mm} {k : Ln} {H : Heap} (h : cellOK E ad S k H) (h1 : ∀ j, S'.1 k j = S.1 k j) (h2 : ∀ j, S'.2.1 k j = S.2.1 k j) : cellOK E ad S' k H := by
  have e1 : ∀ ci, fval ad S' k ci = fval ad S k ci := fun ci => funext fun j => by unfold fval; rw [h1, h2]
  have e2 : ∀ t, aval ad S' k t = aval ad S k t := fun t => funext fun j => by unfold aval; rw [h1, h2]
  unfold cellOK at *
  rw [e1, e2]
  exact h
theorem cellOK.kept {E : En} {ad : Ln → Nat} {S : Mm} {k : Ln} {H H1 : Heap} (h : cellOK E ad S k H) (hq : H1[ad k]? = H[ad k]?) : cellOK E ad S k H1 := by
  unfold cellOK at *
  split
  · rename_i h0
    rw [if_pos h0] at h
    exact h.kept hq
  · rename_i h0
    rw [if_neg h0] at h
    rw [hq]; exact h
theorem cellOK.ad {E : En} {ad ad' : Ln → Nat} {S : Mm} {k : Ln} {H : Heap} (h : cellOK E ad S k H) (hk : ad' k = ad k) (hr : ∀ j r, S.2.1 k j = some r → ad' r = ad r) : cellOK E ad' S k H := by
  have e0 : ∀ j, vo ad' (S.2.1 k j) = vo ad (S.2.1 k j) := fun j => by
    cases h : S.2.1 k j with
    | none => rfl
    | some r => show Value.ref (ad' r) = .ref (ad r); rw [hr j r h]
  have e1 : ∀ ci, fval ad' S k ci = fval ad S k ci := fun ci => funext fun j => by unfold fval; rw [e0]
  have e2 : ∀ t, aval ad' S k t = aval ad S k t := fun t => funext fun j => by unfold aval; rw [e0]
  unfold cellOK at *
  rw [e1, e2, hk]
  exact h
theorem cellOK.lt {E : En} {ad : Ln → Nat} {S : Mm} {k : Ln} {H : Heap} (h : cellOK E ad S k H) : ad k < H.size := by
  unfold cellOK at h
  split at h
  · obtain ⟨cell, h2, -⟩ := h
    exact (Array.getElem?_eq_some_iff.mp h2).1
  · exact (Array.getElem?_eq_some_iff.mp h).1
theorem Hp.upd {E : En} {base : Nat} {ad : Ln → Nat} {S S' : Mm} {k : Ln} {H H' : Heap} (h : Hp E base ad S H) (hl : S'.2.2 = S.2.2) (hk : S.2.2 k = true) (hc : cellOK E ad S' k H') (ho : ∀ q, q ≠ ad k → H'[q]? = H[q]?)
    (hs : ∀ k', k' ≠ k → (∀ j, S'.1 k' j = S.1 k' j) ∧ ∀ j, S'.2.1 k' j = S.2.1 k' j) (hcl : ∀ j r, S'.2.1 k j = some r → S.2.2 r = true) : Hp E base ad S' H' := by
  obtain ⟨h1, h2, h3⟩ := h
  refine ⟨fun k' hk' => ?_, fun i j hi hj => h2 i j (hl ▸ hi) (hl ▸ hj), fun k' j r hk' hr => ?_⟩
  · rw [hl] at hk'
    refine ⟨?_, (h1 k' hk').2⟩
    by_cases e : k' = k
    · subst e; exact hc
    · exact ((h1 k' hk').1.kept (ho _ (fun z => e (h2 k' k hk' hk z)))).congr (hs k' e).1 (hs k' e).2
  · rw [hl] at hk' ⊢
    by_cases e : k' = k
    · subst e; exact hcl j r hr
    · rw [(hs k' e).2] at hr
      exact h3 k' j r hk' hr
/-- a field: its link, its class, its place -/
def FD (own : String) (index ci j : Nat) : Prop := ∃ (C0 : String) (T : u_T) (N : Nat), vwCl[ci]? = some (C0, T, N) ∧ nfC ci = N ∧ j < N ∧ (T j).1 = C0 ∧ (Cond.fieldLink own index C0 (T j).2.1 (T j).2.2.1 ∈ gdW ∨ ∃ host, Cond.fieldLinkNest own index C0 (T j).2.1 (T j).2.2.1 host ∈ nsW) ∧ (∀ w ∈ u_ws C0 T N, w ∈ gdW) ∧ (∀ k, k < N → parseFieldDescriptor (T k).2.2.1 = some (tyC ci k)) ∧ (∀ a, a < N → ∀ b, b < N → a ≠ b → (T a).2.1 ≠ (T b).2.1)
/-- a field that may be written outside a constructor -/
def FM (ci j : Nat) : Prop := ∀ (C0 : String) (T : u_T) (N : Nat), vwCl[ci]? = some (C0, T, N) → (T j).2.2.2 = false
theorem va_Nw_kept {w : Cond} {s U : State} (hW : s.WarmedH U.vm) (hw : isNest w = true) (h : va_Nw w s) : va_Nw w U := by
  cases w <;> first | (simp [isNest] at hw; done) | exact va_Nw.warmF hW h | exact va_Nw.warmM hW h
theorem KU.warm {E : En} {base aw : Nat} {s U : State} (hW : s.WarmedH U.vm) (hh : ∀ q, q < base → U.heap[q]? = s.heap[q]?) (hz : base ≤ U.heap.size) (h : KU E base aw s) : KU E base aw U := by
  obtain ⟨h1, h2, h3, h4, h5, h6, h7, h8, h9⟩ := h
  have hal := hW.alike
  refine ⟨h1.moved hal, fun w hw => va_Nw_kept hW (List.mem_filter.mp hw).2 (h2 w hw), ?_, ?_, h5, hz, h7.moved hal, h8.moved hal, over_moved hal h9⟩
  · refine (h3.moved hal).kept (fun a _ ha => hh a ?_)
    exact Nat.not_le.mp ha
  · exact (h4.moved hal).kept (hh aw h5)
section GB
variable {X : Xt} {Y : Yt} {cc : ByteArray} {nL : Nat} {own : String} {cells slots : Nat} {S : Mm} {pc : Nat} {L : List (Nat × AV)} {st : List AV}
theorem g_getv (C : Cx X Y cc nL own) {k : Ln} {index ci j : Nat} (F : FD own index ci j) (hk : kd k = (0, ci)) (hlv : S.2.2 k = true) (hd : decode cc pc = .ok (.getfield index, 3)) {v : AV} (hv : ∀ ad, fval ad S k ci j = tr ad v) (kk : G X Y cells slots S (pc + 3) L (v :: st)) : G X Y cells slots S pc L (vr k :: st) := by
  intro ad H locs ls hI hl
  obtain ⟨hx, hb, hml, hown, hts, hKU, hlocks⟩ := C
  obtain ⟨C0, T, N, hcl, hnf, hj, hdecl, hlink, hin, hty, hnm⟩ := F
  have hc := (hI.1.1 k hlv).1
  unfold cellOK at hc
  rw [hk, if_pos rfl, hnf] at hc
  obtain ⟨cell, q1, q2, q3, q4⟩ := hc
  obtain ⟨hS, hfc, kC, hkC, hkind⟩ := hKU.1.1 ci _ hcl
  obtain ⟨cf, kf, fi, f, hi, hsl⟩ := hS j hj
  have hst := (u_facts hfc hkC (u_lays hts hin hj) hi).1
  have hval : cell.slots[f.slot]? = some (tr ad v) := by rw [hsl, q4 j hj, hv ad]
  rw [hdecl] at hi
  rcases hlink with hw | ⟨host, hw⟩
  · exact W.getf hx hb hown (hts _ hw) hi hst q1 (by rw [q3]; exact fun h => by cases h) hval rfl rfl hd (kk ad H locs ls hI hl)
  · exact va_Wgetf hx hb hown (va_Nw.use rfl (hKU.2.1 _ hw)) hi hst q1 (by rw [q3]; exact fun h => by cases h) hval rfl rfl hd (kk ad H locs ls hI hl)
theorem g_geti (C : Cx X Y cc nL own) {k : Ln} {index ci j : Nat} (F : FD own index ci j) (hk : kd k = (0, ci)) (hlv : S.2.2 k = true) (hd : decode cc pc = .ok (.getfield index, 3)) (ht : isRefT (tyC ci j) = false) (kk : G X Y cells slots S (pc + 3) L (vi (S.1 k j) :: st)) : G X Y cells slots S pc L (vr k :: st) :=
  g_getv C F hk hlv hd (fun ad => by unfold fval; rw [ht]; rfl) kk
theorem g_getr (C : Cx X Y cc nL own) {k : Ln} {index ci j : Nat} (F : FD own index ci j) (hk : kd k = (0, ci)) (hlv : S.2.2 k = true) (hd : decode cc pc = .ok (.getfield index, 3)) (ht : isRefT (tyC ci j) = true) {o : Option Ln} (ho : S.2.1 k j = o) (kk : G X Y cells slots S (pc + 3) L (.inr o :: st)) : G X Y cells slots S pc L (vr k :: st) :=
  g_getv C F hk hlv hd (fun ad => by unfold fval; rw [ht, ho]; rfl) kk
theorem put_core {E : En} {ad : Ln → Nat} {S S' : Mm} {H' : Heap} {k : Ln} {ci j N : Nat} {cell : Cell} {v : Value} (hk : kd k = (0, ci)) (hnf : nfC ci = N) (hj : j < N) (q2 : cell.cls = E.1 ci) (q3 : cell.vm = .none) (q4 : ∀ i, i < N → cell.slots[E.2.1 ci i]? = some (fval ad S k ci i)) (hap : ∀ x y, x < N → y < N → x ≠ y → E.2.1 ci x ≠ E.2.1 ci y) (e1 : H'[ad k]? = some (cell.setSlot (E.2.1 ci j) v)) (hv : ∀ i, i < N → fval ad S' k ci i = updV (fval ad S k ci) j v i) : cellOK E ad S' k H' := by
  unfold cellOK
  rw [hk, if_pos rfl, hnf]
  exact ⟨_, e1, q2, q3, fun i hi => by rw [hv i hi]; exact t_set q4 hap hj v i hi⟩
theorem g_putv (C : Cx X Y cc nL own) {k : Ln} {index ci j : Nat} (F : FD own index ci j) (hfin : FM ci j ∨ (X.2.2.2.2.2.2.2.2.1.name = "<init>" ∧ ∀ (C0 : String) (T : u_T) (N : Nat), vwCl[ci]? = some (C0, T, N) → C0 = own ∧ (T j).2.2.2 = true)) (hk : kd k = (0, ci)) (hlv : S.2.2 k = true) (hd : decode cc pc = .ok (.putfield index, 3)) {v : AV} (hn : ∀ ad, narrow (tyC ci j) (tr ad v) = tr ad v) (hf : ∀ ad, fits (tyC ci j) (tr ad v) = true) {S' : Mm} (hl' : S'.2.2 = S.2.2) (hs : ∀ k', k' ≠ k → (∀ j, S'.1 k' j = S.1 k' j) ∧ ∀ j, S'.2.1 k' j = S.2.1 k' j) (hcl' : (∀ i r, S.2.1 k i = some r → S.2.2 r = true) → ∀ i r, S'.2.1 k i = some r → S.2.2 r = true) (hv : ∀ ad i, fval ad S' k ci i = updV (fval ad S k ci) j (tr ad v) i)
    (kk : G X Y cells slots S' (pc + 3) L st) : G X Y cells slots S pc L (v :: vr k :: st) := by
  intro ad H locs ls hI hl
  obtain ⟨hx, hb, hml, hown, hts, hKU, hlocks⟩ := C
  obtain ⟨C0, T, N, hcl, hnf, hj, hdecl, hlink, hin, hty, hnm⟩ := F
  have hap := va_apart (own := own) hts hin (tyC ci) hty hnm hKU.1 hcl
  have hc := (hI.1.1 k hlv).1
  unfold cellOK at hc
  rw [hk, if_pos rfl, hnf] at hc
  obtain ⟨cell, q1, q2, q3, q4⟩ := hc
  obtain ⟨hS, hfc, kC, hkC, hkind⟩ := hKU.1.1 ci _ hcl
  obtain ⟨cf, kf, fi, f, hi, hsl⟩ := hS j hj
  have hlay := hts _ (hin _ (u_in_lay hj))
  have hst := (u_facts hfc hkC (u_lays hts hin hj) hi).1
  have hlt : f.slot < cell.slots.size := by rw [hsl]; exact k2_hasslot (q4 j hj)
  have fin : ∀ (H' : Heap), H'[ad k]? = some (cell.setSlot f.slot (tr ad v)) → H'.size = H.size → (∀ q, q ≠ ad k → H'[q]? = H[q]?) → W X.1 X.2.1 X.2.2.1 X.2.2.2.1 X.2.2.2.2.1 X.2.2.2.2.2.1 X.2.2.2.2.2.2.1 X.2.2.2.2.2.2.2.1 X.2.2.2.2.2.2.2.2.1 X.2.2.2.2.2.2.2.2.2.1 H' (locs ++ [⟨ad k, f.slot⟩]) cells slots X.2.2.2.2.2.2.2.2.2.2 (F0 X.2.2.2.2.2.1 (pc + 3) ls (st.map (tr ad))) := by
    intro H' e1 e2 e3
    rw [hsl] at e1 ⊢
    refine kk ad H' _ ls ⟨hI.1.upd hl' hlv (put_core hk hnf hj q2 q3 q4 hap e1 (fun i _ => hv ad i)) e3 hs (hcl' (fun i r hr => hI.1.2.2 k i r hlv hr)), hI.2.1, hI.2.2.1, hI.2.2.2.put e2 e3 (hI.1.1 k hlv).2⟩ hl
  have hi0 := hi
  rw [hdecl] at hi
  unfold u_lay at hlay
  rcases hfin with hfm | ⟨hname, hfm⟩
  · rw [if_neg (by rw [hfm C0 T N hcl]; decide)] at hlay
    have h6 := u_store hfc hkC hkind hlay hi0 (hty j hj) (hn ad) (hf ad)
    rcases hlink with hw | ⟨host, hw⟩
    · exact W.putK hx hb (f := f) ⟨hown, hts _ hw, ⟨_, _, _, hi⟩, hst⟩ (by rw [q2]; exact h6) q1 q3 hlt rfl rfl hd fin
    · exact va_WputK hx hb hown (va_Nw.use rfl (hKU.2.1 _ hw)) hi hst (by rw [q2]; exact h6) q1 q3 hlt rfl rfl hd fin
  · obtain ⟨hCo, hft⟩ := hfm C0 T N hcl
    rw [if_pos hft] at hlay
    have hcf : X.2.2.2.2.2.1.cls = cf := by
      obtain ⟨_, _, c', _, _, _, -, -, hf', -, -, -, hown2, -⟩ := Cond.laysFinal_spec hlay
      have e1 : c' = cf := by have := hi0.symm.trans hf'; simp at this; exact this.1.symm
      rw [hdecl, hCo] at hown2
      rw [← e1]; exact Option.some.inj (hown.symm.trans hown2)
    have h6 := u_fits hfc hkC hkind (Or.inr hlay) hi0 (hty j hj) (hn ad) (hf ad)
    rcases hlink with hw | ⟨host, hw⟩
    · exact W.putFinK hx hb hown (hts _ hw) hi hst hcf hname (by rw [q2]; exact h6) q1 q3 hlt rfl rfl hd fin
    · refine va_Wputf hx hb hown (va_Nw.use rfl (hKU.2.1 _ hw)) hi hst (Or.inr ⟨hcf, hname⟩) q1 (by rw [q3]; exact fun h => by cases h) hlt h6.1 (by rw [q3, q2]; exact h6.2) rfl rfl hd ?_
      have ha : ad k < H.size := (Array.getElem?_eq_some_iff.mp q1).1
      refine fin _ ?_ ?_ ?_
      · simp [Array.getElem?_setIfInBounds, ha]
      · simp
      · intro q hq
        simp [Array.getElem?_setIfInBounds, Ne.symm hq]
theorem fval_wI {ad : Ln → Nat} {S : Mm} {k : Ln} {ci j : Nat} {x : Int32} (ht : isRefT (tyC ci j) = false) (i : Nat) : fval ad (wI S k j x) k ci i = updV (fval ad S k ci) j (.int x) i := by
  by_cases e : i = j
  · subst e; simp [fval, wI, updV, ht]
  · simp [fval, wI, updV, e]
theorem fval_wR {ad : Ln → Nat} {S : Mm} {k : Ln} {ci j : Nat} {o : Option Ln} (ht : isRefT (tyC ci j) = true) (i : Nat) : fval ad (wR S k j o) k ci i = updV (fval ad S k ci) j (vo ad o) i := by
  by_cases e : i = j
  · subst e; simp [fval, wR, updV, ht]
  · simp [fval, wR, updV, e]
theorem wI_other {S : Mm} {k : Ln} {j : Nat} {x : Int32} : ∀ k', k' ≠ k → (∀ j', (wI S k j x).1 k' j' = S.1 k' j') ∧ ∀ j', (wI S k j x).2.1 k' j' = S.2.1 k' j' := fun k' h => ⟨fun j' => by simp [wI, h], fun _ => rfl⟩
theorem wR_other {S : Mm} {k : Ln} {j : Nat} {o : Option Ln} : ∀ k', k' ≠ k → (∀ j', (wR S k j o).1 k' j' = S.1 k' j') ∧ ∀ j', (wR S k j o).2.1 k' j' = S.2.1 k' j' := fun k' h => ⟨fun _ => rfl, fun j' => by simp [wR, h]⟩
theorem wR_closed {S : Mm} {k : Ln} {j : Nat} {o : Option Ln} (ho : ∀ q, o = some q → S.2.2 q = true) (h : ∀ i r, S.2.1 k i = some r → S.2.2 r = true) : ∀ i r, (wR S k j o).2.1 k i = some r → S.2.2 r = true := by
  intro i r hr
  by_cases e : i = j
  · subst e
    simp [wR] at hr
    exact ho r hr
  · simp [wR, e] at hr
    exact h i r hr
/-- an int or boolean field: the value fits (a boolean is 0 or 1) -/
def okZ (t : FieldType) (x : Int32) : Prop := t = .int ∨ (t = .boolean ∧ (x = 0 ∨ x = 1))
theorem okZ.nar {t : FieldType} {x : Int32} (h : okZ t x) : narrow t (.int x) = .int x ∧ fits t (.int x) = true ∧ isRefT t = false := by
  rcases h with rfl | ⟨rfl, rfl | rfl⟩ <;> exact ⟨rfl, rfl, rfl⟩
theorem g_puti (C : Cx X Y cc nL own) {k : Ln} {index ci j : Nat} {x : Int32} (F : FD own index ci j) (hfin : FM ci j ∨ (X.2.2.2.2.2.2.2.2.1.name = "<init>" ∧ ∀ (C0 : String) (T : u_T) (N : Nat), vwCl[ci]? = some (C0, T, N) → C0 = own ∧ (T j).2.2.2 = true)) (hk : kd k = (0, ci)) (hlv : S.2.2 k = true) (hd : decode cc pc = .ok (.putfield index, 3)) (hz : okZ (tyC ci j) x) (kk : G X Y cells slots (wI S k j x) (pc + 3) L st) : G X Y cells slots S pc L (vi x :: vr k :: st) :=
  g_putv (S' := wI S k j x) C F hfin hk hlv hd (fun _ => hz.nar.1) (fun _ => hz.nar.2.1) rfl wI_other (fun h => h) (fun ad i => fval_wI hz.nar.2.2 i) kk
theorem g_putr (C : Cx X Y cc nL own) {k : Ln} {index ci j : Nat} {q : Ln} (F : FD own index ci j) (hfin : FM ci j ∨ (X.2.2.2.2.2.2.2.2.1.name = "<init>" ∧ ∀ (C0 : String) (T : u_T) (N : Nat), vwCl[ci]? = some (C0, T, N) → C0 = own ∧ (T j).2.2.2 = true)) (hk : kd k = (0, ci)) (hlv : S.2.2 k = true) (hd : decode cc pc = .ok (.putfield index, 3)) (ht : isRefT (tyC ci j) = true) (hn : ∀ a : Nat, narrow (tyC ci j) (.ref a) = .ref a ∧ fits (tyC ci j) (.ref a) = true) (hq : S.2.2 q = true) (kk : G X Y cells slots (wR S k j (some q)) (pc + 3) L st) : G X Y cells slots S pc L (vr q :: vr k :: st) :=
  g_putv (S' := wR S k j (some q)) C F hfin hk hlv hd (fun ad => (hn (ad q)).1) (fun ad => (hn (ad q)).2) rfl wR_other (wR_closed (fun r e => by cases e; exact hq)) (fun ad i => fval_wR ht i) kk
/-! arrays -/
theorem arr_cell {E : En} {ad : Ln → Nat} {S : Mm} {k : Ln} {H : Heap} {t n : Nat} (h : cellOK E ad S k H) (hk : kd k = (t, n)) (ht : t ≠ 0) : H[ad k]? = some (arrV (E.2.2 t) n (aval ad S k t)) := by
  unfold cellOK at h
  rw [hk, if_neg ht] at h
  exact h
theorem arr_ok {E : En} {ad : Ln → Nat} {S : Mm} {k : Ln} {H : Heap} {t n : Nat} (hk : kd k = (t, n)) (ht : t ≠ 0) (h : H[ad k]? = some (arrV (E.2.2 t) n (aval ad S k t))) : cellOK E ad S k H := by
  unfold cellOK
  rw [hk, if_neg ht]
  exact h
theorem g_iald (C : Cx X Y cc nL own) {k : Ln} {n : Nat} {i : Int32} (hk : kd k = (1, n)) (hlv : S.2.2 k = true) (hin : vp_in i n) (hd : decode cc pc = .ok (.iaload, 1)) (kk : G X Y cells slots S (pc + 1) L (vi (S.1 k i.toNatClampNeg) :: st)) : G X Y cells slots S pc L (vi i :: vr k :: st) := by
  intro ad H locs ls hI hl
  have hlt : i.toNatClampNeg < n := Nat.not_le.mp fun q => hin (Or.inr q)
  have hc := arr_cell (hI.1.1 k hlv).1 hk (by decide)
  exact W.iald (v := .int (S.1 k i.toNatClampNeg)) C.1 C.2.1 hc ((C.2.2.2.2.2.1.1.2 0 _ rfl).1 n _) (fun q => by cases q) (by rw [arrV_size]; exact hin) (by rw [arrV_read _ _ hlt]; rfl) rfl rfl hd (kk ad H locs ls hI hl)
theorem g_bald (C : Cx X Y cc nL own) {k : Ln} {n : Nat} {i : Int32} (hk : kd k = (2, n)) (hlv : S.2.2 k = true) (hin : vp_in i n) (hd : decode cc pc = .ok (.baload, 1)) (kk : G X Y cells slots S (pc + 1) L (vi (S.1 k i.toNatClampNeg) :: st)) : G X Y cells slots S pc L (vi i :: vr k :: st) := by
  intro ad H locs ls hI hl
  have hlt : i.toNatClampNeg < n := Nat.not_le.mp fun q => hin (Or.inr q)
  have hc := arr_cell (hI.1.1 k hlv).1 hk (by decide)
  exact W.zald (v := .int (S.1 k i.toNatClampNeg)) C.1 C.2.1 hc ((C.2.2.2.2.2.1.1.2 1 _ rfl).1 n _) (fun q => by cases q) (by rw [arrV_size]; exact hin) (by rw [arrV_read _ _ hlt]; rfl) rfl rfl hd (kk ad H locs ls hI hl)
/-- the element type of an array of references -/
def refA : Nat → FieldType
  | 3 => .object RX3
  | 4 => .object RX2
  | _ => .array .int
theorem refA_ok {E : En} {base aw : Nat} {U : State} (h : KU E base aw U) {t : Nat} (ht : t = 3 ∨ t = 4 ∨ t = 5) : ArrOfT U (E.2.2 t) (refA t) ∧ va_RA U (E.2.2 t) (refA t) := by
  rcases ht with rfl | rfl | rfl
  · exact h.1.2 2 _ rfl
  · exact h.1.2 3 _ rfl
  · exact h.1.2 4 _ rfl
theorem g_aald (C : Cx X Y cc nL own) {k : Ln} {t n : Nat} {i : Int32} (hk : kd k = (t, n)) (ht : t = 3 ∨ t = 4 ∨ t = 5) (hlv : S.2.2 k = true) (hin : vp_in i n) {o : Option Ln} (ho : S.2.1 k i.toNatClampNeg = o) (hd : decode cc pc = .ok (.aaload, 1)) (kk : G X Y cells slots S (pc + 1) L (.inr o :: st)) : G X Y cells slots S pc L (vi i :: vr k :: st) := by
  intro ad H locs ls hI hl
  have hlt : i.toNatClampNeg < n := Nat.not_le.mp fun q => hin (Or.inr q)
  have h0 : t ≠ 0 := by omega
  have h2 : ¬ t ≤ 2 := by omega
  have hc := arr_cell (hI.1.1 k hlv).1 hk h0
  refine W.aald (v := vo ad o) (ty := refA t) C.1 C.2.1 hc ((refA_ok C.2.2.2.2.2.1 ht).1 n _) (by rcases ht with rfl | rfl | rfl <;> rfl) (fun q => by cases q) (by rw [arrV_size]; exact hin) (by rw [arrV_read _ _ hlt]; unfold aval; rw [if_neg h2, ho]) rfl rfl hd (kk ad H locs ls hI hl)
theorem g_alen (C : Cx X Y cc nL own) {k : Ln} {t n : Nat} (hk : kd k = (t, n)) (ht : t = 1 ∨ t = 2 ∨ t = 3 ∨ t = 4 ∨ t = 5) (hlv : S.2.2 k = true) (hd : decode cc pc = .ok (.arraylength, 1)) (kk : G X Y cells slots S (pc + 1) L (vi (nI n) :: st)) : G X Y cells slots S pc L (vr k :: st) := by
  intro ad H locs ls hI hl
  have hc := arr_cell (hI.1.1 k hlv).1 hk (by omega)
  have hK := C.2.2.2.2.2.1.1.2
  rcases ht with rfl | rfl | ht
  · exact W.alen (n := nI n) C.1 C.2.1 hc ((hK 0 _ rfl).1 n _) (by rw [arrV_size]; rfl) rfl rfl hd (kk ad H locs ls hI hl)
  · exact W.alen (n := nI n) C.1 C.2.1 hc ((hK 1 _ rfl).1 n _) (by rw [arrV_size]; rfl) rfl rfl hd (kk ad H locs ls hI hl)
  · exact W.alen (n := nI n) C.1 C.2.1 hc ((refA_ok C.2.2.2.2.2.1 ht).1 n _) (by rw [arrV_size]; rfl) rfl rfl hd (kk ad H locs ls hI hl)
theorem aval_wI {ad : Ln → Nat} {S : Mm} {k : Ln} {t j : Nat} {x : Int32} (ht : t ≤ 2) : aval ad (wI S k j x) k t = updV (aval ad S k t) j (.int x) := by
  funext i
  by_cases e : i = j
  · subst e; simp [aval, wI, updV, ht]
  · simp [aval, wI, updV, e]
theorem aval_wR {ad : Ln → Nat} {S : Mm} {k : Ln} {t j : Nat} {o : Option Ln} (ht : ¬ t ≤ 2) : aval ad (wR S k j o) k t = updV (aval ad S k t) j (vo ad o) := by
  funext i
  by_cases e : i = j
  · subst e; simp [aval, wR, updV, ht]
  · simp [aval, wR, updV, e]
theorem g_iast (C : Cx X Y cc nL own) {k : Ln} {n : Nat} {i x : Int32} (hk : kd k = (1, n)) (hlv : S.2.2 k = true) (hin : vp_in i n) (hd : decode cc pc = .ok (.iastore, 1)) (kk : G X Y cells slots (wI S k i.toNatClampNeg x) (pc + 1) L st) : G X Y cells slots S pc L (vi x :: vi i :: vr k :: st) := by
  intro ad H locs ls hI hl
  have hc := arr_cell (hI.1.1 k hlv).1 hk (by decide)
  refine W.iast C.1 C.2.1 hc ((C.2.2.2.2.2.1.1.2 0 _ rfl).1 n _) (fun q => by cases q) (by rw [arrV_size]; exact hin) rfl rfl hd fun H' e1 e2 e3 => ?_
  refine kk ad H' _ ls ⟨hI.1.upd rfl hlv (arr_ok hk (by decide) ?_) e3 wI_other (fun i r hr => hI.1.2.2 k i r hlv hr), hI.2.1, hI.2.2.1, hI.2.2.2.put e2 e3 (hI.1.1 k hlv).2⟩ hl
  rw [e1, arrV_store, aval_wI (by decide)]
theorem g_bast (C : Cx X Y cc nL own) {k : Ln} {n : Nat} {i x : Int32} (hk : kd k = (2, n)) (hlv : S.2.2 k = true) (hin : vp_in i n) (hz : x = 0 ∨ x = 1) (hd : decode cc pc = .ok (.bastore, 1)) (kk : G X Y cells slots (wI S k i.toNatClampNeg x) (pc + 1) L st) : G X Y cells slots S pc L (vi x :: vi i :: vr k :: st) := by
  intro ad H locs ls hI hl
  have hc := arr_cell (hI.1.1 k hlv).1 hk (by decide)
  refine W.zast C.1 C.2.1 hc ((C.2.2.2.2.2.1.1.2 1 _ rfl).1 n _) (fun q => by cases q) (by rw [arrV_size]; exact hin) rfl rfl hd fun H' e1 e2 e3 => ?_
  refine kk ad H' _ ls ⟨hI.1.upd rfl hlv (arr_ok hk (by decide) ?_) e3 wI_other (fun i r hr => hI.1.2.2 k i r hlv hr), hI.2.1, hI.2.2.1, hI.2.2.2.put e2 e3 (hI.1.1 k hlv).2⟩ hl
  rw [e1, arrV_store, aval_wI (by decide)]
  rcases hz with rfl | rfl <;> rfl
/-- a Machine into Machine[], a Lane into Lane[] -/
theorem g_aast (C : Cx X Y cc nL own) {k q : Ln} {t n ci : Nat} {i : Int32} (hk : kd k = (t, n)) (hq : kd q = (0, ci)) (ht : (t = 3 ∧ ci = 3) ∨ (t = 4 ∧ ci = 2)) (hlv : S.2.2 k = true) (hqv : S.2.2 q = true) (hin : vp_in i n) (hd : decode cc pc = .ok (.aastore, 1)) (kk : G X Y cells slots (wR S k i.toNatClampNeg (some q)) (pc + 1) L st) : G X Y cells slots S pc L (vr q :: vi i :: vr k :: st) := by
  intro ad H locs ls hI hl
  have hlt : i.toNatClampNeg < n := Nat.not_le.mp fun q => hin (Or.inr q)
  have h0 : ¬ i < 0 := fun q => hin (Or.inl q)
  have t0 : t ≠ 0 := by omega
  have t2 : ¬ t ≤ 2 := by omega
  have hc := arr_cell (hI.1.1 k hlv).1 hk t0
  have hcq := (hI.1.1 q hqv).1
  unfold cellOK at hcq
  rw [hq, if_pos rfl] at hcq
  obtain ⟨cellV, g1, g2, g3, -⟩ := hcq
  have hKU := C.2.2.2.2.2.1
  have hcls : ∃ (C0 : String), refA t = .object C0 ∧ ClassAt X.2.2.2.2.1 C0 (Y.1.1 ci) := by
    rcases ht with ⟨rfl, rfl⟩ | ⟨rfl, rfl⟩
    · exact ⟨RX3, rfl, (hKU.1.1 3 _ rfl).2⟩
    · exact ⟨RX2, rfl, (hKU.1.1 2 _ rfl).2⟩
  obtain ⟨C0, hC0, hcls⟩ := hcls
  have hRA := (refA_ok hKU (t := t) (by omega)).2
  rw [hC0] at hRA
  obtain ⟨kA, comp, k1, k2, k3, -⟩ := hRA
  have hcomp : comp = Y.1.1 ci := Option.some.inj (k3.symm.trans hcls.1)
  subst hcomp
  have hcls' := hcls
  obtain ⟨-, kC, hkC, -⟩ := hcls
  refine W.aast C.1 C.2.1 hc (fun q h => by cases h) (fun h => by cases h) k1 k2 rfl hkC ⟨h0, by rw [arrV_size]; exact hlt⟩ g1 (fun q h => by rw [g3] at h; cases h) (by rw [g2]; exact hkC) (by rw [g2]; exact va_assign hcls') rfl rfl hd fun H' e1 e2 e3 => ?_
  refine kk ad H' _ ls ⟨hI.1.upd rfl hlv (arr_ok hk t0 ?_) e3 wR_other (wR_closed (fun r e => by cases e; exact hqv) (fun i r hr => hI.1.2.2 k i r hlv hr)), hI.2.1, hI.2.2.1, hI.2.2.2.put e2 e3 (hI.1.1 k hlv).2⟩ hl
  rw [e1, arrV_store, aval_wR t2]
  rfl
/-! the constant array -/
theorem g_wst (C : Cx X Y cc nL own) {index : Nat} (hw : Cond.fieldLink own index RX6 "WORTHS" "[I" ∈ gdW ∨ ∃ host, Cond.fieldLinkNest own index RX6 "WORTHS" "[I" host ∈ nsW) (hd : decode cc pc = .ok (.getstatic index, 3)) (kk : G X Y cells slots S (pc + 3) L (vr wK :: st)) : G X Y cells slots S pc L st := by
  intro ad H locs ls hI hl
  have hKU := C.2.2.2.2.2.1
  have e : tr ad (vr wK) = .ref Y.2.2.1 := by show Value.ref (ad wK) = _; rw [hI.2.2.1]
  have k1 := kk ad H locs ls hI hl
  rw [List.map_cons, e] at k1
  rcases hw with hw | ⟨host, hw⟩
  · exact va_gets C.1 C.2.1 hKU.2.2.1 hI.2.2.2 C.2.2.2.1 (C.2.2.2.2.1 _ hw) (fun _ h => h) hd k1
  · exact va_getsN C.1 C.2.1 hKU.2.2.1 hI.2.2.2 C.2.2.2.1 (va_Nw.use rfl (hKU.2.1 _ hw)) (fun _ h => h) hd k1
theorem g_wld (C : Cx X Y cc nL own) {i : Int32} (hin : vp_in i 6) (hd : decode cc pc = .ok (.iaload, 1)) (kk : G X Y cells slots S (pc + 1) L (vi (wths i.toNatClampNeg) :: st)) : G X Y cells slots S pc L (vi i :: vr wK :: st) := by
  intro ad H locs ls hI hl
  have hKU := C.2.2.2.2.2.1
  have e : tr ad (vr wK) = .ref Y.2.2.1 := by show Value.ref (ad wK) = _; rw [hI.2.2.1]
  rw [List.map_cons, List.map_cons, e]
  exact va_sld C.1 C.2.1 hKU.2.2.2.1 (Nat.lt_of_lt_of_le hKU.2.2.2.2.1 hKU.2.2.2.2.2.1) (Nat.not_le.mpr hKU.2.2.2.2.1) hI.2.2.2 hin hd (kk ad H locs ls hI hl)
theorem g_wln (C : Cx X Y cc nL own) (hd : decode cc pc = .ok (.arraylength, 1)) (kk : G X Y cells slots S (pc + 1) L (vi 6 :: st)) : G X Y cells slots S pc L (vr wK :: st) := by
  intro ad H locs ls hI hl
  have hKU := C.2.2.2.2.2.1
  have e : tr ad (vr wK) = .ref Y.2.2.1 := by show Value.ref (ad wK) = _; rw [hI.2.2.1]
  rw [List.map_cons, e]
  exact va_slen C.1 C.2.1 hKU.2.2.2.1 (Nat.lt_of_lt_of_le hKU.2.2.2.2.1 hKU.2.2.2.2.2.1) (Nat.not_le.mpr hKU.2.2.2.2.1) hI.2.2.2 hd (kk ad H locs ls hI hl)
end GB
end
section
/-! contracts, returns, calls, new cells -/
theorem gd_all : gdW.all goodWord = true := List.all_eq_true.mpr (fun w h => (List.mem_filter.mp h).2)
theorem gd_good (y : MethodName) (b : ByteArray) (n : Nat) (r : Option FieldType) (h : Cond.code y b n r ∈ gdW) : GoodIn gdW (Cond.code y b n r :: gdW) := by
  intro w hw
  have hm : w ∈ gdW := by
    rcases List.mem_cons.mp hw with rfl | h1
    · exact h
    · exact h1
  exact ⟨hm, good_of_word (List.all_eq_true.mp gd_all w hm)⟩
def rmL (d mc ms : Nat) : Room := { frames := d, cells := mc, slots := ms, locals := 40 * d }
def Pcc (E : En) (base aw : Nat) (ad : Ln → Nat) (S : Mm) (as : List AV) : Array Value → State → Prop := fun v U => v = (as.map (tr ad)).toArray ∧ KU E base aw U ∧ Hp E base ad S U.heap ∧ ad wK = aw
def Qcc (E : En) (base aw : Nat) (ad : Ln → Nat) (fr : Ln → Bool) (P : Option AV → Mm → Prop) : Array Value → State → Outcome → State → Prop := fun _ st o t =>
  ∃ (r : Option AV) (S' : Mm) (ad' : Ln → Nat), o = .returned (r.map (tr ad')) ∧ P r S' ∧ Hp E base ad' S' t.heap ∧ (∀ k, fr k = false → ad' k = ad k) ∧ ad' wK = aw ∧ va_F (fun q => base ≤ q) st t
/-- a method's CONTRACT: from the memory S with the arguments as it returns, with P of its answer and the memory then -/
def Cn (l : Launch) (E : En) (base aw : Nat) (y : MethodName) (b : ByteArray) (nL : Nat) (ret : Option FieldType) (d mc ms : Nat) (fr : Ln → Bool) (S : Mm) (as : List AV) (P : Option AV → Mm → Prop) : Prop :=
  ∀ ad, Met l y (Cond.code y b nL ret :: gdW) (rmL d mc ms) (Pcc E base aw ad S as) (Qcc E base aw ad fr P) mc ms (fun q => base ≤ q)
def noF : Ln → Bool := fun _ => false
def pushR (r : Option AV) (st : List AV) : List AV := match r with
  | none => st
  | some v => v :: st
/-- what is known in a body beside Cx -/
def Bx (X : Xt) (Y : Yt) (nm : String) (ret : Option FieldType) (d mc ms : Nat) (P : Option AV → Mm → Prop) : Prop :=
  X.2.2.2.1 = rmL d mc ms ∧ X.2.2.2.2.2.2.2.2.1.sig.returnType = ret ∧ X.2.2.2.2.2.2.2.2.1.name = nm ∧ X.2.2.2.2.2.2.2.2.2.2 = MQ X.2.2.2.2.2.2.2.1 (Qcc Y.1 Y.2.1 Y.2.2.1 Y.2.2.2.1 Y.2.2.2.2 P) X.2.2.2.2.2.2.1 X.2.2.2.2.1 mc ms (fun q => Y.2.1 ≤ q)
def argL : Nat → List AV → List (Nat × AV)
  | _, [] => []
  | i, v :: vs => (i, v) :: argL (i + 1) vs
theorem argL_eq (ad : Ln → Nat) : ∀ (as : List AV) (i : Nat), lv_args i (as.map (tr ad)) = trL ad (argL i as)
  | [], _ => rfl
  | v :: vs, i => by
    show (i, tr ad v) :: lv_args (if (tr ad v).category = 2 then i + 2 else i + 1) (vs.map (tr ad)) = (i, tr ad v) :: trL ad (argL (i + 1) vs)
    rw [tr_cat, if_neg (by decide), argL_eq ad vs]
theorem sl_len (ad : Ln → Nat) : ∀ as : List AV, (lg_sl (as.map (tr ad))).length = as.length
  | [] => rfl
  | v :: vs => by
    have h := sl_len ad vs
    rcases v with x | o
    · show (Slot.val (.int x) :: lg_sl (vs.map (tr ad))).length = _
      simp [h]
    · cases o
      · show (Slot.val .null :: lg_sl (vs.map (tr ad))).length = _
        simp [h]
      · rename_i q
        show (Slot.val (.ref (ad q)) :: lg_sl (vs.map (tr ad))).length = _
        simp [h]
theorem Cn.of {y : MethodName} {b : ByteArray} {nL d mc ms : Nat} {ret : Option FieldType} {fr : Ln → Bool} {S : Mm} {as : List AV} {P : Option AV → Mm → Prop} {l : Launch} {E : En} {base aw : Nat} (hy : plainName y.cls = true) (hlen : as.length ≤ nL)
    (body : ∀ (X : Xt) (Y : Yt), X.2.1 = l → Y.1 = E → Y.2.1 = base → Y.2.2.1 = aw → Y.2.2.2.2 = fr → Cx X Y b nL y.cls → Bx X Y y.name ret d mc ms P → G X Y 0 0 S 0 (argL 0 as) []) : Cn l E base aw y b nL ret d mc ms fr S as P := by
  intro ad
  refine Met.ofW (cc := b) (maxL := nL) (ret := ret) hy rfl ?_
  intro p e s m args below meth c s₁ B hml hv
  obtain ⟨rfl, hKU, hHp, hw⟩ := hv
  have hts := atoms_spec (ws := Cond.code y b nL ret :: gdW) B.pre
  have hown : s.vm.findClass y.cls = some m.cls := findClass_of_methodNamed B.named
  have hG := body (p, l, e, rmL d mc ms, s, m, (as.map (tr ad)).toArray, below, meth, c, MQ below (Qcc E base aw ad fr P) (as.map (tr ad)).toArray s mc ms (fun q => base ≤ q)) (E, base, aw, ad, fr) rfl rfl rfl rfl rfl
    ⟨B.exec, B.bytes, hml, hown, fun w hw => hts w (List.mem_cons_of_mem _ hw), hKU, B.notSynchronized⟩ ⟨rfl, B.returns, (name_of_methodNamed B.named B.method).1, rfl⟩
  have hl := lv_entry (as.map (tr ad)) (n := nL) (by rw [sl_len]; exact hlen)
  rw [argL_eq] at hl
  rw [lg_entry_eq]
  refine hG ad s.heap [] _ ⟨hHp, fun _ _ => rfl, hw, va_S.rf⟩ ?_
  rw [hml]
  exact hl
section GC
variable {X : Xt} {Y : Yt} {cc : ByteArray} {nL : Nat} {own : String} {cells slots : Nat} {S : Mm} {pc : Nat} {L : List (Nat × AV)} {st : List AV} {nm : String} {d mc ms : Nat} {P : Option AV → Mm → Prop}
theorem ret_q {ad : Ln → Nat} {H : Heap} {locs : List Loc} {r : Option AV} (hI : Inv Y X.2.2.2.2.1 ad S H locs) (hp : P r S) : ∀ t : State, t.heap = H → X.2.2.2.2.1.WarmedH t.vm → Qcc Y.1 Y.2.1 Y.2.2.1 Y.2.2.2.1 Y.2.2.2.2 P X.2.2.2.2.2.2.1 X.2.2.2.2.1 (.returned (r.map (tr ad))) t :=
  fun t ht _ => ⟨r, S, ad, rfl, hp, by rw [ht]; exact hI.1, hI.2.1, hI.2.2.1, hI.2.2.2.F ht⟩
theorem g_iret {ty : FieldType} {v : Int32} (C : Cx X Y cc nL own) (B : Bx X Y nm (some ty) d cells slots P) (hn : narrow ty (.int v) = .int v) (hd : decode cc pc = .ok (.ireturn, 1)) (hp : P (some (vi v)) S) : G X Y cells slots S pc L [vi v] := by
  intro ad H locs ls hI hl
  rw [B.2.2.2]
  exact W.zret C.1 C.2.1 B.2.1 hn (ret_q (r := some (vi v)) hI hp) hI.2.2.2.2.2 hd C.2.2.2.2.2.2
theorem g_aret {ty : FieldType} {o : Option Ln} (C : Cx X Y cc nL own) (B : Bx X Y nm (some ty) d cells slots P) (hn : (∃ n, ty = .object n) ∨ ∃ t, ty = .array t) (hd : decode cc pc = .ok (.areturn, 1)) (hp : P (some (.inr o)) S) : G X Y cells slots S pc L [.inr o] := by
  intro ad H locs ls hI hl
  rw [B.2.2.2]
  exact W.aret (v := vo ad o) C.1 C.2.1 B.2.1 hn (by cases o with | none => exact Or.inl rfl | some q => exact Or.inr ⟨_, rfl⟩) (ret_q (r := some (.inr o)) hI hp) hI.2.2.2.2.2 hd C.2.2.2.2.2.2
theorem g_vret (C : Cx X Y cc nL own) (B : Bx X Y nm none d cells slots P) (hd : decode cc pc = .ok (.return_, 1)) (hp : P none S) : G X Y cells slots S pc L [] := by
  intro ad H locs ls hI hl
  rw [B.2.2.2]
  exact W.vret C.1 C.2.1 B.2.1 (ret_q (r := none) hI hp) hI.2.2.2.2.2 hd C.2.2.2.2.2.2
/-- no reference into fr -/
def okR (fr : Ln → Bool) : AV → Bool
  | .inr (some k) => !fr k
  | _ => true
theorem tr_same {ad ad' : Ln → Nat} {fr : Ln → Bool} (h : ∀ k, fr k = false → ad' k = ad k) {v : AV} (hv : okR fr v = true) : tr ad' v = tr ad v := by
  rcases v with x | o
  · rfl
  · cases o with
    | none => rfl
    | some k =>
      show Value.ref (ad' k) = .ref (ad k)
      rw [h k (by simpa [okR] using hv)]
theorem trs_same {ad ad' : Ln → Nat} {fr : Ln → Bool} (h : ∀ k, fr k = false → ad' k = ad k) {st : List AV} (hv : st.all (okR fr) = true) : st.map (tr ad') = st.map (tr ad) :=
  List.map_congr_left (fun v hm => tr_same h (List.all_eq_true.mp hv v hm))
theorem trL_same {ad ad' : Ln → Nat} {fr : Ln → Bool} (h : ∀ k, fr k = false → ad' k = ad k) {L : List (Nat × AV)} (hv : L.all (fun q => okR fr q.2) = true) : trL ad' L = trL ad L :=
  List.map_congr_left (fun v hm => by rw [tr_same h (List.all_eq_true.mp hv v hm)])
theorem no_all (st : List AV) : st.all (okR noF) = true := List.all_eq_true.mpr (fun v _ => by
  rcases v with x | o
  · rfl
  · cases o <;> rfl)
theorem no_allL (L : List (Nat × AV)) : L.all (fun q => okR noF q.2) = true := List.all_eq_true.mpr (fun q _ => by
  rcases q with ⟨i, v⟩
  rcases v with x | o
  · rfl
  · cases o <;> rfl)
theorem g_run {fr' : Ln → Bool} {P' : Option AV → Mm → Prop} {ad : Ln → Nat} {H : Heap} {locs : List Loc} {ls : Array Slot} {a : Array Value} {st0 : List Value} {mc' ms' : Nat}
    (hr : va_Run X.1 X.2.1 X.2.2.1 X.2.2.2.1 X.2.2.2.2.1 X.2.2.2.2.2.1 X.2.2.2.2.2.2.1 X.2.2.2.2.2.2.2.1 X.2.2.2.2.2.2.2.2.1 X.2.2.2.2.2.2.2.2.2.1 H locs cells slots mc' ms' (F0 X.2.2.2.2.2.1 pc ls st0) (st.map (tr ad)) (Qcc Y.1 Y.2.1 Y.2.2.1 ad fr' P' a) (fun q => Y.2.1 ≤ q))
    (hI : Inv Y X.2.2.2.2.1 ad S H locs) (hl : lv_has ls X.2.2.2.2.2.2.2.2.2.1.maxLocals (trL ad L)) (hb0 : Y.2.1 ≤ X.2.2.2.2.1.heap.size) (hfr : ∀ q, fr' q = true → Y.2.2.2.2 q = true) (hL : L.all (fun q => okR fr' q.2) = true) (hst : st.all (okR fr') = true)
    (kk : ∀ r S', P' r S' → G X Y (cells + mc') (slots + ms') S' (pc + 3) L (pushR r st)) :
    W X.1 X.2.1 X.2.2.1 X.2.2.2.1 X.2.2.2.2.1 X.2.2.2.2.2.1 X.2.2.2.2.2.2.1 X.2.2.2.2.2.2.2.1 X.2.2.2.2.2.2.2.2.1 X.2.2.2.2.2.2.2.2.2.1 H locs cells slots X.2.2.2.2.2.2.2.2.2.2 (F0 X.2.2.2.2.2.1 pc ls st0) := by
  intro T hT XX
  obtain ⟨v, st₀, t, T', L2, h0, X', hLf, e1, e2, ⟨r, S', ad', hv, hP, hHp, had, hw, hz, hk⟩, stp⟩ := hr T hT XX
  cases hv
  rw [h0] at hz hk
  have hS := hI.2.2.2
  have hI' : Inv Y X.2.2.2.2.1 ad' S' T'.heap (locs ++ L2) := by
    refine ⟨by rw [e1]; exact hHp, fun q hq => ?_, hw, Nat.le_trans hS.1 (by rw [e1]; exact hz), fun q g1 g2 => ?_, fun q hq => ?_⟩
    · rw [had q (by cases h : fr' q with | false => rfl | true => rw [hfr q h] at hq; cases hq)]
      exact hI.2.1 q hq
    · rw [e1, hk q (Nat.lt_of_lt_of_le g1 hS.1) g2]
      exact hS.2.1 q g1 g2
    · rcases List.mem_append.mp hq with h | h
      · exact hS.2.2 q h
      · exact hLf q h
  have hl' : lv_has ls X.2.2.2.2.2.2.2.2.2.1.maxLocals (trL ad' L) := by rw [trL_same had hL]; exact hl
  obtain ⟨t2, a1, b1⟩ := kk r S' hP ad' T'.heap (locs ++ L2) ls hI' hl' T' rfl X'
  refine ⟨t2, stp t2 ?_, b1⟩
  have ef : (pushR r st).map (tr ad') = (r.map (tr ad')).toList ++ st.map (tr ad) := by
    rw [← trs_same had hst]
    cases r <;> rfl
  rw [ef] at a1
  exact a1
theorem pcc_blind {E : En} {base aw : Nat} {ad : Ln → Nat} {S : Mm} {as : List AV} : FrameBlind (Pcc E base aw ad S as) := fun a U g mk q => ⟨q.1, KU.warm (s := U) (U := U.calling g mk a) (State.WarmedH.refl U) (fun _ _ => rfl) q.2.1.2.2.2.2.2.1 q.2.1, q.2.2⟩
theorem pcc_of {ad : Ln → Nat} {H : Heap} {locs : List Loc} {as : List AV} (C : Cx X Y cc nL own) (hI : Inv Y X.2.2.2.2.1 ad S H locs) : ∀ U : State, U.heap = H → X.2.2.2.2.1.WarmedH U.vm → Pcc Y.1 Y.2.1 Y.2.2.1 ad S as (as.map (tr ad)).toArray U := by
  intro U hU hW
  have hKU := C.2.2.2.2.2.1
  have hb0 := hKU.2.2.2.2.2.1
  refine ⟨rfl, KU.warm hW (fun q hq => ?_) (by rw [hU]; exact Nat.le_trans hb0 hI.2.2.2.1) hKU, by rw [hU]; exact hI.1, hI.2.2.1⟩
  rw [hU]
  exact hI.2.2.2.2.1 q (Nat.lt_of_lt_of_le hq hb0) (Nat.not_le.mpr hq)
def plainY (y : MethodName) (n : Nat) : Prop := y.cls ≠ "java/lang/invoke/MethodHandle" ∧ y.cls ≠ "java/lang/invoke/VarHandle" ∧ (parseMethodDescriptor y.desc).map (fun d => d.parameters.length) = some n
def lnk (own : String) (index : Nat) (y : MethodName) : Prop := Cond.methodLink own index y ∈ gdW ∨ ∃ host, Cond.methodLinkNest own index y host ∈ nsW
def MV (own : String) (index : Nat) (y : MethodName) (b : ByteArray) (nL' : Nat) (ret : Option FieldType) (n : Nat) : Prop := lnk own index y ∧ Cond.instanceMethod y ∈ gdW ∧ Cond.selects y.cls y y ∈ gdW ∧ Cond.initialized y.cls ∈ gdW ∧ Cond.code y b nL' ret ∈ gdW ∧ plainY y n
def MS (own : String) (index : Nat) (y : MethodName) (b : ByteArray) (nL' : Nat) (ret : Option FieldType) (n : Nat) : Prop := lnk own index y ∧ Cond.static y ∈ gdW ∧ Cond.initialized y.cls ∈ gdW ∧ Cond.code y b nL' ret ∈ gdW ∧ plainY y n
def MI (own : String) (index : Nat) (y : MethodName) (b : ByteArray) (nL' n : Nat) : Prop := lnk own index y ∧ y.name = "<init>" ∧ Cond.instanceMethod y ∈ gdW ∧ Cond.initialized y.cls ∈ gdW ∧ Cond.code y b nL' none ∈ gdW ∧ plainY y n
theorem cat_len (ad : Ln → Nat) (st : List AV) : ((st.map (tr ad)).map fun v => v.category).sum = st.length := by
  induction st with
  | nil => rfl
  | cons v t ih => rw [List.map_cons, List.map_cons, List.sum_cons, ih, tr_cat]; simp; omega
theorem plain_len {y : MethodName} {n : Nat} (h : plainY y n) : ∀ sig, parseMethodDescriptor y.desc = some sig → n = sig.parameters.length := by
  intro sig hs
  have h2 := h.2.2
  rw [hs] at h2
  exact (Option.some.inj h2).symm
theorem g_callVf {fr' : Ln → Bool} {P' : Option AV → Mm → Prop} {k : Ln} {as : List AV} {y : MethodName} {b : ByteArray} {nL' d' mc' ms' n index ci : Nat} {ret : Option FieldType} {stk : List AV} (C : Cx X Y cc nL own) (M : MV own index y b nL' ret n) (hM : Cn X.2.1 Y.1 Y.2.1 Y.2.2.1 y b nL' ret d' mc' ms' fr' S (vr k :: as) P') (hstk : stk = as.reverse ++ vr k :: st) (hlen : as.length = n) (hk : kd k = (0, ci)) (hcl : (vwCl[ci]?).map (fun q => q.1) = some y.cls) (hlv : S.2.2 k = true)
    (hR : d' + 1 ≤ X.2.2.2.1.frames ∧ 8 + (nL' + 11) + 40 * d' ≤ X.2.2.2.1.locals) (hfit : cells + mc' ≤ X.2.2.2.1.cells ∧ slots + ms' ≤ X.2.2.2.1.slots) (hs8 : st.length ≤ 8) (hd : decode cc pc = .ok (.invokevirtual index, 3)) (hfr : ∀ q, fr' q = true → Y.2.2.2.2 q = true) (hL : L.all (fun q => okR fr' q.2) = true) (hst : st.all (okR fr') = true)
    (kk : ∀ r S', P' r S' → G X Y (cells + mc') (slots + ms') S' (pc + 3) L (pushR r st)) : G X Y cells slots S pc L stk := by
  intro ad H locs ls hI hl
  subst hstk
  obtain ⟨M1, M2, M3, M4, M5, M6⟩ := M
  have hts := C.2.2.2.2.1
  have hKU := C.2.2.2.2.2.1
  have hc := (hI.1.1 k hlv).1
  unfold cellOK at hc
  rw [hk, if_pos rfl] at hc
  obtain ⟨cellB, g1, g2, g3, -⟩ := hc
  obtain ⟨q0, hq0, hq1⟩ := Option.map_eq_some_iff.mp hcl
  have hfc : X.2.2.2.2.1.vm.findClass y.cls = some cellB.cls := by rw [g2, ← hq1]; exact (hKU.1.1 ci q0 hq0).2.1
  have hp : PreV X.2.2.2.2.1 H y.cls (ad k) (Pcc Y.1 Y.2.1 Y.2.2.1 ad S (vr k :: as)) (as.map (tr ad)) := ⟨pcc_blind, ⟨cellB, g1, by rw [g3]; rfl, hfc⟩, pcc_of C hI⟩
  have hpay := pay_in hts (gd_good y b nL' ret M5)
  have hstack : (F0 X.2.2.2.2.2.1 pc ls ((as.reverse ++ vr k :: st).map (tr ad))).stack = (as.map (tr ad)).reverse ++ .ref (ad k) :: st.map (tr ad) := by
    show (as.reverse ++ vr k :: st).map (tr ad) = _
    rw [List.map_append, List.map_reverse]; rfl
  have hW : 2 * (F0 X.2.2.2.2.2.1 pc ls ((as.reverse ++ vr k :: st).map (tr ad))).monitorRoom + ((st.map (tr ad)).map fun v => v.category).sum ≤ 8 := by
    show 2 * 0 + _ ≤ 8
    rw [cat_len]; omega
  have hcl' : Cond.code y b nL' ret ∈ Cond.code y b nL' ret :: gdW := List.mem_cons_self
  refine g_run (a := ((vr k :: as).map (tr ad)).toArray) ?_ hI hl hKU.2.2.2.2.2.1 hfr hL hst kk
  rcases M1 with hl1 | ⟨host, hl1⟩
  · exact va_runV (As := as.map (tr ad)) (rest := st.map (tr ad)) (n := n) (C := y.cls) ⟨C.1, C.2.1, C.2.2.1, C.2.2.2.1, hts⟩ (hM ad) ⟨⟨rfl, rfl, hR.1, hR.2, hpay, hcl', hts _ M5, hts _ M4, ⟨M6.1, M6.2.1⟩, plain_len M6, hts _ hl1⟩, hts _ M2, hts _ M3⟩ hp rfl (by rw [List.length_map]; exact hlen) (by rw [← C.2.2.1]; exact hl.1) hstack hW hd hfit
  · exact va_runVN (As := as.map (tr ad)) (rest := st.map (tr ad)) (n := n) (C := y.cls) (host := host) ⟨C.1, C.2.1, C.2.2.1, C.2.2.2.1, hts⟩ (hM ad) ⟨⟨⟨rfl, rfl, hR.1, hR.2, hpay, hcl'⟩, hts _ M5, hts _ M4, ⟨M6.1, M6.2.1⟩, plain_len M6, va_Nw.use rfl (hKU.2.1 _ hl1)⟩, hts _ M2, hts _ M3⟩ hp rfl (by rw [List.length_map]; exact hlen) (by rw [← C.2.2.1]; exact hl.1) hstack hW hd hfit
theorem g_callSf {fr' : Ln → Bool} {P' : Option AV → Mm → Prop} {as : List AV} {y : MethodName} {b : ByteArray} {nL' d' mc' ms' n index : Nat} {ret : Option FieldType} {stk : List AV} (C : Cx X Y cc nL own) (M : MS own index y b nL' ret n) (hM : Cn X.2.1 Y.1 Y.2.1 Y.2.2.1 y b nL' ret d' mc' ms' fr' S as P') (hstk : stk = as.reverse ++ st) (hlen : as.length = n)
    (hR : d' + 1 ≤ X.2.2.2.1.frames ∧ 8 + (nL' + 11) + 40 * d' ≤ X.2.2.2.1.locals) (hfit : cells + mc' ≤ X.2.2.2.1.cells ∧ slots + ms' ≤ X.2.2.2.1.slots) (hs8 : st.length ≤ 8) (hd : decode cc pc = .ok (.invokestatic index, 3)) (hfr : ∀ q, fr' q = true → Y.2.2.2.2 q = true) (hL : L.all (fun q => okR fr' q.2) = true) (hst : st.all (okR fr') = true)
    (kk : ∀ r S', P' r S' → G X Y (cells + mc') (slots + ms') S' (pc + 3) L (pushR r st)) : G X Y cells slots S pc L stk := by
  intro ad H locs ls hI hl
  subst hstk
  obtain ⟨M1, M2, M4, M5, M6⟩ := M
  have hts := C.2.2.2.2.1
  have hKU := C.2.2.2.2.2.1
  have hp : PreS X.2.2.2.2.1 H (Pcc Y.1 Y.2.1 Y.2.2.1 ad S as) (as.map (tr ad)) := ⟨pcc_blind, pcc_of C hI⟩
  have hpay := pay_in hts (gd_good y b nL' ret M5)
  have hstack : (F0 X.2.2.2.2.2.1 pc ls ((as.reverse ++ st).map (tr ad))).stack = (as.map (tr ad)).reverse ++ st.map (tr ad) := by
    show (as.reverse ++ st).map (tr ad) = _
    rw [List.map_append, List.map_reverse]
  have hW : 2 * (F0 X.2.2.2.2.2.1 pc ls ((as.reverse ++ st).map (tr ad))).monitorRoom + ((st.map (tr ad)).map fun v => v.category).sum ≤ 8 := by
    show 2 * 0 + _ ≤ 8
    rw [cat_len]; omega
  have hcl' : Cond.code y b nL' ret ∈ Cond.code y b nL' ret :: gdW := List.mem_cons_self
  refine g_run (a := (as.map (tr ad)).toArray) ?_ hI hl hKU.2.2.2.2.2.1 hfr hL hst kk
  rcases M1 with hl1 | ⟨host, hl1⟩
  · exact va_runS (As := as.map (tr ad)) (rest := st.map (tr ad)) (n := n) ⟨C.1, C.2.1, C.2.2.1, C.2.2.2.1, hts⟩ (hM ad) ⟨⟨rfl, rfl, hR.1, hR.2, hpay, hcl', hts _ M5, hts _ M4, ⟨M6.1, M6.2.1⟩, plain_len M6, hts _ hl1⟩, hts _ M2⟩ hp rfl (by rw [List.length_map]; exact hlen) (by rw [← C.2.2.1]; exact hl.1) hstack hW hd hfit
  · exact va_runSN (As := as.map (tr ad)) (rest := st.map (tr ad)) (n := n) (host := host) ⟨C.1, C.2.1, C.2.2.1, C.2.2.2.1, hts⟩ (hM ad) ⟨⟨⟨rfl, rfl, hR.1, hR.2, hpay, hcl'⟩, hts _ M5, hts _ M4, ⟨M6.1, M6.2.1⟩, plain_len M6, va_Nw.use rfl (hKU.2.1 _ hl1)⟩, hts _ M2, trivial⟩ hp rfl (by rw [List.length_map]; exact hlen) (by rw [← C.2.2.1]; exact hl.1) hstack hW hd hfit
theorem g_callIf {fr' : Ln → Bool} {P' : Option AV → Mm → Prop} {k : Ln} {as : List AV} {y : MethodName} {b : ByteArray} {nL' d' mc' ms' n index : Nat} {stk : List AV} (C : Cx X Y cc nL own) (M : MI own index y b nL' n) (hM : Cn X.2.1 Y.1 Y.2.1 Y.2.2.1 y b nL' none d' mc' ms' fr' S (vr k :: as) P') (hstk : stk = as.reverse ++ vr k :: st) (hlen : as.length = n)
    (hR : d' + 1 ≤ X.2.2.2.1.frames ∧ 8 + (nL' + 11) + 40 * d' ≤ X.2.2.2.1.locals) (hfit : cells + mc' ≤ X.2.2.2.1.cells ∧ slots + ms' ≤ X.2.2.2.1.slots) (hs8 : st.length ≤ 8) (hd : decode cc pc = .ok (.invokespecial index, 3)) (hfr : ∀ q, fr' q = true → Y.2.2.2.2 q = true) (hL : L.all (fun q => okR fr' q.2) = true) (hst : st.all (okR fr') = true)
    (kk : ∀ r S', P' r S' → G X Y (cells + mc') (slots + ms') S' (pc + 3) L (pushR r st)) : G X Y cells slots S pc L stk := by
  intro ad H locs ls hI hl
  subst hstk
  obtain ⟨M1, M2, M3, M4, M5, M6⟩ := M
  have hts := C.2.2.2.2.1
  have hKU := C.2.2.2.2.2.1
  have hp : PreS X.2.2.2.2.1 H (Pcc Y.1 Y.2.1 Y.2.2.1 ad S (vr k :: as)) (.ref (ad k) :: as.map (tr ad)) := ⟨pcc_blind, pcc_of C hI⟩
  have hpay := pay_in hts (gd_good y b nL' none M5)
  have hstack : (F0 X.2.2.2.2.2.1 pc ls ((as.reverse ++ vr k :: st).map (tr ad))).stack = (as.map (tr ad)).reverse ++ .ref (ad k) :: st.map (tr ad) := by
    show (as.reverse ++ vr k :: st).map (tr ad) = _
    rw [List.map_append, List.map_reverse]; rfl
  have hW : 2 * (F0 X.2.2.2.2.2.1 pc ls ((as.reverse ++ vr k :: st).map (tr ad))).monitorRoom + ((st.map (tr ad)).map fun v => v.category).sum ≤ 8 := by
    show 2 * 0 + _ ≤ 8
    rw [cat_len]; omega
  have hcl' : Cond.code y b nL' none ∈ Cond.code y b nL' none :: gdW := List.mem_cons_self
  refine g_run (a := ((vr k :: as).map (tr ad)).toArray) ?_ hI hl hKU.2.2.2.2.2.1 hfr hL hst kk
  rcases M1 with hl1 | ⟨host, hl1⟩
  · exact va_runI (As := as.map (tr ad)) (rest := st.map (tr ad)) (n := n) ⟨C.1, C.2.1, C.2.2.1, C.2.2.2.1, hts⟩ (hM ad) ⟨⟨rfl, rfl, hR.1, hR.2, hpay, hcl', hts _ M5, hts _ M4, ⟨M6.1, M6.2.1⟩, plain_len M6, hts _ hl1⟩, M2, hts _ M3⟩ hp rfl (by rw [List.length_map]; exact hlen) (by rw [← C.2.2.1]; exact hl.1) hstack hW hd hfit
  · exact va_runIN (As := as.map (tr ad)) (rest := st.map (tr ad)) (n := n) (host := host) ⟨C.1, C.2.1, C.2.2.1, C.2.2.2.1, hts⟩ (hM ad) ⟨⟨⟨rfl, rfl, hR.1, hR.2, hpay, hcl'⟩, hts _ M5, hts _ M4, ⟨M6.1, M6.2.1⟩, plain_len M6, va_Nw.use rfl (hKU.2.1 _ hl1)⟩, M2, hts _ M3⟩ hp rfl (by rw [List.length_map]; exact hlen) (by rw [← C.2.2.1]; exact hl.1) hstack hW hd hfit
/-- calls that make nothing, from a method of depth d -/
theorem g_callV {P' : Option AV → Mm → Prop} {k : Ln} {as : List AV} {y : MethodName} {b : ByteArray} {nL' d' n index ci : Nat} {ret rt : Option FieldType} {stk : List AV} (C : Cx X Y cc nL own) (B : Bx X Y nm rt d mc ms P) (M : MV own index y b nL' ret n) (hM : Cn X.2.1 Y.1 Y.2.1 Y.2.2.1 y b nL' ret d' 0 0 noF S (vr k :: as) P') (hstk : stk = as.reverse ++ vr k :: st) (hlen : as.length = n) (hk : kd k = (0, ci)) (hcl : (vwCl[ci]?).map (fun q => q.1) = some y.cls) (hlv : S.2.2 k = true)
    (hR : d' + 1 ≤ d ∧ nL' ≤ 21) (hfit : cells ≤ mc ∧ slots ≤ ms) (hs8 : st.length ≤ 8) (hd : decode cc pc = .ok (.invokevirtual index, 3))
    (kk : ∀ r S', P' r S' → G X Y cells slots S' (pc + 3) L (pushR r st)) : G X Y cells slots S pc L stk :=
  g_callVf C M hM hstk hlen hk hcl hlv (by rw [B.1]; exact ⟨hR.1, by show _ ≤ 40 * d; omega⟩) (by rw [B.1]; exact hfit) hs8 hd (fun _ h => by cases h) (no_allL L) (no_all st) kk
theorem g_callS {P' : Option AV → Mm → Prop} {as : List AV} {y : MethodName} {b : ByteArray} {nL' d' n index : Nat} {ret rt : Option FieldType} {stk : List AV} (C : Cx X Y cc nL own) (B : Bx X Y nm rt d mc ms P) (M : MS own index y b nL' ret n) (hM : Cn X.2.1 Y.1 Y.2.1 Y.2.2.1 y b nL' ret d' 0 0 noF S as P') (hstk : stk = as.reverse ++ st) (hlen : as.length = n)
    (hR : d' + 1 ≤ d ∧ nL' ≤ 21) (hfit : cells ≤ mc ∧ slots ≤ ms) (hs8 : st.length ≤ 8) (hd : decode cc pc = .ok (.invokestatic index, 3))
    (kk : ∀ r S', P' r S' → G X Y cells slots S' (pc + 3) L (pushR r st)) : G X Y cells slots S pc L stk :=
  g_callSf C M hM hstk hlen (by rw [B.1]; exact ⟨hR.1, by show _ ≤ 40 * d; omega⟩) (by rw [B.1]; exact hfit) hs8 hd (fun _ h => by cases h) (no_allL L) (no_all st) kk
end GC
end
section
/-! new cells; the copy of a whole row -/
theorem Hp.grow {E : En} {base : Nat} {ad : Ln → Nat} {S : Mm} {k : Ln} {H H' : Heap} {h0 : Nat} (h : Hp E base ad S H) (hk : S.2.2 k = false) (hh : h0 = H.size) (hb : base ≤ h0) (ho : ∀ q, q < h0 → H'[q]? = H[q]?) (hc : cellOK E (fun q => if q = k then h0 else ad q) (nwm S k) k H') : Hp E base (fun q => if q = k then h0 else ad q) (nwm S k) H' := by
  obtain ⟨h1, h2, h3⟩ := h
  have hold : ∀ q, q ≠ k → (nwm S k).2.2 q = true → S.2.2 q = true := fun q hq hl => by simpa [nwm, hq] using hl
  have hlt : ∀ q, S.2.2 q = true → ad q < h0 := fun q hq => by rw [hh]; exact (h1 q hq).1.lt
  refine ⟨fun q hq => ?_, fun i j hi hj e => ?_, fun q j r hq hr => ?_⟩
  · by_cases e : q = k
    · subst e
      exact ⟨hc, by simp; exact hb⟩
    · have hl := hold q e hq
      refine ⟨?_, by simp [e]; exact (h1 q hl).2⟩
      have c1 := ((h1 q hl).1.kept (ho _ (hlt q hl))).congr (S' := nwm S k) (fun j => by simp [nwm, e]) (fun j => by simp [nwm, e])
      refine c1.ad (by simp [e]) (fun j r hr => ?_)
      have hr' : S.2.1 q j = some r := by simpa [nwm, e] using hr
      have hrl := h3 q j r hl hr'
      have : r ≠ k := fun z => by rw [z, hk] at hrl; cases hrl
      simp [this]
  · by_cases e1 : i = k <;> by_cases e2 : j = k
    · rw [e1, e2]
    · have := hlt j (hold j e2 hj)
      simp [e1, e2] at e
      omega
    · have := hlt i (hold i e1 hi)
      simp [e1, e2] at e
      omega
    · simp [e1, e2] at e
      exact h2 i j (hold i e1 hi) (hold j e2 hj) e
  · by_cases e : q = k
    · subst e
      simp [nwm] at hr
    · have hr' : S.2.1 q j = some r := by simpa [nwm, e] using hr
      have := h3 q j r (hold q e hq) hr'
      by_cases e2 : r = k
      · simp [nwm, e2]
      · simp [nwm, e2, this]
/-- no reference to k -/
def noK (k : Ln) (v : AV) : Prop := v ≠ vr k
theorem tr_noK {ad : Ln → Nat} {k : Ln} {h0 : Nat} {v : AV} (h : v ≠ vr k) : tr (fun q => if q = k then h0 else ad q) v = tr ad v := by
  rcases v with x | o
  · rfl
  · cases o with
    | none => rfl
    | some q =>
      have : q ≠ k := fun e => h (by rw [e])
      show Value.ref (if q = k then h0 else ad q) = .ref (ad q)
      rw [if_neg this]
theorem trs_noK {ad : Ln → Nat} {k : Ln} {h0 : Nat} {st : List AV} (h : ∀ v ∈ st, v ≠ vr k) : st.map (tr (fun q => if q = k then h0 else ad q)) = st.map (tr ad) := List.map_congr_left (fun v hv => tr_noK (h v hv))
theorem trL_noK {ad : Ln → Nat} {k : Ln} {h0 : Nat} {L : List (Nat × AV)} (h : ∀ q ∈ L, q.2 ≠ vr k) : trL (fun q => if q = k then h0 else ad q) L = trL ad L := List.map_congr_left (fun v hv => by rw [tr_noK (h v hv)])
section GD
variable {X : Xt} {Y : Yt} {cc : ByteArray} {nL : Nat} {own : String} {cells slots : Nat} {S : Mm} {pc : Nat} {L : List (Nat × AV)} {st : List AV}
/-- behind the making of a cell at the heap's end -/
theorem g_made {k : Ln} {ad : Ln → Nat} {H H' : Heap} {locs : List Loc} {ls : Array Slot} {c' s' pc' : Nat} (C : Cx X Y cc nL own) (hI : Inv Y X.2.2.2.2.1 ad S H locs) (hl : lv_has ls X.2.2.2.2.2.2.2.2.2.1.maxLocals (trL ad L)) (hk : S.2.2 k = false) (hw : k ≠ wK) (hfr : Y.2.2.2.2 k = true) (hL : ∀ q ∈ L, q.2 ≠ vr k) (hst : ∀ v ∈ st, v ≠ vr k) (hz : H'.size = H.size + 1) (ho : ∀ q, q < H.size → H'[q]? = H[q]?) (hc : cellOK Y.1 (fun q => if q = k then H.size else ad q) (nwm S k) k H')
    (kk : G X Y c' s' (nwm S k) pc' L (vr k :: st)) : W X.1 X.2.1 X.2.2.1 X.2.2.2.1 X.2.2.2.2.1 X.2.2.2.2.2.1 X.2.2.2.2.2.2.1 X.2.2.2.2.2.2.2.1 X.2.2.2.2.2.2.2.2.1 X.2.2.2.2.2.2.2.2.2.1 H' locs c' s' X.2.2.2.2.2.2.2.2.2.2 (F0 X.2.2.2.2.2.1 pc' ls (.ref H.size :: st.map (tr ad))) := by
  have hb : Y.2.1 ≤ H.size := Nat.le_trans C.2.2.2.2.2.1.2.2.2.2.2.1 hI.2.2.2.1
  have k1 := kk (fun q => if q = k then H.size else ad q) H' locs ls ⟨hI.1.grow hk rfl hb ho hc, fun q hq => ?_, ?_, Nat.le_trans hI.2.2.2.1 (by omega), fun q g1 g2 => (ho q (Nat.lt_of_lt_of_le g1 hI.2.2.2.1)).trans (hI.2.2.2.2.1 q g1 g2), hI.2.2.2.2.2⟩ (by rw [trL_noK hL]; exact hl)
  · rw [List.map_cons, trs_noK hst] at k1
    have e : tr (fun q => if q = k then H.size else ad q) (vr k) = .ref H.size := by show Value.ref (if k = k then H.size else ad k) = _; rw [if_pos rfl]
    rw [e] at k1
    exact k1
  · have : q ≠ k := fun e => by rw [e, hfr] at hq; cases hq
    show (if q = k then H.size else ad q) = _
    rw [if_neg this]
    exact hI.2.1 q hq
  · show (if wK = k then H.size else ad wK) = _
    rw [if_neg (Ne.symm hw)]
    exact hI.2.2.1
/-- a class whose objects can be made, as its words have it -/
def ND (own : String) (index ci : Nat) : Prop := ∃ (C0 : String) (T : u_T) (N : Nat), vwCl[ci]? = some (C0, T, N) ∧ nfC ci = N ∧ Cond.classLink own index C0 ∈ gdW ∧ Cond.instantiable C0 N ∈ gdW ∧ Cond.initialized C0 ∈ gdW ∧ (∀ w ∈ u_ws C0 T N, w ∈ gdW) ∧ (∀ k, k < N → parseFieldDescriptor (T k).2.2.1 = some (tyC ci k)) ∧ (∀ k, k < N → defaultValue (tyC ci k) = if isRefT (tyC ci k) = true then .null else .int 0)
theorem g_new (C : Cx X Y cc nL own) (k : Ln) {index ci : Nat} (D : ND own index ci) (hkd : kd k = (0, ci)) (hk : S.2.2 k = false) (hw : k ≠ wK) (hfr : Y.2.2.2.2 k = true) (hL : ∀ q ∈ L, q.2 ≠ vr k) (hst : ∀ v ∈ st, v ≠ vr k) (hc : cells + 1 ≤ X.2.2.2.1.cells) (hs : slots + nfC ci ≤ X.2.2.2.1.slots) (hd : decode cc pc = .ok (.new index, 3)) (kk : G X Y (cells + 1) (slots + nfC ci) (nwm S k) (pc + 3) L (vr k :: st)) : G X Y cells slots S pc L st := by
  intro ad H locs ls hI hl
  obtain ⟨C0, T, N, hcl, hnf, hlink, hinst, hini, hin, hty, hdf⟩ := D
  have hts := C.2.2.2.2.1
  have hKn := C.2.2.2.2.2.1.1.1 ci _ hcl
  rw [hnf] at hs kk
  refine W.newcK C.1 C.2.1 C.2.2.2.1 (hts _ hlink) (hts _ hinst) (hts _ hini) rfl hd hc hs hKn.2.1 rfl fun H1 kC hkC e1 z1 o1 => ?_
  refine g_made C hI hl hk hw hfr hL hst z1 o1 ?_ kk
  unfold cellOK
  have ek : (fun q => if q = k then Array.size H else ad q) k = Array.size H := if_pos rfl
  rw [hkd, if_pos rfl, hnf, ek]
  refine (u_born (tyC ci) hts hin hKn hkC e1 hty).to (fun j hj => ?_)
  rw [hdf j hj]
  simp [fval, nwm, vo]
theorem g_newi (C : Cx X Y cc nL own) (k : Ln) {n : Int32} (N : Nat) (hkd : kd k = (1, N)) (hk : S.2.2 k = false) (hw : k ≠ wK) (hfr : Y.2.2.2.2 k = true) (hL : ∀ q ∈ L, q.2 ≠ vr k) (hst : ∀ v ∈ st, v ≠ vr k) (hn : ¬ n < 0) (hN : n.toNatClampNeg = N) (hb : N ≤ 100000) (ha : Cond.arrayClass .int ∈ gdW) (hc : cells + 1 ≤ X.2.2.2.1.cells) (hs : slots + N ≤ X.2.2.2.1.slots) (hd : decode cc pc = .ok (.newarray .int, 2)) (kk : G X Y (cells + 1) (slots + N) (nwm S k) (pc + 2) L (vr k :: st)) : G X Y cells slots S pc L (vi n :: st) := by
  intro ad H locs ls hI hl
  refine va_newaK C.1 C.2.1 (atype := .int) (C.2.2.2.2.1 _ ha) rfl hd rfl hn hN (by show N * 4 ≤ _; omega) hc hs rfl fun H1 cA e1 z1 o1 hAr hNm => ?_
  refine g_made C hI hl hk hw hfr hL hst z1 o1 ?_ kk
  have hcA : cA = Y.1.2.2 1 := Option.some.inj (hNm.symm.trans (C.2.2.2.2.2.1.1.2 0 _ rfl).2)
  refine arr_ok hkd (by decide) ?_
  rw [if_pos rfl, e1, hcA]
  congr 2
  funext j
  simp [aval, nwm]
  rfl
theorem g_newz (C : Cx X Y cc nL own) (k : Ln) {n : Int32} (N : Nat) (hkd : kd k = (2, N)) (hk : S.2.2 k = false) (hw : k ≠ wK) (hfr : Y.2.2.2.2 k = true) (hL : ∀ q ∈ L, q.2 ≠ vr k) (hst : ∀ v ∈ st, v ≠ vr k) (hn : ¬ n < 0) (hN : n.toNatClampNeg = N) (hb : N ≤ 100000) (ha : Cond.arrayClass .boolean ∈ gdW) (hc : cells + 1 ≤ X.2.2.2.1.cells) (hs : slots + N ≤ X.2.2.2.1.slots) (hd : decode cc pc = .ok (.newarray .boolean, 2)) (kk : G X Y (cells + 1) (slots + N) (nwm S k) (pc + 2) L (vr k :: st)) : G X Y cells slots S pc L (vi n :: st) := by
  intro ad H locs ls hI hl
  refine va_newaK C.1 C.2.1 (atype := .boolean) (C.2.2.2.2.1 _ ha) rfl hd rfl hn hN (by show N * 1 ≤ _; omega) hc hs rfl fun H1 cA e1 z1 o1 hAr hNm => ?_
  refine g_made C hI hl hk hw hfr hL hst z1 o1 ?_ kk
  have hcA : cA = Y.1.2.2 2 := Option.some.inj (hNm.symm.trans (C.2.2.2.2.2.1.1.2 1 _ rfl).2)
  refine arr_ok hkd (by decide) ?_
  rw [if_pos rfl, e1, hcA]
  congr 2
  funext j
  simp [aval, nwm]
  rfl
theorem g_anew (C : Cx X Y cc nL own) (k : Ln) {n : Int32} {index t : Nat} {C0 : String} (N : Nat) (hkd : kd k = (t, N)) (ht : (t = 3 ∧ C0 = RX3) ∨ (t = 4 ∧ C0 = RX2)) (hk : S.2.2 k = false) (hw : k ≠ wK) (hfr : Y.2.2.2.2 k = true) (hL : ∀ q ∈ L, q.2 ≠ vr k) (hst : ∀ v ∈ st, v ≠ vr k) (hn : ¬ n < 0) (hN : n.toNatClampNeg = N) (hb : N ≤ 100000) (hlink : Cond.classLink own index C0 ∈ gdW) (hc : cells + 1 ≤ X.2.2.2.1.cells) (hs : slots + N ≤ X.2.2.2.1.slots) (hd : decode cc pc = .ok (.anewarray index, 3)) (kk : G X Y (cells + 1) (slots + N) (nwm S k) (pc + 3) L (vr k :: st)) : G X Y cells slots S pc L (vi n :: st) := by
  intro ad H locs ls hI hl
  have hKU := C.2.2.2.2.2.1
  have hover : va_AO C0 X.2.2.2.2.1 := by
    rcases ht with ⟨-, rfl⟩ | ⟨-, rfl⟩
    · exact hKU.2.2.2.2.2.2.1
    · exact hKU.2.2.2.2.2.2.2.1
  subst hN
  refine W.anew C.1 C.2.1 C.2.2.2.1 (C.2.2.2.2.1 _ hlink) hover.use rfl hd rfl hn (by omega) hc hs fun cA kA comp h1 h2 h3 h4 => ?_
  refine g_made C hI hl hk hw hfr hL hst (by simp) (fun q hq => by rw [Array.getElem?_push, if_neg (Nat.ne_of_lt hq)]) ?_ kk
  have hcA : cA = Y.1.2.2 t := by
    rcases ht with ⟨rfl, rfl⟩ | ⟨rfl, rfl⟩
    · obtain ⟨_, _, -, -, -, h⟩ := (hKU.1.2 2 _ rfl).2
      exact Option.some.inj (h1.symm.trans h)
    · obtain ⟨_, _, -, -, -, h⟩ := (hKU.1.2 3 _ rfl).2
      exact Option.some.inj (h1.symm.trans h)
  have t2 : ¬ t ≤ 2 := by omega
  refine arr_ok hkd (by omega) ?_
  rw [if_pos rfl, hcA, arrV_new]
  simp only [Array.getElem?_push_size]
  congr 2
  funext j
  simp [aval, nwm, t2, vo]
/-- row k0 over row k1 -/
def cpyI (S : Mm) (k0 k1 : Ln) (n : Nat) : Mm := (fun k' j' => if k' = k1 ∧ j' < n then S.1 k0 j' else S.1 k' j', S.2)
theorem g_copy (C : Cx X Y cc nL own) {k0 k1 : Ln} {n index : Nat} (h0 : kd k0 = (1, n)) (h1 : kd k1 = (1, n)) (hl0 : S.2.2 k0 = true) (hl1 : S.2.2 k1 = true) (hn : n < 1000) (hlink : Cond.methodLink own index arraycopyName ∈ gdW) (hnat : Cond.native arraycopyName ∈ gdW) (hstat : Cond.static arraycopyName ∈ gdW) (hini : Cond.initialized "java/lang/System" ∈ gdW) (hR : 1 ≤ X.2.2.2.1.frames ∧ 30 ≤ X.2.2.2.1.locals) (hst : st = []) (hd : decode cc pc = .ok (.invokestatic index, 3))
    (kk : G X Y cells slots (cpyI S k0 k1 n) (pc + 3) L st) : G X Y cells slots S pc L (vi (nI n) :: vi 0 :: vr k1 :: vi 0 :: vr k0 :: st) := by
  intro ad H locs ls hI hl
  subst hst
  have hts := C.2.2.2.2.1
  have hKU := C.2.2.2.2.2.1
  have hc0 := arr_cell (hI.1.1 k0 hl0).1 h0 (by decide)
  have hc1 := arr_cell (hI.1.1 k1 hl1).1 h1 (by decide)
  have ev : ∀ k, aval ad S k 1 = fun j => .int (S.1 k j) := fun k => by funext j; simp [aval]
  rw [ev] at hc0 hc1
  have hcl : (nI n).toNatClampNeg = n := nI_clamp (by omega)
  have hti : (nI n).toInt = (n : Int) := nI_toInt (by omega)
  intro T hT XX
  obtain ⟨-, k0c, hk0, cm0, hkk0⟩ := (hKU.1.2 0 _ rfl).1 n (fun j => .int (S.1 k0 j))
  obtain ⟨-, k1c, hk1, cm1, hkk1⟩ := (hKU.1.2 0 _ rfl).1 n (fun j => .int (S.1 k1 j))
  obtain ⟨vm', X', step⟩ := XX.arraycopy C.1 C.2.2.2.1 (hts _ hlink) (hts _ hnat) (hts _ hstat) (hts _ hini) (src := ad k0) (dst := ad k1) (srcPos := 0) (destPos := 0) (n := nI n) (by rw [hT]; exact hc0) (by rw [hT]; exact hc1)
    (fun _ h => by cases h) (fun _ h => by cases h) (fun h => by cases h) (fun h => by cases h) hk0 hk1 hkk0 hkk1 rfl (by decide) (by decide) (nI_pos (by omega))
    (by rw [arrV_size, hti]; show ¬ (0 : Int) + _ > _; omega) (by rw [arrV_size, hti]; show ¬ (0 : Int) + _ > _; omega)
    (fun vm₁ _ i hi => by
      rw [hcl] at hi
      have e : (arrV (Y.1.2.2 1) n (fun j => Value.int (S.1 k0 j))).slots.getD ((0 : Int32).toNatClampNeg + i) .null = .int (S.1 k0 ((0 : Int32).toNatClampNeg + i)) := by
        rw [Array.getD_eq_getD_getElem?, arrV_read _ _ (by rw [sb_cl0]; omega)]
        rfl
      rw [e]
      exact ⟨rfl, trivial⟩)
    (g := F0 X.2.2.2.2.2.1 pc ls ([vi (nI n), vi 0, vr k1, vi 0, vr k0].map (tr ad))) rfl hl.1 (rest := []) rfl (by rw [C.2.1]; exact hd) hR.1 (by show 2 * 0 + 0 + (nativeFrameWords "java/lang/System" "arraycopy" 5 + 11) ≤ _; exact Nat.le_trans (by decide) hR.2)
  have e1 : copied (arrV (Y.1.2.2 1) n (fun j => Value.int (S.1 k0 j))) (arrV (Y.1.2.2 1) n (fun j => Value.int (S.1 k1 j))) 0 0 (nI n) = arrV (Y.1.2.2 1) n (fun j => .int (va_cpy (S.1 k0) (S.1 k1) 0 0 n j)) := by
    have := va_copied (fun z => Value.int z) (Y.1.2.2 1) (Y.1.2.2 1) (n0 := n) (n1 := n) (sp := 0) (dp := 0) (n := n) (S.1 k0) (S.1 k1) (by omega)
    rw [← this]
    show Cell.storeRun _ (0 : Int32).toNatClampNeg (Cell.stretch _ (0 : Int32).toNatClampNeg (nI n).toNatClampNeg) = _
    rw [hcl, sb_cl0]
  rw [e1] at X' step
  have hlt : ad k1 < H.size := (Array.getElem?_eq_some_iff.mp hc1).1
  have hheap : ((T.setVm vm').setCell (ad k1) (arrV (Y.1.2.2 1) n (fun j => .int (va_cpy (S.1 k0) (S.1 k1) 0 0 n j)))).heap = H.setIfInBounds (ad k1) (arrV (Y.1.2.2 1) n (fun j => .int (va_cpy (S.1 k0) (S.1 k1) 0 0 n j))) := by rw [← hT]; rfl
  have oq : ∀ q : Nat, q ≠ ad k1 → (H.setIfInBounds (ad k1) (arrV (Y.1.2.2 1) n (fun j => .int (va_cpy (S.1 k0) (S.1 k1) 0 0 n j))))[q]? = H[q]? := fun q hq => by simp [Array.getElem?_setIfInBounds, Ne.symm hq]
  have hnew : cellOK Y.1 ad (cpyI S k0 k1 n) k1 (H.setIfInBounds (ad k1) (arrV (Y.1.2.2 1) n (fun j => .int (va_cpy (S.1 k0) (S.1 k1) 0 0 n j)))) := by
    refine arr_ok h1 (by decide) ?_
    rw [Array.getElem?_setIfInBounds, if_pos rfl, if_pos hlt]
    congr 2
    funext j
    simp [aval, cpyI, va_cpy]
  obtain ⟨t, a1, b1⟩ := kk ad _ _ ls ⟨hI.1.upd rfl hl1 hnew oq (fun k' hk' => ⟨fun j => by simp [cpyI, hk'], fun _ => rfl⟩) (fun j r hr => hI.1.2.2 k1 j r hl1 hr), hI.2.1, hI.2.2.1, by simp; exact hI.2.2.2.1, fun q g1 g2 => by
      rw [oq q (fun e => g2 (by rw [e]; exact (hI.1.1 k1 hl1).2))]
      exact hI.2.2.2.2.1 q g1 g2, fun q hq => by
      rcases List.mem_append.mp hq with h | h
      · exact hI.2.2.2.2.2 q h
      · obtain ⟨z, -, hz⟩ := List.mem_map.mp h
        rw [← hz]
        exact (hI.1.1 k1 hl1).2⟩ hl _ hheap X'
  exact ⟨t, step t a1, b1⟩
/-- Object.<init> -/
theorem g_obj (C : Cx X Y cc nL own) {k : Ln} {index : Nat} (hlink : Cond.methodLink own index objectInit ∈ gdW) (hin : Cond.instanceMethod objectInit ∈ gdW) (hcode : Cond.code objectInit ⟨#[0xb1]⟩ 1 none ∈ gdW) (hR : 1 ≤ X.2.2.2.1.frames ∧ 30 ≤ X.2.2.2.1.locals) (hs8 : st.length ≤ 8) (hd : decode cc pc = .ok (.invokespecial index, 3)) (kk : G X Y cells slots S (pc + 3) L st) : G X Y cells slots S pc L (vr k :: st) := by
  intro ad H locs ls hI hl
  refine W.objInit C.1 C.2.1 C.2.2.2.1 (C.2.2.2.2.1 _ hlink) (C.2.2.2.2.1 _ hin) (C.2.2.2.2.1 _ hcode) rfl hl.1 rfl hd hR.1 ?_ (kk ad H locs ls hI hl)
  show 2 * 0 + _ + 12 ≤ _
  have := hR.2
  rw [cat_len]
  omega
end GD
end
section
theorem gin {w : Cond} (i : Nat) (h : lw_tbl[i]? = some w) (hg : goodWord w = true) : w ∈ gdW := List.mem_filter.mpr ⟨List.mem_of_getElem? h, hg⟩
theorem nin {w : Cond} (i : Nat) (h : lw_tbl[i]? = some w) (hg : isNest w = true) : w ∈ nsW := List.mem_filter.mpr ⟨List.mem_of_getElem? h, hg⟩
theorem uw_of {C : String} {T : u_T} {N : Nat} (h : ∀ k, k < N → u_lay C T k ∈ gdW) : ∀ w ∈ u_ws C T N, w ∈ gdW := fun w hw => by
  obtain ⟨k, hk, rfl⟩ := List.mem_map.mp hw
  exact h k (List.mem_range.mp hk)
theorem uwX0 : ∀ w ∈ u_ws RX0 TX0 2, w ∈ gdW := by
  refine uw_of (fun k hk => ?_)
  match k, hk with
  | 0, _ => exact gin 61 (by decide +kernel) rfl
  | 1, _ => exact gin 63 (by decide +kernel) rfl
  | n + 2, h => omega
theorem uwX1 : ∀ w ∈ u_ws RX1 TX1 2, w ∈ gdW := by
  refine uw_of (fun k hk => ?_)
  match k, hk with
  | 0, _ => exact gin 171 (by decide +kernel) rfl
  | 1, _ => exact gin 173 (by decide +kernel) rfl
  | n + 2, h => omega
theorem uwX2 : ∀ w ∈ u_ws RX2 TX2 10, w ∈ gdW := by
  refine uw_of (fun k hk => ?_)
  match k, hk with
  | 0, _ => exact gin 267 (by decide +kernel) rfl
  | 1, _ => exact gin 269 (by decide +kernel) rfl
  | 2, _ => exact gin 271 (by decide +kernel) rfl
  | 3, _ => exact gin 273 (by decide +kernel) rfl
  | 4, _ => exact gin 275 (by decide +kernel) rfl
  | 5, _ => exact gin 277 (by decide +kernel) rfl
  | 6, _ => exact gin 279 (by decide +kernel) rfl
  | 7, _ => exact gin 281 (by decide +kernel) rfl
  | 8, _ => exact gin 283 (by decide +kernel) rfl
  | 9, _ => exact gin 285 (by decide +kernel) rfl
  | n + 10, h => omega
theorem uwX3 : ∀ w ∈ u_ws RX3 TX3 10, w ∈ gdW := by
  refine uw_of (fun k hk => ?_)
  match k, hk with
  | 0, _ => exact gin 196 (by decide +kernel) rfl
  | 1, _ => exact gin 198 (by decide +kernel) rfl
  | 2, _ => exact gin 200 (by decide +kernel) rfl
  | 3, _ => exact gin 202 (by decide +kernel) rfl
  | 4, _ => exact gin 204 (by decide +kernel) rfl
  | 5, _ => exact gin 206 (by decide +kernel) rfl
  | 6, _ => exact gin 208 (by decide +kernel) rfl
  | 7, _ => exact gin 210 (by decide +kernel) rfl
  | 8, _ => exact gin 212 (by decide +kernel) rfl
  | 9, _ => exact gin 214 (by decide +kernel) rfl
  | n + 10, h => omega
theorem uwX4 : ∀ w ∈ u_ws RX4 TX4 8, w ∈ gdW := by
  refine uw_of (fun k hk => ?_)
  match k, hk with
  | 0, _ => exact gin 146 (by decide +kernel) rfl
  | 1, _ => exact gin 148 (by decide +kernel) rfl
  | 2, _ => exact gin 150 (by decide +kernel) rfl
  | 3, _ => exact gin 152 (by decide +kernel) rfl
  | 4, _ => exact gin 154 (by decide +kernel) rfl
  | 5, _ => exact gin 156 (by decide +kernel) rfl
  | 6, _ => exact gin 158 (by decide +kernel) rfl
  | 7, _ => exact gin 160 (by decide +kernel) rfl
  | n + 8, h => omega
theorem uwX5 : ∀ w ∈ u_ws RX5 TX5 2, w ∈ gdW := by
  refine uw_of (fun k hk => ?_)
  match k, hk with
  | 0, _ => exact gin 77 (by decide +kernel) rfl
  | 1, _ => exact gin 79 (by decide +kernel) rfl
  | n + 2, h => omega
theorem uwX6 : ∀ w ∈ u_ws RX6 TX6 9, w ∈ gdW := by
  refine uw_of (fun k hk => ?_)
  match k, hk with
  | 0, _ => exact gin 91 (by decide +kernel) rfl
  | 1, _ => exact gin 93 (by decide +kernel) rfl
  | 2, _ => exact gin 95 (by decide +kernel) rfl
  | 3, _ => exact gin 97 (by decide +kernel) rfl
  | 4, _ => exact gin 99 (by decide +kernel) rfl
  | 5, _ => exact gin 101 (by decide +kernel) rfl
  | 6, _ => exact gin 103 (by decide +kernel) rfl
  | 7, _ => exact gin 105 (by decide +kernel) rfl
  | 8, _ => exact gin 107 (by decide +kernel) rfl
  | n + 9, h => omega
theorem uwX7 : ∀ w ∈ u_ws RX7 TX7 34, w ∈ gdW := by
  refine uw_of (fun k hk => ?_)
  match k, hk with
  | 0, _ => exact gin 600 (by decide +kernel) rfl
  | 1, _ => exact gin 602 (by decide +kernel) rfl
  | 2, _ => exact gin 604 (by decide +kernel) rfl
  | 3, _ => exact gin 606 (by decide +kernel) rfl
  | 4, _ => exact gin 608 (by decide +kernel) rfl
  | 5, _ => exact gin 610 (by decide +kernel) rfl
  | 6, _ => exact gin 612 (by decide +kernel) rfl
  | 7, _ => exact gin 614 (by decide +kernel) rfl
  | 8, _ => exact gin 616 (by decide +kernel) rfl
  | 9, _ => exact gin 618 (by decide +kernel) rfl
  | 10, _ => exact gin 620 (by decide +kernel) rfl
  | 11, _ => exact gin 622 (by decide +kernel) rfl
  | 12, _ => exact gin 624 (by decide +kernel) rfl
  | 13, _ => exact gin 626 (by decide +kernel) rfl
  | 14, _ => exact gin 628 (by decide +kernel) rfl
  | 15, _ => exact gin 630 (by decide +kernel) rfl
  | 16, _ => exact gin 632 (by decide +kernel) rfl
  | 17, _ => exact gin 634 (by decide +kernel) rfl
  | 18, _ => exact gin 636 (by decide +kernel) rfl
  | 19, _ => exact gin 638 (by decide +kernel) rfl
  | 20, _ => exact gin 640 (by decide +kernel) rfl
  | 21, _ => exact gin 642 (by decide +kernel) rfl
  | 22, _ => exact gin 644 (by decide +kernel) rfl
  | 23, _ => exact gin 646 (by decide +kernel) rfl
  | 24, _ => exact gin 648 (by decide +kernel) rfl
  | 25, _ => exact gin 650 (by decide +kernel) rfl
  | 26, _ => exact gin 652 (by decide +kernel) rfl
  | 27, _ => exact gin 654 (by decide +kernel) rfl
  | 28, _ => exact gin 656 (by decide +kernel) rfl
  | 29, _ => exact gin 658 (by decide +kernel) rfl
  | 30, _ => exact gin 660 (by decide +kernel) rfl
  | 31, _ => exact gin 662 (by decide +kernel) rfl
  | 32, _ => exact gin 664 (by decide +kernel) rfl
  | 33, _ => exact gin 666 (by decide +kernel) rfl
  | n + 34, h => omega
theorem wsX6_28 : Cond.fieldLink RX6 28 RX6 "WORTHS" "[I" ∈ gdW ∨ ∃ host, Cond.fieldLinkNest RX6 28 RX6 "WORTHS" "[I" host ∈ nsW := Or.inl (gin 49 (by decide +kernel) rfl)
theorem wsX0_9 : Cond.fieldLink RX0 9 RX6 "WORTHS" "[I" ∈ gdW ∨ ∃ host, Cond.fieldLinkNest RX0 9 RX6 "WORTHS" "[I" host ∈ nsW := Or.inr ⟨"SlotHouse", nin 57 (by decide +kernel) rfl⟩
theorem fX0_13 : FD RX0 13 0 0 := ⟨RX0, TX0, 2, rfl, rfl, by decide, rfl, Or.inl (gin 58 (by decide +kernel) rfl), uwX0, tyX0_ok, nmX0⟩
theorem fX0_18 : FD RX0 18 0 1 := ⟨RX0, TX0, 2, rfl, rfl, by decide, rfl, Or.inl (gin 59 (by decide +kernel) rfl), uwX0, tyX0_ok, nmX0⟩
theorem fX6_191 : FD RX6 191 0 1 := ⟨RX0, TX0, 2, rfl, rfl, by decide, rfl, Or.inr ⟨"SlotHouse", nin 60 (by decide +kernel) rfl⟩, uwX0, tyX0_ok, nmX0⟩
theorem fX5_11 : FD RX5 11 5 0 := ⟨RX5, TX5, 2, rfl, rfl, by decide, rfl, Or.inl (gin 75 (by decide +kernel) rfl), uwX5, tyX5_ok, nmX5⟩
theorem fX5_16 : FD RX5 16 5 1 := ⟨RX5, TX5, 2, rfl, rfl, by decide, rfl, Or.inl (gin 76 (by decide +kernel) rfl), uwX5, tyX5_ok, nmX5⟩
theorem fX6_11 : FD RX6 11 6 0 := ⟨RX6, TX6, 9, rfl, rfl, by decide, rfl, Or.inl (gin 82 (by decide +kernel) rfl), uwX6, tyX6_ok, nmX6⟩
theorem fX6_15 : FD RX6 15 6 1 := ⟨RX6, TX6, 9, rfl, rfl, by decide, rfl, Or.inl (gin 83 (by decide +kernel) rfl), uwX6, tyX6_ok, nmX6⟩
theorem fX6_25 : FD RX6 25 6 2 := ⟨RX6, TX6, 9, rfl, rfl, by decide, rfl, Or.inl (gin 84 (by decide +kernel) rfl), uwX6, tyX6_ok, nmX6⟩
theorem fX6_31 : FD RX6 31 6 3 := ⟨RX6, TX6, 9, rfl, rfl, by decide, rfl, Or.inl (gin 85 (by decide +kernel) rfl), uwX6, tyX6_ok, nmX6⟩
theorem fX6_37 : FD RX6 37 6 4 := ⟨RX6, TX6, 9, rfl, rfl, by decide, rfl, Or.inl (gin 86 (by decide +kernel) rfl), uwX6, tyX6_ok, nmX6⟩
theorem fX6_44 : FD RX6 44 6 5 := ⟨RX6, TX6, 9, rfl, rfl, by decide, rfl, Or.inl (gin 87 (by decide +kernel) rfl), uwX6, tyX6_ok, nmX6⟩
theorem fX6_48 : FD RX6 48 6 6 := ⟨RX6, TX6, 9, rfl, rfl, by decide, rfl, Or.inl (gin 88 (by decide +kernel) rfl), uwX6, tyX6_ok, nmX6⟩
theorem fX6_183 : FD RX6 183 6 7 := ⟨RX6, TX6, 9, rfl, rfl, by decide, rfl, Or.inl (gin 89 (by decide +kernel) rfl), uwX6, tyX6_ok, nmX6⟩
theorem fX6_170 : FD RX6 170 6 8 := ⟨RX6, TX6, 9, rfl, rfl, by decide, rfl, Or.inl (gin 90 (by decide +kernel) rfl), uwX6, tyX6_ok, nmX6⟩
theorem wsX4_9 : Cond.fieldLink RX4 9 RX6 "WORTHS" "[I" ∈ gdW ∨ ∃ host, Cond.fieldLinkNest RX4 9 RX6 "WORTHS" "[I" host ∈ nsW := Or.inr ⟨"SlotHouse", nin 131 (by decide +kernel) rfl⟩
theorem fX4_13 : FD RX4 13 4 0 := ⟨RX4, TX4, 8, rfl, rfl, by decide, rfl, Or.inl (gin 132 (by decide +kernel) rfl), uwX4, tyX4_ok, nmX4⟩
theorem fX0_31 : FD RX0 31 4 0 := ⟨RX4, TX4, 8, rfl, rfl, by decide, rfl, Or.inr ⟨"SlotHouse", nin 133 (by decide +kernel) rfl⟩, uwX4, tyX4_ok, nmX4⟩
theorem fX6_95 : FD RX6 95 4 0 := ⟨RX4, TX4, 8, rfl, rfl, by decide, rfl, Or.inr ⟨"SlotHouse", nin 134 (by decide +kernel) rfl⟩, uwX4, tyX4_ok, nmX4⟩
theorem fX4_18 : FD RX4 18 4 1 := ⟨RX4, TX4, 8, rfl, rfl, by decide, rfl, Or.inl (gin 135 (by decide +kernel) rfl), uwX4, tyX4_ok, nmX4⟩
theorem fX6_235 : FD RX6 235 4 1 := ⟨RX4, TX4, 8, rfl, rfl, by decide, rfl, Or.inr ⟨"SlotHouse", nin 136 (by decide +kernel) rfl⟩, uwX4, tyX4_ok, nmX4⟩
theorem fX4_21 : FD RX4 21 4 2 := ⟨RX4, TX4, 8, rfl, rfl, by decide, rfl, Or.inl (gin 137 (by decide +kernel) rfl), uwX4, tyX4_ok, nmX4⟩
theorem fX0_36 : FD RX0 36 4 2 := ⟨RX4, TX4, 8, rfl, rfl, by decide, rfl, Or.inr ⟨"SlotHouse", nin 138 (by decide +kernel) rfl⟩, uwX4, tyX4_ok, nmX4⟩
theorem fX6_148 : FD RX6 148 4 2 := ⟨RX4, TX4, 8, rfl, rfl, by decide, rfl, Or.inr ⟨"SlotHouse", nin 139 (by decide +kernel) rfl⟩, uwX4, tyX4_ok, nmX4⟩
theorem fX4_24 : FD RX4 24 4 3 := ⟨RX4, TX4, 8, rfl, rfl, by decide, rfl, Or.inl (gin 140 (by decide +kernel) rfl), uwX4, tyX4_ok, nmX4⟩
theorem fX4_27 : FD RX4 27 4 4 := ⟨RX4, TX4, 8, rfl, rfl, by decide, rfl, Or.inl (gin 141 (by decide +kernel) rfl), uwX4, tyX4_ok, nmX4⟩
theorem fX4_30 : FD RX4 30 4 5 := ⟨RX4, TX4, 8, rfl, rfl, by decide, rfl, Or.inl (gin 142 (by decide +kernel) rfl), uwX4, tyX4_ok, nmX4⟩
theorem fX4_33 : FD RX4 33 4 6 := ⟨RX4, TX4, 8, rfl, rfl, by decide, rfl, Or.inl (gin 143 (by decide +kernel) rfl), uwX4, tyX4_ok, nmX4⟩
theorem fX4_36 : FD RX4 36 4 7 := ⟨RX4, TX4, 8, rfl, rfl, by decide, rfl, Or.inl (gin 144 (by decide +kernel) rfl), uwX4, tyX4_ok, nmX4⟩
theorem fX6_141 : FD RX6 141 4 7 := ⟨RX4, TX4, 8, rfl, rfl, by decide, rfl, Or.inr ⟨"SlotHouse", nin 145 (by decide +kernel) rfl⟩, uwX4, tyX4_ok, nmX4⟩
theorem fX1_9 : FD RX1 9 1 0 := ⟨RX1, TX1, 2, rfl, rfl, by decide, rfl, Or.inl (gin 169 (by decide +kernel) rfl), uwX1, tyX1_ok, nmX1⟩
theorem fX1_15 : FD RX1 15 1 1 := ⟨RX1, TX1, 2, rfl, rfl, by decide, rfl, Or.inl (gin 170 (by decide +kernel) rfl), uwX1, tyX1_ok, nmX1⟩
theorem fX3_11 : FD RX3 11 3 0 := ⟨RX3, TX3, 10, rfl, rfl, by decide, rfl, Or.inl (gin 176 (by decide +kernel) rfl), uwX3, tyX3_ok, nmX3⟩
theorem fX3_20 : FD RX3 20 3 1 := ⟨RX3, TX3, 10, rfl, rfl, by decide, rfl, Or.inl (gin 177 (by decide +kernel) rfl), uwX3, tyX3_ok, nmX3⟩
theorem fX6_91 : FD RX6 91 3 1 := ⟨RX3, TX3, 10, rfl, rfl, by decide, rfl, Or.inr ⟨"SlotHouse", nin 178 (by decide +kernel) rfl⟩, uwX3, tyX3_ok, nmX3⟩
theorem fX3_27 : FD RX3 27 3 2 := ⟨RX3, TX3, 10, rfl, rfl, by decide, rfl, Or.inl (gin 179 (by decide +kernel) rfl), uwX3, tyX3_ok, nmX3⟩
theorem fX6_176 : FD RX6 176 3 2 := ⟨RX3, TX3, 10, rfl, rfl, by decide, rfl, Or.inr ⟨"SlotHouse", nin 180 (by decide +kernel) rfl⟩, uwX3, tyX3_ok, nmX3⟩
theorem fX3_35 : FD RX3 35 3 3 := ⟨RX3, TX3, 10, rfl, rfl, by decide, rfl, Or.inl (gin 181 (by decide +kernel) rfl), uwX3, tyX3_ok, nmX3⟩
theorem fX5_20 : FD RX5 20 3 3 := ⟨RX3, TX3, 10, rfl, rfl, by decide, rfl, Or.inr ⟨"SlotHouse", nin 182 (by decide +kernel) rfl⟩, uwX3, tyX3_ok, nmX3⟩
theorem fX6_232 : FD RX6 232 3 3 := ⟨RX3, TX3, 10, rfl, rfl, by decide, rfl, Or.inr ⟨"SlotHouse", nin 183 (by decide +kernel) rfl⟩, uwX3, tyX3_ok, nmX3⟩
theorem fX3_31 : FD RX3 31 3 4 := ⟨RX3, TX3, 10, rfl, rfl, by decide, rfl, Or.inl (gin 184 (by decide +kernel) rfl), uwX3, tyX3_ok, nmX3⟩
theorem fX6_117 : FD RX6 117 3 4 := ⟨RX3, TX3, 10, rfl, rfl, by decide, rfl, Or.inr ⟨"SlotHouse", nin 185 (by decide +kernel) rfl⟩, uwX3, tyX3_ok, nmX3⟩
theorem fX3_66 : FD RX3 66 3 5 := ⟨RX3, TX3, 10, rfl, rfl, by decide, rfl, Or.inl (gin 186 (by decide +kernel) rfl), uwX3, tyX3_ok, nmX3⟩
theorem fX6_120 : FD RX6 120 3 5 := ⟨RX3, TX3, 10, rfl, rfl, by decide, rfl, Or.inr ⟨"SlotHouse", nin 187 (by decide +kernel) rfl⟩, uwX3, tyX3_ok, nmX3⟩
theorem fX3_82 : FD RX3 82 3 6 := ⟨RX3, TX3, 10, rfl, rfl, by decide, rfl, Or.inl (gin 188 (by decide +kernel) rfl), uwX3, tyX3_ok, nmX3⟩
theorem fX6_135 : FD RX6 135 3 6 := ⟨RX3, TX3, 10, rfl, rfl, by decide, rfl, Or.inr ⟨"SlotHouse", nin 189 (by decide +kernel) rfl⟩, uwX3, tyX3_ok, nmX3⟩
theorem fX3_79 : FD RX3 79 3 7 := ⟨RX3, TX3, 10, rfl, rfl, by decide, rfl, Or.inl (gin 190 (by decide +kernel) rfl), uwX3, tyX3_ok, nmX3⟩
theorem fX6_138 : FD RX6 138 3 7 := ⟨RX3, TX3, 10, rfl, rfl, by decide, rfl, Or.inr ⟨"SlotHouse", nin 191 (by decide +kernel) rfl⟩, uwX3, tyX3_ok, nmX3⟩
theorem fX3_76 : FD RX3 76 3 8 := ⟨RX3, TX3, 10, rfl, rfl, by decide, rfl, Or.inl (gin 192 (by decide +kernel) rfl), uwX3, tyX3_ok, nmX3⟩
theorem fX6_173 : FD RX6 173 3 8 := ⟨RX3, TX3, 10, rfl, rfl, by decide, rfl, Or.inr ⟨"SlotHouse", nin 193 (by decide +kernel) rfl⟩, uwX3, tyX3_ok, nmX3⟩
theorem fX3_73 : FD RX3 73 3 9 := ⟨RX3, TX3, 10, rfl, rfl, by decide, rfl, Or.inl (gin 194 (by decide +kernel) rfl), uwX3, tyX3_ok, nmX3⟩
theorem fX6_132 : FD RX6 132 3 9 := ⟨RX3, TX3, 10, rfl, rfl, by decide, rfl, Or.inr ⟨"SlotHouse", nin 195 (by decide +kernel) rfl⟩, uwX3, tyX3_ok, nmX3⟩
theorem fX2_9 : FD RX2 9 2 0 := ⟨RX2, TX2, 10, rfl, rfl, by decide, rfl, Or.inl (gin 241 (by decide +kernel) rfl), uwX2, tyX2_ok, nmX2⟩
theorem fX5_36 : FD RX5 36 2 0 := ⟨RX2, TX2, 10, rfl, rfl, by decide, rfl, Or.inr ⟨"SlotHouse", nin 242 (by decide +kernel) rfl⟩, uwX2, tyX2_ok, nmX2⟩
theorem fX3_56 : FD RX3 56 2 0 := ⟨RX2, TX2, 10, rfl, rfl, by decide, rfl, Or.inr ⟨"SlotHouse", nin 243 (by decide +kernel) rfl⟩, uwX2, tyX2_ok, nmX2⟩
theorem fX6_180 : FD RX6 180 2 0 := ⟨RX2, TX2, 10, rfl, rfl, by decide, rfl, Or.inr ⟨"SlotHouse", nin 244 (by decide +kernel) rfl⟩, uwX2, tyX2_ok, nmX2⟩
theorem fX2_18 : FD RX2 18 2 1 := ⟨RX2, TX2, 10, rfl, rfl, by decide, rfl, Or.inl (gin 245 (by decide +kernel) rfl), uwX2, tyX2_ok, nmX2⟩
theorem fX5_74 : FD RX5 74 2 1 := ⟨RX2, TX2, 10, rfl, rfl, by decide, rfl, Or.inr ⟨"SlotHouse", nin 246 (by decide +kernel) rfl⟩, uwX2, tyX2_ok, nmX2⟩
theorem fX6_126 : FD RX6 126 2 1 := ⟨RX2, TX2, 10, rfl, rfl, by decide, rfl, Or.inr ⟨"SlotHouse", nin 247 (by decide +kernel) rfl⟩, uwX2, tyX2_ok, nmX2⟩
theorem fX2_21 : FD RX2 21 2 2 := ⟨RX2, TX2, 10, rfl, rfl, by decide, rfl, Or.inl (gin 248 (by decide +kernel) rfl), uwX2, tyX2_ok, nmX2⟩
theorem fX3_53 : FD RX3 53 2 2 := ⟨RX2, TX2, 10, rfl, rfl, by decide, rfl, Or.inr ⟨"SlotHouse", nin 249 (by decide +kernel) rfl⟩, uwX2, tyX2_ok, nmX2⟩
theorem fX6_104 : FD RX6 104 2 2 := ⟨RX2, TX2, 10, rfl, rfl, by decide, rfl, Or.inr ⟨"SlotHouse", nin 250 (by decide +kernel) rfl⟩, uwX2, tyX2_ok, nmX2⟩
theorem fX2_24 : FD RX2 24 2 3 := ⟨RX2, TX2, 10, rfl, rfl, by decide, rfl, Or.inl (gin 251 (by decide +kernel) rfl), uwX2, tyX2_ok, nmX2⟩
theorem fX2_15 : FD RX2 15 2 4 := ⟨RX2, TX2, 10, rfl, rfl, by decide, rfl, Or.inl (gin 252 (by decide +kernel) rfl), uwX2, tyX2_ok, nmX2⟩
theorem fX6_85 : FD RX6 85 2 4 := ⟨RX2, TX2, 10, rfl, rfl, by decide, rfl, Or.inr ⟨"SlotHouse", nin 253 (by decide +kernel) rfl⟩, uwX2, tyX2_ok, nmX2⟩
theorem fX5_67 : FD RX5 67 2 4 := ⟨RX2, TX2, 10, rfl, rfl, by decide, rfl, Or.inr ⟨"SlotHouse", nin 254 (by decide +kernel) rfl⟩, uwX2, tyX2_ok, nmX2⟩
theorem fX2_40 : FD RX2 40 2 5 := ⟨RX2, TX2, 10, rfl, rfl, by decide, rfl, Or.inl (gin 255 (by decide +kernel) rfl), uwX2, tyX2_ok, nmX2⟩
theorem fX3_50 : FD RX3 50 2 5 := ⟨RX2, TX2, 10, rfl, rfl, by decide, rfl, Or.inr ⟨"SlotHouse", nin 256 (by decide +kernel) rfl⟩, uwX2, tyX2_ok, nmX2⟩
theorem fX5_77 : FD RX5 77 2 5 := ⟨RX2, TX2, 10, rfl, rfl, by decide, rfl, Or.inr ⟨"SlotHouse", nin 257 (by decide +kernel) rfl⟩, uwX2, tyX2_ok, nmX2⟩
theorem fX6_129 : FD RX6 129 2 5 := ⟨RX2, TX2, 10, rfl, rfl, by decide, rfl, Or.inr ⟨"SlotHouse", nin 258 (by decide +kernel) rfl⟩, uwX2, tyX2_ok, nmX2⟩
theorem fX2_34 : FD RX2 34 2 6 := ⟨RX2, TX2, 10, rfl, rfl, by decide, rfl, Or.inl (gin 259 (by decide +kernel) rfl), uwX2, tyX2_ok, nmX2⟩
theorem fX6_107 : FD RX6 107 2 6 := ⟨RX2, TX2, 10, rfl, rfl, by decide, rfl, Or.inr ⟨"SlotHouse", nin 260 (by decide +kernel) rfl⟩, uwX2, tyX2_ok, nmX2⟩
theorem fX2_37 : FD RX2 37 2 7 := ⟨RX2, TX2, 10, rfl, rfl, by decide, rfl, Or.inl (gin 261 (by decide +kernel) rfl), uwX2, tyX2_ok, nmX2⟩
theorem fX6_114 : FD RX6 114 2 7 := ⟨RX2, TX2, 10, rfl, rfl, by decide, rfl, Or.inr ⟨"SlotHouse", nin 262 (by decide +kernel) rfl⟩, uwX2, tyX2_ok, nmX2⟩
theorem fX2_27 : FD RX2 27 2 8 := ⟨RX2, TX2, 10, rfl, rfl, by decide, rfl, Or.inl (gin 263 (by decide +kernel) rfl), uwX2, tyX2_ok, nmX2⟩
theorem fX6_110 : FD RX6 110 2 8 := ⟨RX2, TX2, 10, rfl, rfl, by decide, rfl, Or.inr ⟨"SlotHouse", nin 264 (by decide +kernel) rfl⟩, uwX2, tyX2_ok, nmX2⟩
theorem fX2_31 : FD RX2 31 2 9 := ⟨RX2, TX2, 10, rfl, rfl, by decide, rfl, Or.inl (gin 265 (by decide +kernel) rfl), uwX2, tyX2_ok, nmX2⟩
theorem fX6_123 : FD RX6 123 2 9 := ⟨RX2, TX2, 10, rfl, rfl, by decide, rfl, Or.inr ⟨"SlotHouse", nin 266 (by decide +kernel) rfl⟩, uwX2, tyX2_ok, nmX2⟩
theorem fX7_153 : FD RX7 153 7 0 := ⟨RX7, TX7, 34, rfl, rfl, by decide, rfl, Or.inl (gin 566 (by decide +kernel) rfl), uwX7, tyX7_ok, nmX7⟩
theorem fX7_104 : FD RX7 104 7 1 := ⟨RX7, TX7, 34, rfl, rfl, by decide, rfl, Or.inl (gin 567 (by decide +kernel) rfl), uwX7, tyX7_ok, nmX7⟩
theorem fX7_7 : FD RX7 7 7 2 := ⟨RX7, TX7, 34, rfl, rfl, by decide, rfl, Or.inl (gin 568 (by decide +kernel) rfl), uwX7, tyX7_ok, nmX7⟩
theorem fX7_13 : FD RX7 13 7 3 := ⟨RX7, TX7, 34, rfl, rfl, by decide, rfl, Or.inl (gin 569 (by decide +kernel) rfl), uwX7, tyX7_ok, nmX7⟩
theorem fX7_16 : FD RX7 16 7 4 := ⟨RX7, TX7, 34, rfl, rfl, by decide, rfl, Or.inl (gin 570 (by decide +kernel) rfl), uwX7, tyX7_ok, nmX7⟩
theorem fX7_19 : FD RX7 19 7 5 := ⟨RX7, TX7, 34, rfl, rfl, by decide, rfl, Or.inl (gin 571 (by decide +kernel) rfl), uwX7, tyX7_ok, nmX7⟩
theorem fX7_22 : FD RX7 22 7 6 := ⟨RX7, TX7, 34, rfl, rfl, by decide, rfl, Or.inl (gin 572 (by decide +kernel) rfl), uwX7, tyX7_ok, nmX7⟩
theorem fX7_25 : FD RX7 25 7 7 := ⟨RX7, TX7, 34, rfl, rfl, by decide, rfl, Or.inl (gin 573 (by decide +kernel) rfl), uwX7, tyX7_ok, nmX7⟩
theorem fX7_28 : FD RX7 28 7 8 := ⟨RX7, TX7, 34, rfl, rfl, by decide, rfl, Or.inl (gin 574 (by decide +kernel) rfl), uwX7, tyX7_ok, nmX7⟩
theorem fX7_32 : FD RX7 32 7 9 := ⟨RX7, TX7, 34, rfl, rfl, by decide, rfl, Or.inl (gin 575 (by decide +kernel) rfl), uwX7, tyX7_ok, nmX7⟩
theorem fX7_35 : FD RX7 35 7 10 := ⟨RX7, TX7, 34, rfl, rfl, by decide, rfl, Or.inl (gin 576 (by decide +kernel) rfl), uwX7, tyX7_ok, nmX7⟩
theorem fX7_38 : FD RX7 38 7 11 := ⟨RX7, TX7, 34, rfl, rfl, by decide, rfl, Or.inl (gin 577 (by decide +kernel) rfl), uwX7, tyX7_ok, nmX7⟩
theorem fX7_41 : FD RX7 41 7 12 := ⟨RX7, TX7, 34, rfl, rfl, by decide, rfl, Or.inl (gin 578 (by decide +kernel) rfl), uwX7, tyX7_ok, nmX7⟩
theorem fX7_44 : FD RX7 44 7 13 := ⟨RX7, TX7, 34, rfl, rfl, by decide, rfl, Or.inl (gin 579 (by decide +kernel) rfl), uwX7, tyX7_ok, nmX7⟩
theorem fX7_47 : FD RX7 47 7 14 := ⟨RX7, TX7, 34, rfl, rfl, by decide, rfl, Or.inl (gin 580 (by decide +kernel) rfl), uwX7, tyX7_ok, nmX7⟩
theorem fX7_50 : FD RX7 50 7 15 := ⟨RX7, TX7, 34, rfl, rfl, by decide, rfl, Or.inl (gin 581 (by decide +kernel) rfl), uwX7, tyX7_ok, nmX7⟩
theorem fX7_53 : FD RX7 53 7 16 := ⟨RX7, TX7, 34, rfl, rfl, by decide, rfl, Or.inl (gin 582 (by decide +kernel) rfl), uwX7, tyX7_ok, nmX7⟩
theorem fX7_56 : FD RX7 56 7 17 := ⟨RX7, TX7, 34, rfl, rfl, by decide, rfl, Or.inl (gin 583 (by decide +kernel) rfl), uwX7, tyX7_ok, nmX7⟩
theorem fX7_59 : FD RX7 59 7 18 := ⟨RX7, TX7, 34, rfl, rfl, by decide, rfl, Or.inl (gin 584 (by decide +kernel) rfl), uwX7, tyX7_ok, nmX7⟩
theorem fX7_62 : FD RX7 62 7 19 := ⟨RX7, TX7, 34, rfl, rfl, by decide, rfl, Or.inl (gin 585 (by decide +kernel) rfl), uwX7, tyX7_ok, nmX7⟩
theorem fX7_65 : FD RX7 65 7 20 := ⟨RX7, TX7, 34, rfl, rfl, by decide, rfl, Or.inl (gin 586 (by decide +kernel) rfl), uwX7, tyX7_ok, nmX7⟩
theorem fX7_68 : FD RX7 68 7 21 := ⟨RX7, TX7, 34, rfl, rfl, by decide, rfl, Or.inl (gin 587 (by decide +kernel) rfl), uwX7, tyX7_ok, nmX7⟩
theorem fX7_71 : FD RX7 71 7 22 := ⟨RX7, TX7, 34, rfl, rfl, by decide, rfl, Or.inl (gin 588 (by decide +kernel) rfl), uwX7, tyX7_ok, nmX7⟩
theorem fX7_74 : FD RX7 74 7 23 := ⟨RX7, TX7, 34, rfl, rfl, by decide, rfl, Or.inl (gin 589 (by decide +kernel) rfl), uwX7, tyX7_ok, nmX7⟩
theorem fX7_77 : FD RX7 77 7 24 := ⟨RX7, TX7, 34, rfl, rfl, by decide, rfl, Or.inl (gin 590 (by decide +kernel) rfl), uwX7, tyX7_ok, nmX7⟩
theorem fX7_80 : FD RX7 80 7 25 := ⟨RX7, TX7, 34, rfl, rfl, by decide, rfl, Or.inl (gin 591 (by decide +kernel) rfl), uwX7, tyX7_ok, nmX7⟩
theorem fX7_83 : FD RX7 83 7 26 := ⟨RX7, TX7, 34, rfl, rfl, by decide, rfl, Or.inl (gin 592 (by decide +kernel) rfl), uwX7, tyX7_ok, nmX7⟩
theorem fX7_150 : FD RX7 150 7 27 := ⟨RX7, TX7, 34, rfl, rfl, by decide, rfl, Or.inl (gin 593 (by decide +kernel) rfl), uwX7, tyX7_ok, nmX7⟩
theorem fX7_86 : FD RX7 86 7 28 := ⟨RX7, TX7, 34, rfl, rfl, by decide, rfl, Or.inl (gin 594 (by decide +kernel) rfl), uwX7, tyX7_ok, nmX7⟩
theorem fX7_89 : FD RX7 89 7 29 := ⟨RX7, TX7, 34, rfl, rfl, by decide, rfl, Or.inl (gin 595 (by decide +kernel) rfl), uwX7, tyX7_ok, nmX7⟩
theorem fX7_92 : FD RX7 92 7 30 := ⟨RX7, TX7, 34, rfl, rfl, by decide, rfl, Or.inl (gin 596 (by decide +kernel) rfl), uwX7, tyX7_ok, nmX7⟩
theorem fX7_95 : FD RX7 95 7 31 := ⟨RX7, TX7, 34, rfl, rfl, by decide, rfl, Or.inl (gin 597 (by decide +kernel) rfl), uwX7, tyX7_ok, nmX7⟩
theorem fX7_98 : FD RX7 98 7 32 := ⟨RX7, TX7, 34, rfl, rfl, by decide, rfl, Or.inl (gin 598 (by decide +kernel) rfl), uwX7, tyX7_ok, nmX7⟩
theorem fX7_101 : FD RX7 101 7 33 := ⟨RX7, TX7, 34, rfl, rfl, by decide, rfl, Or.inl (gin 599 (by decide +kernel) rfl), uwX7, tyX7_ok, nmX7⟩
theorem fi0_0 : ∀ (C0 : String) (T : u_T) (N : Nat), vwCl[0]? = some (C0, T, N) → C0 = RX0 ∧ (T 0).2.2.2 = true := fun C0 T N h => by cases h; exact ⟨rfl, rfl⟩
theorem fi0_1 : ∀ (C0 : String) (T : u_T) (N : Nat), vwCl[0]? = some (C0, T, N) → C0 = RX0 ∧ (T 1).2.2.2 = true := fun C0 T N h => by cases h; exact ⟨rfl, rfl⟩
theorem fi1_0 : ∀ (C0 : String) (T : u_T) (N : Nat), vwCl[1]? = some (C0, T, N) → C0 = RX1 ∧ (T 0).2.2.2 = true := fun C0 T N h => by cases h; exact ⟨rfl, rfl⟩
theorem fi1_1 : ∀ (C0 : String) (T : u_T) (N : Nat), vwCl[1]? = some (C0, T, N) → C0 = RX1 ∧ (T 1).2.2.2 = true := fun C0 T N h => by cases h; exact ⟨rfl, rfl⟩
theorem fi2_0 : ∀ (C0 : String) (T : u_T) (N : Nat), vwCl[2]? = some (C0, T, N) → C0 = RX2 ∧ (T 0).2.2.2 = true := fun C0 T N h => by cases h; exact ⟨rfl, rfl⟩
theorem fi2_1 : ∀ (C0 : String) (T : u_T) (N : Nat), vwCl[2]? = some (C0, T, N) → C0 = RX2 ∧ (T 1).2.2.2 = true := fun C0 T N h => by cases h; exact ⟨rfl, rfl⟩
theorem fi2_2 : ∀ (C0 : String) (T : u_T) (N : Nat), vwCl[2]? = some (C0, T, N) → C0 = RX2 ∧ (T 2).2.2.2 = true := fun C0 T N h => by cases h; exact ⟨rfl, rfl⟩
theorem fi2_3 : ∀ (C0 : String) (T : u_T) (N : Nat), vwCl[2]? = some (C0, T, N) → C0 = RX2 ∧ (T 3).2.2.2 = true := fun C0 T N h => by cases h; exact ⟨rfl, rfl⟩
theorem fm2_4 : FM 2 4 := fun C0 T N h => by cases h; rfl
theorem fm2_5 : FM 2 5 := fun C0 T N h => by cases h; rfl
theorem fm2_6 : FM 2 6 := fun C0 T N h => by cases h; rfl
theorem fm2_7 : FM 2 7 := fun C0 T N h => by cases h; rfl
theorem fm2_8 : FM 2 8 := fun C0 T N h => by cases h; rfl
theorem fm2_9 : FM 2 9 := fun C0 T N h => by cases h; rfl
theorem fi3_0 : ∀ (C0 : String) (T : u_T) (N : Nat), vwCl[3]? = some (C0, T, N) → C0 = RX3 ∧ (T 0).2.2.2 = true := fun C0 T N h => by cases h; exact ⟨rfl, rfl⟩
theorem fi3_1 : ∀ (C0 : String) (T : u_T) (N : Nat), vwCl[3]? = some (C0, T, N) → C0 = RX3 ∧ (T 1).2.2.2 = true := fun C0 T N h => by cases h; exact ⟨rfl, rfl⟩
theorem fi3_2 : ∀ (C0 : String) (T : u_T) (N : Nat), vwCl[3]? = some (C0, T, N) → C0 = RX3 ∧ (T 2).2.2.2 = true := fun C0 T N h => by cases h; exact ⟨rfl, rfl⟩
theorem fm3_3 : FM 3 3 := fun C0 T N h => by cases h; rfl
theorem fm3_4 : FM 3 4 := fun C0 T N h => by cases h; rfl
theorem fm3_5 : FM 3 5 := fun C0 T N h => by cases h; rfl
theorem fm3_6 : FM 3 6 := fun C0 T N h => by cases h; rfl
theorem fm3_7 : FM 3 7 := fun C0 T N h => by cases h; rfl
theorem fm3_8 : FM 3 8 := fun C0 T N h => by cases h; rfl
theorem fm3_9 : FM 3 9 := fun C0 T N h => by cases h; rfl
theorem fi4_0 : ∀ (C0 : String) (T : u_T) (N : Nat), vwCl[4]? = some (C0, T, N) → C0 = RX4 ∧ (T 0).2.2.2 = true := fun C0 T N h => by cases h; exact ⟨rfl, rfl⟩
theorem fi4_1 : ∀ (C0 : String) (T : u_T) (N : Nat), vwCl[4]? = some (C0, T, N) → C0 = RX4 ∧ (T 1).2.2.2 = true := fun C0 T N h => by cases h; exact ⟨rfl, rfl⟩
theorem fi4_2 : ∀ (C0 : String) (T : u_T) (N : Nat), vwCl[4]? = some (C0, T, N) → C0 = RX4 ∧ (T 2).2.2.2 = true := fun C0 T N h => by cases h; exact ⟨rfl, rfl⟩
theorem fi4_3 : ∀ (C0 : String) (T : u_T) (N : Nat), vwCl[4]? = some (C0, T, N) → C0 = RX4 ∧ (T 3).2.2.2 = true := fun C0 T N h => by cases h; exact ⟨rfl, rfl⟩
theorem fi4_4 : ∀ (C0 : String) (T : u_T) (N : Nat), vwCl[4]? = some (C0, T, N) → C0 = RX4 ∧ (T 4).2.2.2 = true := fun C0 T N h => by cases h; exact ⟨rfl, rfl⟩
theorem fi4_5 : ∀ (C0 : String) (T : u_T) (N : Nat), vwCl[4]? = some (C0, T, N) → C0 = RX4 ∧ (T 5).2.2.2 = true := fun C0 T N h => by cases h; exact ⟨rfl, rfl⟩
theorem fi4_6 : ∀ (C0 : String) (T : u_T) (N : Nat), vwCl[4]? = some (C0, T, N) → C0 = RX4 ∧ (T 6).2.2.2 = true := fun C0 T N h => by cases h; exact ⟨rfl, rfl⟩
theorem fm4_7 : FM 4 7 := fun C0 T N h => by cases h; rfl
theorem fi5_0 : ∀ (C0 : String) (T : u_T) (N : Nat), vwCl[5]? = some (C0, T, N) → C0 = RX5 ∧ (T 0).2.2.2 = true := fun C0 T N h => by cases h; exact ⟨rfl, rfl⟩
theorem fi5_1 : ∀ (C0 : String) (T : u_T) (N : Nat), vwCl[5]? = some (C0, T, N) → C0 = RX5 ∧ (T 1).2.2.2 = true := fun C0 T N h => by cases h; exact ⟨rfl, rfl⟩
theorem fi6_0 : ∀ (C0 : String) (T : u_T) (N : Nat), vwCl[6]? = some (C0, T, N) → C0 = RX6 ∧ (T 0).2.2.2 = true := fun C0 T N h => by cases h; exact ⟨rfl, rfl⟩
theorem fi6_1 : ∀ (C0 : String) (T : u_T) (N : Nat), vwCl[6]? = some (C0, T, N) → C0 = RX6 ∧ (T 1).2.2.2 = true := fun C0 T N h => by cases h; exact ⟨rfl, rfl⟩
theorem fi6_2 : ∀ (C0 : String) (T : u_T) (N : Nat), vwCl[6]? = some (C0, T, N) → C0 = RX6 ∧ (T 2).2.2.2 = true := fun C0 T N h => by cases h; exact ⟨rfl, rfl⟩
theorem fi6_3 : ∀ (C0 : String) (T : u_T) (N : Nat), vwCl[6]? = some (C0, T, N) → C0 = RX6 ∧ (T 3).2.2.2 = true := fun C0 T N h => by cases h; exact ⟨rfl, rfl⟩
theorem fi6_4 : ∀ (C0 : String) (T : u_T) (N : Nat), vwCl[6]? = some (C0, T, N) → C0 = RX6 ∧ (T 4).2.2.2 = true := fun C0 T N h => by cases h; exact ⟨rfl, rfl⟩
theorem fi6_5 : ∀ (C0 : String) (T : u_T) (N : Nat), vwCl[6]? = some (C0, T, N) → C0 = RX6 ∧ (T 5).2.2.2 = true := fun C0 T N h => by cases h; exact ⟨rfl, rfl⟩
theorem fm6_6 : FM 6 6 := fun C0 T N h => by cases h; rfl
theorem fm6_7 : FM 6 7 := fun C0 T N h => by cases h; rfl
theorem fm6_8 : FM 6 8 := fun C0 T N h => by cases h; rfl
theorem fm7_0 : FM 7 0 := fun C0 T N h => by cases h; rfl
theorem fm7_1 : FM 7 1 := fun C0 T N h => by cases h; rfl
theorem fi7_2 : ∀ (C0 : String) (T : u_T) (N : Nat), vwCl[7]? = some (C0, T, N) → C0 = RX7 ∧ (T 2).2.2.2 = true := fun C0 T N h => by cases h; exact ⟨rfl, rfl⟩
theorem fi7_3 : ∀ (C0 : String) (T : u_T) (N : Nat), vwCl[7]? = some (C0, T, N) → C0 = RX7 ∧ (T 3).2.2.2 = true := fun C0 T N h => by cases h; exact ⟨rfl, rfl⟩
theorem fi7_4 : ∀ (C0 : String) (T : u_T) (N : Nat), vwCl[7]? = some (C0, T, N) → C0 = RX7 ∧ (T 4).2.2.2 = true := fun C0 T N h => by cases h; exact ⟨rfl, rfl⟩
theorem fi7_5 : ∀ (C0 : String) (T : u_T) (N : Nat), vwCl[7]? = some (C0, T, N) → C0 = RX7 ∧ (T 5).2.2.2 = true := fun C0 T N h => by cases h; exact ⟨rfl, rfl⟩
theorem fi7_6 : ∀ (C0 : String) (T : u_T) (N : Nat), vwCl[7]? = some (C0, T, N) → C0 = RX7 ∧ (T 6).2.2.2 = true := fun C0 T N h => by cases h; exact ⟨rfl, rfl⟩
theorem fi7_7 : ∀ (C0 : String) (T : u_T) (N : Nat), vwCl[7]? = some (C0, T, N) → C0 = RX7 ∧ (T 7).2.2.2 = true := fun C0 T N h => by cases h; exact ⟨rfl, rfl⟩
theorem fi7_8 : ∀ (C0 : String) (T : u_T) (N : Nat), vwCl[7]? = some (C0, T, N) → C0 = RX7 ∧ (T 8).2.2.2 = true := fun C0 T N h => by cases h; exact ⟨rfl, rfl⟩
theorem fi7_9 : ∀ (C0 : String) (T : u_T) (N : Nat), vwCl[7]? = some (C0, T, N) → C0 = RX7 ∧ (T 9).2.2.2 = true := fun C0 T N h => by cases h; exact ⟨rfl, rfl⟩
theorem fi7_10 : ∀ (C0 : String) (T : u_T) (N : Nat), vwCl[7]? = some (C0, T, N) → C0 = RX7 ∧ (T 10).2.2.2 = true := fun C0 T N h => by cases h; exact ⟨rfl, rfl⟩
theorem fi7_11 : ∀ (C0 : String) (T : u_T) (N : Nat), vwCl[7]? = some (C0, T, N) → C0 = RX7 ∧ (T 11).2.2.2 = true := fun C0 T N h => by cases h; exact ⟨rfl, rfl⟩
theorem fi7_12 : ∀ (C0 : String) (T : u_T) (N : Nat), vwCl[7]? = some (C0, T, N) → C0 = RX7 ∧ (T 12).2.2.2 = true := fun C0 T N h => by cases h; exact ⟨rfl, rfl⟩
theorem fi7_13 : ∀ (C0 : String) (T : u_T) (N : Nat), vwCl[7]? = some (C0, T, N) → C0 = RX7 ∧ (T 13).2.2.2 = true := fun C0 T N h => by cases h; exact ⟨rfl, rfl⟩
theorem fi7_14 : ∀ (C0 : String) (T : u_T) (N : Nat), vwCl[7]? = some (C0, T, N) → C0 = RX7 ∧ (T 14).2.2.2 = true := fun C0 T N h => by cases h; exact ⟨rfl, rfl⟩
theorem fi7_15 : ∀ (C0 : String) (T : u_T) (N : Nat), vwCl[7]? = some (C0, T, N) → C0 = RX7 ∧ (T 15).2.2.2 = true := fun C0 T N h => by cases h; exact ⟨rfl, rfl⟩
theorem fi7_16 : ∀ (C0 : String) (T : u_T) (N : Nat), vwCl[7]? = some (C0, T, N) → C0 = RX7 ∧ (T 16).2.2.2 = true := fun C0 T N h => by cases h; exact ⟨rfl, rfl⟩
theorem fi7_17 : ∀ (C0 : String) (T : u_T) (N : Nat), vwCl[7]? = some (C0, T, N) → C0 = RX7 ∧ (T 17).2.2.2 = true := fun C0 T N h => by cases h; exact ⟨rfl, rfl⟩
theorem fi7_18 : ∀ (C0 : String) (T : u_T) (N : Nat), vwCl[7]? = some (C0, T, N) → C0 = RX7 ∧ (T 18).2.2.2 = true := fun C0 T N h => by cases h; exact ⟨rfl, rfl⟩
theorem fi7_19 : ∀ (C0 : String) (T : u_T) (N : Nat), vwCl[7]? = some (C0, T, N) → C0 = RX7 ∧ (T 19).2.2.2 = true := fun C0 T N h => by cases h; exact ⟨rfl, rfl⟩
theorem fi7_20 : ∀ (C0 : String) (T : u_T) (N : Nat), vwCl[7]? = some (C0, T, N) → C0 = RX7 ∧ (T 20).2.2.2 = true := fun C0 T N h => by cases h; exact ⟨rfl, rfl⟩
theorem fi7_21 : ∀ (C0 : String) (T : u_T) (N : Nat), vwCl[7]? = some (C0, T, N) → C0 = RX7 ∧ (T 21).2.2.2 = true := fun C0 T N h => by cases h; exact ⟨rfl, rfl⟩
theorem fi7_22 : ∀ (C0 : String) (T : u_T) (N : Nat), vwCl[7]? = some (C0, T, N) → C0 = RX7 ∧ (T 22).2.2.2 = true := fun C0 T N h => by cases h; exact ⟨rfl, rfl⟩
theorem fi7_23 : ∀ (C0 : String) (T : u_T) (N : Nat), vwCl[7]? = some (C0, T, N) → C0 = RX7 ∧ (T 23).2.2.2 = true := fun C0 T N h => by cases h; exact ⟨rfl, rfl⟩
theorem fi7_24 : ∀ (C0 : String) (T : u_T) (N : Nat), vwCl[7]? = some (C0, T, N) → C0 = RX7 ∧ (T 24).2.2.2 = true := fun C0 T N h => by cases h; exact ⟨rfl, rfl⟩
theorem fi7_25 : ∀ (C0 : String) (T : u_T) (N : Nat), vwCl[7]? = some (C0, T, N) → C0 = RX7 ∧ (T 25).2.2.2 = true := fun C0 T N h => by cases h; exact ⟨rfl, rfl⟩
theorem fi7_26 : ∀ (C0 : String) (T : u_T) (N : Nat), vwCl[7]? = some (C0, T, N) → C0 = RX7 ∧ (T 26).2.2.2 = true := fun C0 T N h => by cases h; exact ⟨rfl, rfl⟩
theorem fm7_27 : FM 7 27 := fun C0 T N h => by cases h; rfl
theorem fi7_28 : ∀ (C0 : String) (T : u_T) (N : Nat), vwCl[7]? = some (C0, T, N) → C0 = RX7 ∧ (T 28).2.2.2 = true := fun C0 T N h => by cases h; exact ⟨rfl, rfl⟩
theorem fi7_29 : ∀ (C0 : String) (T : u_T) (N : Nat), vwCl[7]? = some (C0, T, N) → C0 = RX7 ∧ (T 29).2.2.2 = true := fun C0 T N h => by cases h; exact ⟨rfl, rfl⟩
theorem fi7_30 : ∀ (C0 : String) (T : u_T) (N : Nat), vwCl[7]? = some (C0, T, N) → C0 = RX7 ∧ (T 30).2.2.2 = true := fun C0 T N h => by cases h; exact ⟨rfl, rfl⟩
theorem fi7_31 : ∀ (C0 : String) (T : u_T) (N : Nat), vwCl[7]? = some (C0, T, N) → C0 = RX7 ∧ (T 31).2.2.2 = true := fun C0 T N h => by cases h; exact ⟨rfl, rfl⟩
theorem fi7_32 : ∀ (C0 : String) (T : u_T) (N : Nat), vwCl[7]? = some (C0, T, N) → C0 = RX7 ∧ (T 32).2.2.2 = true := fun C0 T N h => by cases h; exact ⟨rfl, rfl⟩
theorem fi7_33 : ∀ (C0 : String) (T : u_T) (N : Nat), vwCl[7]? = some (C0, T, N) → C0 = RX7 ∧ (T 33).2.2.2 = true := fun C0 T N h => by cases h; exact ⟨rfl, rfl⟩
theorem mL_9 : MI RL 9 yX6_init cX6_init 1 0 := ⟨Or.inl (gin 38 (by decide +kernel) rfl), rfl, gin 39 (by decide +kernel) rfl, gin 25 (by decide +kernel) rfl, gin 40 (by decide +kernel) rfl, by unfold plainY; decide +kernel⟩
theorem mX6_19 : MS RX6 19 yJ7_fill_53178 cJ7_fill_53178 4 (none) 2 := ⟨Or.inl (gin 46 (by decide +kernel) rfl), gin 47 (by decide +kernel) rfl, gin 26 (by decide +kernel) rfl, gin 48 (by decide +kernel) rfl, by unfold plainY; decide +kernel⟩
theorem mX6_36 : MI RX6 36 yX0_init cX0_init 1 0 := ⟨Or.inr ⟨"SlotHouse", nin 53 (by decide +kernel) rfl⟩, rfl, gin 54 (by decide +kernel) rfl, gin 27 (by decide +kernel) rfl, gin 55 (by decide +kernel) rfl, by unfold plainY; decide +kernel⟩
theorem mX6_43 : MI RX6 43 yX5_init cX5_init 1 0 := ⟨Or.inr ⟨"SlotHouse", nin 69 (by decide +kernel) rfl⟩, rfl, gin 70 (by decide +kernel) rfl, gin 28 (by decide +kernel) rfl, gin 71 (by decide +kernel) rfl, by unfold plainY; decide +kernel⟩
theorem mL_13 : MV RL 13 yX6_machine cX6_machine 1 (some Jvm.ClassFile.FieldType.int) 0 := ⟨Or.inl (gin 110 (by decide +kernel) rfl), gin 111 (by decide +kernel) rfl, gin 112 (by decide +kernel) rfl, gin 25 (by decide +kernel) rfl, gin 113 (by decide +kernel) rfl, by unfold plainY; decide +kernel⟩
theorem mX6_52 : MV RX6 52 yX6_refuse cX6_refuse 3 (some Jvm.ClassFile.FieldType.int) 1 := ⟨Or.inl (gin 114 (by decide +kernel) rfl), gin 116 (by decide +kernel) rfl, gin 0 (by decide +kernel) rfl, gin 25 (by decide +kernel) rfl, gin 117 (by decide +kernel) rfl, by unfold plainY; decide +kernel⟩
theorem mX6_56 : MI RX6 56 yX3_init cX3_init 1 0 := ⟨Or.inr ⟨"SlotHouse", nin 119 (by decide +kernel) rfl⟩, rfl, gin 120 (by decide +kernel) rfl, gin 30 (by decide +kernel) rfl, gin 121 (by decide +kernel) rfl, by unfold plainY; decide +kernel⟩
theorem mX3_19 : MI RX3 19 yX4_init cX4_init 1 0 := ⟨Or.inr ⟨"SlotHouse", nin 127 (by decide +kernel) rfl⟩, rfl, gin 128 (by decide +kernel) rfl, gin 31 (by decide +kernel) rfl, gin 129 (by decide +kernel) rfl, by unfold plainY; decide +kernel⟩
theorem mX3_26 : MI RX3 26 yX1_init cX1_init 1 0 := ⟨Or.inr ⟨"SlotHouse", nin 165 (by decide +kernel) rfl⟩, rfl, gin 166 (by decide +kernel) rfl, gin 32 (by decide +kernel) rfl, gin 167 (by decide +kernel) rfl, by unfold plainY; decide +kernel⟩
theorem mL_18 : MV RL 18 yX6_lane cX6_lane 9 (some Jvm.ClassFile.FieldType.int) 6 := ⟨Or.inl (gin 217 (by decide +kernel) rfl), gin 218 (by decide +kernel) rfl, gin 219 (by decide +kernel) rfl, gin 25 (by decide +kernel) rfl, gin 220 (by decide +kernel) rfl, by unfold plainY; decide +kernel⟩
theorem mX6_57 : MV RX6 57 yX6_machineAt cX6_machineAt 2 (some (Jvm.ClassFile.FieldType.object "SlotHouse$Machine")) 1 := ⟨Or.inl (gin 221 (by decide +kernel) rfl), gin 223 (by decide +kernel) rfl, gin 1 (by decide +kernel) rfl, gin 25 (by decide +kernel) rfl, gin 224 (by decide +kernel) rfl, by unfold plainY; decide +kernel⟩
theorem mX6_61 : MS RX6 61 yX6_isGood cX6_isGood 1 (some Jvm.ClassFile.FieldType.boolean) 1 := ⟨Or.inl (gin 225 (by decide +kernel) rfl), gin 226 (by decide +kernel) rfl, gin 25 (by decide +kernel) rfl, gin 227 (by decide +kernel) rfl, by unfold plainY; decide +kernel⟩
theorem mX6_65 : MS RX6 65 yX6_isPriceBelow cX6_isPriceBelow 1 (some Jvm.ClassFile.FieldType.boolean) 1 := ⟨Or.inl (gin 228 (by decide +kernel) rfl), gin 229 (by decide +kernel) rfl, gin 25 (by decide +kernel) rfl, gin 230 (by decide +kernel) rfl, by unfold plainY; decide +kernel⟩
theorem mX6_68 : MV RX6 68 yX3_isFull cX3_isFull 1 (some Jvm.ClassFile.FieldType.boolean) 0 := ⟨Or.inl (gin 231 (by decide +kernel) rfl), gin 232 (by decide +kernel) rfl, gin 233 (by decide +kernel) rfl, gin 30 (by decide +kernel) rfl, gin 234 (by decide +kernel) rfl, by unfold plainY; decide +kernel⟩
theorem mX6_74 : MI RX6 74 yX2_init cX2_init 6 5 := ⟨Or.inl (gin 237 (by decide +kernel) rfl), rfl, gin 238 (by decide +kernel) rfl, gin 33 (by decide +kernel) rfl, gin 239 (by decide +kernel) rfl, by unfold plainY; decide +kernel⟩
theorem mX6_77 : MV RX6 77 yX3_addLane cX3_addLane 2 (some Jvm.ClassFile.FieldType.int) 1 := ⟨Or.inl (gin 288 (by decide +kernel) rfl), gin 289 (by decide +kernel) rfl, gin 290 (by decide +kernel) rfl, gin 30 (by decide +kernel) rfl, gin 291 (by decide +kernel) rfl, by unfold plainY; decide +kernel⟩
theorem mX3_39 : MV RX3 39 yX3_isFull cX3_isFull 1 (some Jvm.ClassFile.FieldType.boolean) 0 := ⟨Or.inl (gin 292 (by decide +kernel) rfl), gin 232 (by decide +kernel) rfl, gin 233 (by decide +kernel) rfl, gin 30 (by decide +kernel) rfl, gin 234 (by decide +kernel) rfl, by unfold plainY; decide +kernel⟩
theorem mL_23 : MV RL 23 yX6_size cX6_size 4 (some Jvm.ClassFile.FieldType.int) 2 := ⟨Or.inl (gin 293 (by decide +kernel) rfl), gin 294 (by decide +kernel) rfl, gin 295 (by decide +kernel) rfl, gin 25 (by decide +kernel) rfl, gin 296 (by decide +kernel) rfl, by unfold plainY; decide +kernel⟩
theorem mL_28 : MV RL 28 yX6_price cX6_price 6 (some Jvm.ClassFile.FieldType.int) 3 := ⟨Or.inl (gin 297 (by decide +kernel) rfl), gin 298 (by decide +kernel) rfl, gin 299 (by decide +kernel) rfl, gin 25 (by decide +kernel) rfl, gin 300 (by decide +kernel) rfl, by unfold plainY; decide +kernel⟩
theorem mX6_81 : MV RX6 81 yX6_laneAt cX6_laneAt 4 (some (Jvm.ClassFile.FieldType.object "SlotHouse$Lane")) 2 := ⟨Or.inl (gin 301 (by decide +kernel) rfl), gin 303 (by decide +kernel) rfl, gin 2 (by decide +kernel) rfl, gin 25 (by decide +kernel) rfl, gin 304 (by decide +kernel) rfl, by unfold plainY; decide +kernel⟩
theorem mX6_250 : MV RX6 250 yX3_laneNumbered cX3_laneNumbered 2 (some (Jvm.ClassFile.FieldType.object "SlotHouse$Lane")) 1 := ⟨Or.inl (gin 305 (by decide +kernel) rfl), gin 306 (by decide +kernel) rfl, gin 307 (by decide +kernel) rfl, gin 30 (by decide +kernel) rfl, gin 308 (by decide +kernel) rfl, by unfold plainY; decide +kernel⟩
theorem mL_33 : MV RL 33 yX6_tube cX6_tube 5 (some Jvm.ClassFile.FieldType.int) 3 := ⟨Or.inl (gin 309 (by decide +kernel) rfl), gin 310 (by decide +kernel) rfl, gin 311 (by decide +kernel) rfl, gin 25 (by decide +kernel) rfl, gin 312 (by decide +kernel) rfl, by unfold plainY; decide +kernel⟩
theorem mX6_88 : MS RX6 88 yX6_isWorth cX6_isWorth 1 (some Jvm.ClassFile.FieldType.boolean) 1 := ⟨Or.inl (gin 313 (by decide +kernel) rfl), gin 314 (by decide +kernel) rfl, gin 25 (by decide +kernel) rfl, gin 315 (by decide +kernel) rfl, by unfold plainY; decide +kernel⟩
theorem mX6_100 : MV RX6 100 yX4_addToTube cX4_addToTube 3 (none) 2 := ⟨Or.inl (gin 316 (by decide +kernel) rfl), gin 317 (by decide +kernel) rfl, gin 318 (by decide +kernel) rfl, gin 31 (by decide +kernel) rfl, gin 319 (by decide +kernel) rfl, by unfold plainY; decide +kernel⟩
theorem mL_37 : MV RL 37 yX6_stick cX6_stick 5 (some Jvm.ClassFile.FieldType.int) 3 := ⟨Or.inl (gin 320 (by decide +kernel) rfl), gin 321 (by decide +kernel) rfl, gin 322 (by decide +kernel) rfl, gin 25 (by decide +kernel) rfl, gin 323 (by decide +kernel) rfl, by unfold plainY; decide +kernel⟩
theorem mL_41 : MV RL 41 yX6_shut cX6_shut 5 (some Jvm.ClassFile.FieldType.boolean) 3 := ⟨Or.inl (gin 324 (by decide +kernel) rfl), gin 325 (by decide +kernel) rfl, gin 326 (by decide +kernel) rfl, gin 25 (by decide +kernel) rfl, gin 327 (by decide +kernel) rfl, by unfold plainY; decide +kernel⟩
theorem mL_46 : MV RL 46 yX6_power cX6_power 4 (some Jvm.ClassFile.FieldType.boolean) 2 := ⟨Or.inl (gin 328 (by decide +kernel) rfl), gin 329 (by decide +kernel) rfl, gin 330 (by decide +kernel) rfl, gin 25 (by decide +kernel) rfl, gin 331 (by decide +kernel) rfl, by unfold plainY; decide +kernel⟩
theorem mL_51 : MV RL 51 yX6_fill cX6_fill 6 (some Jvm.ClassFile.FieldType.int) 3 := ⟨Or.inl (gin 332 (by decide +kernel) rfl), gin 333 (by decide +kernel) rfl, gin 334 (by decide +kernel) rfl, gin 25 (by decide +kernel) rfl, gin 335 (by decide +kernel) rfl, by unfold plainY; decide +kernel⟩
theorem mL_55 : MV RL 55 yX6_found cX6_found 7 (some Jvm.ClassFile.FieldType.int) 3 := ⟨Or.inl (gin 336 (by decide +kernel) rfl), gin 337 (by decide +kernel) rfl, gin 338 (by decide +kernel) rfl, gin 25 (by decide +kernel) rfl, gin 339 (by decide +kernel) rfl, by unfold plainY; decide +kernel⟩
theorem mL_59 : MV RL 59 yX6_empty cX6_empty 6 (some Jvm.ClassFile.FieldType.int) 2 := ⟨Or.inl (gin 340 (by decide +kernel) rfl), gin 341 (by decide +kernel) rfl, gin 342 (by decide +kernel) rfl, gin 25 (by decide +kernel) rfl, gin 343 (by decide +kernel) rfl, by unfold plainY; decide +kernel⟩
theorem mL_63 : MV RL 63 yX6_insert cX6_insert 4 (some Jvm.ClassFile.FieldType.int) 2 := ⟨Or.inl (gin 344 (by decide +kernel) rfl), gin 345 (by decide +kernel) rfl, gin 346 (by decide +kernel) rfl, gin 25 (by decide +kernel) rfl, gin 347 (by decide +kernel) rfl, by unfold plainY; decide +kernel⟩
theorem mX6_144 : MV RX6 144 yX4_takeIn cX4_takeIn 2 (none) 1 := ⟨Or.inl (gin 348 (by decide +kernel) rfl), gin 349 (by decide +kernel) rfl, gin 350 (by decide +kernel) rfl, gin 31 (by decide +kernel) rfl, gin 351 (by decide +kernel) rfl, by unfold plainY; decide +kernel⟩
theorem mX6_151 : MS RX6 151 yX6_worthOf cX6_worthOf 3 (some Jvm.ClassFile.FieldType.int) 1 := ⟨Or.inl (gin 352 (by decide +kernel) rfl), gin 353 (by decide +kernel) rfl, gin 25 (by decide +kernel) rfl, gin 354 (by decide +kernel) rfl, by unfold plainY; decide +kernel⟩
theorem mL_67 : MV RL 67 yX6_back cX6_back 3 (some Jvm.ClassFile.FieldType.int) 1 := ⟨Or.inl (gin 355 (by decide +kernel) rfl), gin 356 (by decide +kernel) rfl, gin 357 (by decide +kernel) rfl, gin 25 (by decide +kernel) rfl, gin 358 (by decide +kernel) rfl, by unfold plainY; decide +kernel⟩
theorem mX6_155 : MV RX6 155 yX4_giveBack cX4_giveBack 3 (some Jvm.ClassFile.FieldType.int) 0 := ⟨Or.inl (gin 359 (by decide +kernel) rfl), gin 360 (by decide +kernel) rfl, gin 361 (by decide +kernel) rfl, gin 31 (by decide +kernel) rfl, gin 362 (by decide +kernel) rfl, by unfold plainY; decide +kernel⟩
theorem mX4_40 : MS RX4 40 yX6_worthOf cX6_worthOf 3 (some Jvm.ClassFile.FieldType.int) 1 := ⟨Or.inr ⟨"SlotHouse", nin 363 (by decide +kernel) rfl⟩, gin 353 (by decide +kernel) rfl, gin 25 (by decide +kernel) rfl, gin 354 (by decide +kernel) rfl, by unfold plainY; decide +kernel⟩
theorem mL_72 : MV RL 72 yX6_choose cX6_choose 7 (some Jvm.ClassFile.FieldType.int) 2 := ⟨Or.inl (gin 364 (by decide +kernel) rfl), gin 365 (by decide +kernel) rfl, gin 366 (by decide +kernel) rfl, gin 25 (by decide +kernel) rfl, gin 367 (by decide +kernel) rfl, by unfold plainY; decide +kernel⟩
theorem mX6_159 : MV RX6 159 yX3_sourceOf cX3_sourceOf 5 (some (Jvm.ClassFile.FieldType.object "SlotHouse$Lane")) 1 := ⟨Or.inl (gin 368 (by decide +kernel) rfl), gin 369 (by decide +kernel) rfl, gin 370 (by decide +kernel) rfl, gin 30 (by decide +kernel) rfl, gin 371 (by decide +kernel) rfl, by unfold plainY; decide +kernel⟩
theorem mX3_43 : MV RX3 43 yX3_laneNumbered cX3_laneNumbered 2 (some (Jvm.ClassFile.FieldType.object "SlotHouse$Lane")) 1 := ⟨Or.inl (gin 372 (by decide +kernel) rfl), gin 306 (by decide +kernel) rfl, gin 307 (by decide +kernel) rfl, gin 30 (by decide +kernel) rfl, gin 308 (by decide +kernel) rfl, by unfold plainY; decide +kernel⟩
theorem mX3_47 : MV RX3 47 yX2_isClosed cX2_isClosed 1 (some Jvm.ClassFile.FieldType.boolean) 0 := ⟨Or.inl (gin 373 (by decide +kernel) rfl), gin 374 (by decide +kernel) rfl, gin 375 (by decide +kernel) rfl, gin 33 (by decide +kernel) rfl, gin 376 (by decide +kernel) rfl, by unfold plainY; decide +kernel⟩
theorem mX6_163 : MV RX6 163 yX0_fewest cX0_fewest 6 (some Jvm.ClassFile.FieldType.int) 2 := ⟨Or.inl (gin 377 (by decide +kernel) rfl), gin 378 (by decide +kernel) rfl, gin 379 (by decide +kernel) rfl, gin 27 (by decide +kernel) rfl, gin 380 (by decide +kernel) rfl, by unfold plainY; decide +kernel⟩
theorem mX0_21 : MV RX0 21 yX0_coinsOfWay cX0_coinsOfWay 9 (some Jvm.ClassFile.FieldType.int) 3 := ⟨Or.inl (gin 381 (by decide +kernel) rfl), gin 383 (by decide +kernel) rfl, gin 3 (by decide +kernel) rfl, gin 27 (by decide +kernel) rfl, gin 384 (by decide +kernel) rfl, by unfold plainY; decide +kernel⟩
theorem mX0_39 : MS RX0 39 yX0_mostOf cX0_mostOf 3 (some Jvm.ClassFile.FieldType.int) 3 := ⟨Or.inl (gin 385 (by decide +kernel) rfl), gin 386 (by decide +kernel) rfl, gin 27 (by decide +kernel) rfl, gin 387 (by decide +kernel) rfl, by unfold plainY; decide +kernel⟩
theorem mX0_43 : MS RX0 43 yJ9_min_7cf53 cJ9_min_7cf53 2 (some Jvm.ClassFile.FieldType.int) 2 := ⟨Or.inl (gin 388 (by decide +kernel) rfl), gin 389 (by decide +kernel) rfl, gin 34 (by decide +kernel) rfl, gin 390 (by decide +kernel) rfl, by unfold plainY; decide +kernel⟩
theorem mX6_167 : MV RX6 167 yX2_miss cX2_miss 1 (none) 0 := ⟨Or.inl (gin 394 (by decide +kernel) rfl), gin 395 (by decide +kernel) rfl, gin 396 (by decide +kernel) rfl, gin 33 (by decide +kernel) rfl, gin 397 (by decide +kernel) rfl, by unfold plainY; decide +kernel⟩
theorem mX6_186 : MV RX6 186 yX1_countSale cX1_countSale 3 (none) 2 := ⟨Or.inl (gin 398 (by decide +kernel) rfl), gin 399 (by decide +kernel) rfl, gin 400 (by decide +kernel) rfl, gin 32 (by decide +kernel) rfl, gin 401 (by decide +kernel) rfl, by unfold plainY; decide +kernel⟩
theorem mX6_194 : MV RX6 194 yX4_settle cX4_settle 4 (none) 1 := ⟨Or.inl (gin 402 (by decide +kernel) rfl), gin 403 (by decide +kernel) rfl, gin 404 (by decide +kernel) rfl, gin 31 (by decide +kernel) rfl, gin 405 (by decide +kernel) rfl, by unfold plainY; decide +kernel⟩
theorem mX4_44 : MS RX4 44 yJ9_min_7cf53 cJ9_min_7cf53 2 (some Jvm.ClassFile.FieldType.int) 2 := ⟨Or.inl (gin 406 (by decide +kernel) rfl), gin 389 (by decide +kernel) rfl, gin 34 (by decide +kernel) rfl, gin 390 (by decide +kernel) rfl, by unfold plainY; decide +kernel⟩
theorem mL_76 : MV RL 76 yX6_given cX6_given 2 (some Jvm.ClassFile.FieldType.int) 1 := ⟨Or.inl (gin 408 (by decide +kernel) rfl), gin 409 (by decide +kernel) rfl, gin 410 (by decide +kernel) rfl, gin 25 (by decide +kernel) rfl, gin 411 (by decide +kernel) rfl, by unfold plainY; decide +kernel⟩
theorem mL_80 : MV RL 80 yX6_change cX6_change 4 (some Jvm.ClassFile.FieldType.int) 2 := ⟨Or.inl (gin 412 (by decide +kernel) rfl), gin 413 (by decide +kernel) rfl, gin 414 (by decide +kernel) rfl, gin 25 (by decide +kernel) rfl, gin 415 (by decide +kernel) rfl, by unfold plainY; decide +kernel⟩
theorem mL_84 : MV RL 84 yX6_hours cX6_hours 3 (some Jvm.ClassFile.FieldType.int) 1 := ⟨Or.inl (gin 416 (by decide +kernel) rfl), gin 417 (by decide +kernel) rfl, gin 418 (by decide +kernel) rfl, gin 25 (by decide +kernel) rfl, gin 419 (by decide +kernel) rfl, by unfold plainY; decide +kernel⟩
theorem mX6_204 : MV RX6 204 yX6_passHour cX6_passHour 4 (none) 0 := ⟨Or.inl (gin 420 (by decide +kernel) rfl), gin 422 (by decide +kernel) rfl, gin 4 (by decide +kernel) rfl, gin 25 (by decide +kernel) rfl, gin 423 (by decide +kernel) rfl, by unfold plainY; decide +kernel⟩
theorem mX6_253 : MV RX6 253 yX3_noteThere cX3_noteThere 5 (none) 1 := ⟨Or.inl (gin 424 (by decide +kernel) rfl), gin 425 (by decide +kernel) rfl, gin 426 (by decide +kernel) rfl, gin 30 (by decide +kernel) rfl, gin 427 (by decide +kernel) rfl, by unfold plainY; decide +kernel⟩
theorem mX3_59 : MV RX3 59 yX3_sourceOf cX3_sourceOf 5 (some (Jvm.ClassFile.FieldType.object "SlotHouse$Lane")) 1 := ⟨Or.inl (gin 428 (by decide +kernel) rfl), gin 369 (by decide +kernel) rfl, gin 370 (by decide +kernel) rfl, gin 30 (by decide +kernel) rfl, gin 371 (by decide +kernel) rfl, by unfold plainY; decide +kernel⟩
theorem mX3_62 : MV RX3 62 yX1_countThere cX1_countThere 3 (none) 2 := ⟨Or.inl (gin 429 (by decide +kernel) rfl), gin 430 (by decide +kernel) rfl, gin 431 (by decide +kernel) rfl, gin 32 (by decide +kernel) rfl, gin 432 (by decide +kernel) rfl, by unfold plainY; decide +kernel⟩
theorem mX6_256 : MV RX6 256 yX3_passHourOfPower cX3_passHourOfPower 3 (none) 0 := ⟨Or.inl (gin 433 (by decide +kernel) rfl), gin 434 (by decide +kernel) rfl, gin 435 (by decide +kernel) rfl, gin 30 (by decide +kernel) rfl, gin 436 (by decide +kernel) rfl, by unfold plainY; decide +kernel⟩
theorem mX3_69 : MV RX3 69 yX2_spoilAfter cX2_spoilAfter 2 (none) 1 := ⟨Or.inl (gin 437 (by decide +kernel) rfl), gin 438 (by decide +kernel) rfl, gin 439 (by decide +kernel) rfl, gin 33 (by decide +kernel) rfl, gin 440 (by decide +kernel) rfl, by unfold plainY; decide +kernel⟩
theorem mL_88 : MV RL 88 yX6_counted cX6_counted 6 (some Jvm.ClassFile.FieldType.int) 4 := ⟨Or.inl (gin 441 (by decide +kernel) rfl), gin 442 (by decide +kernel) rfl, gin 443 (by decide +kernel) rfl, gin 25 (by decide +kernel) rfl, gin 444 (by decide +kernel) rfl, by unfold plainY; decide +kernel⟩
theorem mX6_207 : MV RX6 207 yX1_salesAt cX1_salesAt 3 (some Jvm.ClassFile.FieldType.int) 2 := ⟨Or.inl (gin 445 (by decide +kernel) rfl), gin 446 (by decide +kernel) rfl, gin 447 (by decide +kernel) rfl, gin 32 (by decide +kernel) rfl, gin 448 (by decide +kernel) rfl, by unfold plainY; decide +kernel⟩
theorem mX6_211 : MV RX6 211 yX1_hoursThereAt cX1_hoursThereAt 3 (some Jvm.ClassFile.FieldType.int) 2 := ⟨Or.inl (gin 449 (by decide +kernel) rfl), gin 450 (by decide +kernel) rfl, gin 451 (by decide +kernel) rfl, gin 32 (by decide +kernel) rfl, gin 452 (by decide +kernel) rfl, by unfold plainY; decide +kernel⟩
theorem mL_93 : MV RL 93 yX6_foretell cX6_foretell 5 (some Jvm.ClassFile.FieldType.int) 3 := ⟨Or.inl (gin 453 (by decide +kernel) rfl), gin 454 (by decide +kernel) rfl, gin 455 (by decide +kernel) rfl, gin 25 (by decide +kernel) rfl, gin 456 (by decide +kernel) rfl, by unfold plainY; decide +kernel⟩
theorem mX6_214 : MV RX6 214 yX1_foretold cX1_foretold 6 (some Jvm.ClassFile.FieldType.int) 3 := ⟨Or.inl (gin 457 (by decide +kernel) rfl), gin 458 (by decide +kernel) rfl, gin 459 (by decide +kernel) rfl, gin 32 (by decide +kernel) rfl, gin 460 (by decide +kernel) rfl, by unfold plainY; decide +kernel⟩
theorem mX1_18 : MV RX1 18 yX1_rate cX1_rate 4 (some Jvm.ClassFile.FieldType.int) 2 := ⟨Or.inl (gin 461 (by decide +kernel) rfl), gin 463 (by decide +kernel) rfl, gin 5 (by decide +kernel) rfl, gin 32 (by decide +kernel) rfl, gin 464 (by decide +kernel) rfl, by unfold plainY; decide +kernel⟩
theorem mX1_22 : MV RX1 22 yX1_hoursThereAt cX1_hoursThereAt 3 (some Jvm.ClassFile.FieldType.int) 2 := ⟨Or.inl (gin 465 (by decide +kernel) rfl), gin 450 (by decide +kernel) rfl, gin 451 (by decide +kernel) rfl, gin 32 (by decide +kernel) rfl, gin 452 (by decide +kernel) rfl, by unfold plainY; decide +kernel⟩
theorem mX1_25 : MV RX1 25 yX1_salesAt cX1_salesAt 3 (some Jvm.ClassFile.FieldType.int) 2 := ⟨Or.inl (gin 466 (by decide +kernel) rfl), gin 446 (by decide +kernel) rfl, gin 447 (by decide +kernel) rfl, gin 32 (by decide +kernel) rfl, gin 448 (by decide +kernel) rfl, by unfold plainY; decide +kernel⟩
theorem mL_97 : MV RL 97 yX6_when cX6_when 6 (some Jvm.ClassFile.FieldType.int) 2 := ⟨Or.inl (gin 467 (by decide +kernel) rfl), gin 468 (by decide +kernel) rfl, gin 469 (by decide +kernel) rfl, gin 25 (by decide +kernel) rfl, gin 470 (by decide +kernel) rfl, by unfold plainY; decide +kernel⟩
theorem mX6_218 : MV RX6 218 yX3_stockOf cX3_stockOf 5 (some Jvm.ClassFile.FieldType.int) 1 := ⟨Or.inl (gin 471 (by decide +kernel) rfl), gin 472 (by decide +kernel) rfl, gin 473 (by decide +kernel) rfl, gin 30 (by decide +kernel) rfl, gin 474 (by decide +kernel) rfl, by unfold plainY; decide +kernel⟩
theorem mX6_221 : MV RX6 221 yX1_hoursTill cX1_hoursTill 6 (some Jvm.ClassFile.FieldType.int) 3 := ⟨Or.inl (gin 475 (by decide +kernel) rfl), gin 476 (by decide +kernel) rfl, gin 477 (by decide +kernel) rfl, gin 32 (by decide +kernel) rfl, gin 478 (by decide +kernel) rfl, by unfold plainY; decide +kernel⟩
theorem mL_101 : MV RL 101 yX6_load cX6_load 4 (some Jvm.ClassFile.FieldType.int) 2 := ⟨Or.inl (gin 479 (by decide +kernel) rfl), gin 480 (by decide +kernel) rfl, gin 481 (by decide +kernel) rfl, gin 25 (by decide +kernel) rfl, gin 482 (by decide +kernel) rfl, by unfold plainY; decide +kernel⟩
theorem mX6_224 : MV RX6 224 yX5_plan cX5_plan 6 (some Jvm.ClassFile.FieldType.int) 3 := ⟨Or.inl (gin 483 (by decide +kernel) rfl), gin 484 (by decide +kernel) rfl, gin 485 (by decide +kernel) rfl, gin 28 (by decide +kernel) rfl, gin 486 (by decide +kernel) rfl, by unfold plainY; decide +kernel⟩
theorem mX5_26 : MS RX5 26 yJ7_fill_53178 cJ7_fill_53178 4 (none) 2 := ⟨Or.inl (gin 487 (by decide +kernel) rfl), gin 47 (by decide +kernel) rfl, gin 26 (by decide +kernel) rfl, gin 48 (by decide +kernel) rfl, by unfold plainY; decide +kernel⟩
theorem mX5_32 : MV RX5 32 yX3_laneNumbered cX3_laneNumbered 2 (some (Jvm.ClassFile.FieldType.object "SlotHouse$Lane")) 1 := ⟨Or.inl (gin 488 (by decide +kernel) rfl), gin 306 (by decide +kernel) rfl, gin 307 (by decide +kernel) rfl, gin 30 (by decide +kernel) rfl, gin 308 (by decide +kernel) rfl, by unfold plainY; decide +kernel⟩
theorem mX5_41 : MV RX5 41 yX5_fillRow cX5_fillRow 11 (none) 4 := ⟨Or.inl (gin 489 (by decide +kernel) rfl), gin 491 (by decide +kernel) rfl, gin 6 (by decide +kernel) rfl, gin 28 (by decide +kernel) rfl, gin 492 (by decide +kernel) rfl, by unfold plainY; decide +kernel⟩
theorem mX5_49 : MS RX5 49 yX5_spaceIn cX5_spaceIn 1 (some Jvm.ClassFile.FieldType.int) 1 := ⟨Or.inl (gin 493 (by decide +kernel) rfl), gin 494 (by decide +kernel) rfl, gin 28 (by decide +kernel) rfl, gin 495 (by decide +kernel) rfl, by unfold plainY; decide +kernel⟩
theorem mX5_70 : MV RX5 70 yX2_isClosed cX2_isClosed 1 (some Jvm.ClassFile.FieldType.boolean) 0 := ⟨Or.inl (gin 496 (by decide +kernel) rfl), gin 374 (by decide +kernel) rfl, gin 375 (by decide +kernel) rfl, gin 33 (by decide +kernel) rfl, gin 376 (by decide +kernel) rfl, by unfold plainY; decide +kernel⟩
theorem mX5_53 : MS RX5 53 yX5_gainOf cX5_gainOf 2 (some Jvm.ClassFile.FieldType.int) 2 := ⟨Or.inl (gin 497 (by decide +kernel) rfl), gin 498 (by decide +kernel) rfl, gin 28 (by decide +kernel) rfl, gin 499 (by decide +kernel) rfl, by unfold plainY; decide +kernel⟩
theorem mX5_57 : MS RX5 57 yJ9_max_7cf53 cJ9_max_7cf53 2 (some Jvm.ClassFile.FieldType.int) 2 := ⟨Or.inl (gin 500 (by decide +kernel) rfl), gin 501 (by decide +kernel) rfl, gin 34 (by decide +kernel) rfl, gin 502 (by decide +kernel) rfl, by unfold plainY; decide +kernel⟩
theorem mX5_45 : MV RX5 45 yX5_takePieces cX5_takePieces 8 (some Jvm.ClassFile.FieldType.int) 3 := ⟨Or.inl (gin 503 (by decide +kernel) rfl), gin 505 (by decide +kernel) rfl, gin 7 (by decide +kernel) rfl, gin 28 (by decide +kernel) rfl, gin 506 (by decide +kernel) rfl, by unfold plainY; decide +kernel⟩
theorem mX5_63 : MV RX5 63 yX5_mostAtBest cX5_mostAtBest 9 (some Jvm.ClassFile.FieldType.int) 4 := ⟨Or.inl (gin 507 (by decide +kernel) rfl), gin 509 (by decide +kernel) rfl, gin 8 (by decide +kernel) rfl, gin 28 (by decide +kernel) rfl, gin 510 (by decide +kernel) rfl, by unfold plainY; decide +kernel⟩
theorem mL_105 : MV RL 105 yX6_loaded cX6_loaded 2 (some Jvm.ClassFile.FieldType.int) 1 := ⟨Or.inl (gin 511 (by decide +kernel) rfl), gin 512 (by decide +kernel) rfl, gin 513 (by decide +kernel) rfl, gin 25 (by decide +kernel) rfl, gin 514 (by decide +kernel) rfl, by unfold plainY; decide +kernel⟩
theorem mX6_228 : MV RX6 228 yX5_piecesFor cX5_piecesFor 2 (some Jvm.ClassFile.FieldType.int) 1 := ⟨Or.inl (gin 515 (by decide +kernel) rfl), gin 516 (by decide +kernel) rfl, gin 517 (by decide +kernel) rfl, gin 28 (by decide +kernel) rfl, gin 518 (by decide +kernel) rfl, by unfold plainY; decide +kernel⟩
theorem mL_109 : MV RL 109 yX6_laneOf cX6_laneOf 6 (some Jvm.ClassFile.FieldType.int) 3 := ⟨Or.inl (gin 519 (by decide +kernel) rfl), gin 520 (by decide +kernel) rfl, gin 521 (by decide +kernel) rfl, gin 25 (by decide +kernel) rfl, gin 522 (by decide +kernel) rfl, by unfold plainY; decide +kernel⟩
theorem mL_113 : MV RL 113 yX6_machineOf cX6_machineOf 4 (some Jvm.ClassFile.FieldType.int) 2 := ⟨Or.inl (gin 523 (by decide +kernel) rfl), gin 524 (by decide +kernel) rfl, gin 525 (by decide +kernel) rfl, gin 25 (by decide +kernel) rfl, gin 526 (by decide +kernel) rfl, by unfold plainY; decide +kernel⟩
theorem mL_117 : MV RL 117 yX6_tubeOf cX6_tubeOf 4 (some Jvm.ClassFile.FieldType.int) 2 := ⟨Or.inl (gin 528 (by decide +kernel) rfl), gin 529 (by decide +kernel) rfl, gin 530 (by decide +kernel) rfl, gin 25 (by decide +kernel) rfl, gin 531 (by decide +kernel) rfl, by unfold plainY; decide +kernel⟩
theorem mL_121 : MV RL 121 yX6_collect cX6_collect 3 (some Jvm.ClassFile.FieldType.int) 1 := ⟨Or.inl (gin 532 (by decide +kernel) rfl), gin 533 (by decide +kernel) rfl, gin 534 (by decide +kernel) rfl, gin 25 (by decide +kernel) rfl, gin 535 (by decide +kernel) rfl, by unfold plainY; decide +kernel⟩
theorem mX6_238 : MV RX6 238 yX4_emptyBox cX4_emptyBox 3 (some Jvm.ClassFile.FieldType.int) 0 := ⟨Or.inl (gin 536 (by decide +kernel) rfl), gin 537 (by decide +kernel) rfl, gin 538 (by decide +kernel) rfl, gin 31 (by decide +kernel) rfl, gin 539 (by decide +kernel) rfl, by unfold plainY; decide +kernel⟩
theorem mL_125 : MV RL 125 yX6_check cX6_check 3 (some Jvm.ClassFile.FieldType.boolean) 1 := ⟨Or.inl (gin 540 (by decide +kernel) rfl), gin 541 (by decide +kernel) rfl, gin 542 (by decide +kernel) rfl, gin 25 (by decide +kernel) rfl, gin 543 (by decide +kernel) rfl, by unfold plainY; decide +kernel⟩
theorem mX6_241 : MV RX6 241 yX3_goodsAgree cX3_goodsAgree 4 (some Jvm.ClassFile.FieldType.boolean) 0 := ⟨Or.inl (gin 544 (by decide +kernel) rfl), gin 545 (by decide +kernel) rfl, gin 546 (by decide +kernel) rfl, gin 30 (by decide +kernel) rfl, gin 547 (by decide +kernel) rfl, by unfold plainY; decide +kernel⟩
theorem mX6_244 : MV RX6 244 yX4_coinsAgree cX4_coinsAgree 3 (some Jvm.ClassFile.FieldType.boolean) 0 := ⟨Or.inl (gin 548 (by decide +kernel) rfl), gin 549 (by decide +kernel) rfl, gin 550 (by decide +kernel) rfl, gin 31 (by decide +kernel) rfl, gin 551 (by decide +kernel) rfl, by unfold plainY; decide +kernel⟩
theorem mL_130 : MV RL 130 yX6_count cX6_count 2 (some Jvm.ClassFile.FieldType.int) 1 := ⟨Or.inl (gin 552 (by decide +kernel) rfl), gin 553 (by decide +kernel) rfl, gin 554 (by decide +kernel) rfl, gin 25 (by decide +kernel) rfl, gin 555 (by decide +kernel) rfl, by unfold plainY; decide +kernel⟩
theorem mX6_247 : MV RX6 247 yX6_soldOfAll cX6_soldOfAll 4 (some Jvm.ClassFile.FieldType.int) 0 := ⟨Or.inl (gin 556 (by decide +kernel) rfl), gin 558 (by decide +kernel) rfl, gin 9 (by decide +kernel) rfl, gin 25 (by decide +kernel) rfl, gin 559 (by decide +kernel) rfl, by unfold plainY; decide +kernel⟩
theorem mL_12 : MI RL 12 yX7_init cX7_init 1 0 := ⟨Or.inl (gin 562 (by decide +kernel) rfl), rfl, gin 563 (by decide +kernel) rfl, gin 29 (by decide +kernel) rfl, gin 564 (by decide +kernel) rfl, by unfold plainY; decide +kernel⟩
theorem mL_17 : MV RL 17 yX7_machine cX7_machine 1 (some Jvm.ClassFile.FieldType.int) 0 := ⟨Or.inl (gin 670 (by decide +kernel) rfl), gin 671 (by decide +kernel) rfl, gin 672 (by decide +kernel) rfl, gin 29 (by decide +kernel) rfl, gin 673 (by decide +kernel) rfl, by unfold plainY; decide +kernel⟩
theorem mX7_116 : MV RX7 116 yX7_refuse cX7_refuse 2 (some Jvm.ClassFile.FieldType.int) 1 := ⟨Or.inl (gin 674 (by decide +kernel) rfl), gin 676 (by decide +kernel) rfl, gin 10 (by decide +kernel) rfl, gin 29 (by decide +kernel) rfl, gin 677 (by decide +kernel) rfl, by unfold plainY; decide +kernel⟩
theorem mL_22 : MV RL 22 yX7_lane cX7_lane 8 (some Jvm.ClassFile.FieldType.int) 6 := ⟨Or.inl (gin 678 (by decide +kernel) rfl), gin 679 (by decide +kernel) rfl, gin 680 (by decide +kernel) rfl, gin 29 (by decide +kernel) rfl, gin 681 (by decide +kernel) rfl, by unfold plainY; decide +kernel⟩
theorem mX7_112 : MV RX7 112 yX7_isMachine cX7_isMachine 2 (some Jvm.ClassFile.FieldType.boolean) 1 := ⟨Or.inl (gin 682 (by decide +kernel) rfl), gin 684 (by decide +kernel) rfl, gin 11 (by decide +kernel) rfl, gin 29 (by decide +kernel) rfl, gin 685 (by decide +kernel) rfl, by unfold plainY; decide +kernel⟩
theorem mX7_108 : MS RX7 108 yX7_in cX7_in 3 (some Jvm.ClassFile.FieldType.boolean) 3 := ⟨Or.inl (gin 686 (by decide +kernel) rfl), gin 687 (by decide +kernel) rfl, gin 29 (by decide +kernel) rfl, gin 688 (by decide +kernel) rfl, by unfold plainY; decide +kernel⟩
theorem mX7_120 : MS RX7 120 yX7_isBelow cX7_isBelow 1 (some Jvm.ClassFile.FieldType.boolean) 1 := ⟨Or.inl (gin 689 (by decide +kernel) rfl), gin 690 (by decide +kernel) rfl, gin 29 (by decide +kernel) rfl, gin 691 (by decide +kernel) rfl, by unfold plainY; decide +kernel⟩
theorem mL_27 : MV RL 27 yX7_size cX7_size 4 (some Jvm.ClassFile.FieldType.int) 2 := ⟨Or.inl (gin 692 (by decide +kernel) rfl), gin 693 (by decide +kernel) rfl, gin 694 (by decide +kernel) rfl, gin 29 (by decide +kernel) rfl, gin 695 (by decide +kernel) rfl, by unfold plainY; decide +kernel⟩
theorem mL_32 : MV RL 32 yX7_price cX7_price 5 (some Jvm.ClassFile.FieldType.int) 3 := ⟨Or.inl (gin 696 (by decide +kernel) rfl), gin 697 (by decide +kernel) rfl, gin 698 (by decide +kernel) rfl, gin 29 (by decide +kernel) rfl, gin 699 (by decide +kernel) rfl, by unfold plainY; decide +kernel⟩
theorem mX7_123 : MV RX7 123 yX7_isLane cX7_isLane 3 (some Jvm.ClassFile.FieldType.boolean) 2 := ⟨Or.inl (gin 700 (by decide +kernel) rfl), gin 702 (by decide +kernel) rfl, gin 12 (by decide +kernel) rfl, gin 29 (by decide +kernel) rfl, gin 703 (by decide +kernel) rfl, by unfold plainY; decide +kernel⟩
theorem mL_36 : MV RL 36 yX7_tube cX7_tube 4 (some Jvm.ClassFile.FieldType.int) 3 := ⟨Or.inl (gin 704 (by decide +kernel) rfl), gin 705 (by decide +kernel) rfl, gin 706 (by decide +kernel) rfl, gin 29 (by decide +kernel) rfl, gin 707 (by decide +kernel) rfl, by unfold plainY; decide +kernel⟩
theorem mL_40 : MV RL 40 yX7_stick cX7_stick 4 (some Jvm.ClassFile.FieldType.int) 3 := ⟨Or.inl (gin 708 (by decide +kernel) rfl), gin 709 (by decide +kernel) rfl, gin 710 (by decide +kernel) rfl, gin 29 (by decide +kernel) rfl, gin 711 (by decide +kernel) rfl, by unfold plainY; decide +kernel⟩
theorem mL_45 : MV RL 45 yX7_shut cX7_shut 4 (some Jvm.ClassFile.FieldType.boolean) 3 := ⟨Or.inl (gin 712 (by decide +kernel) rfl), gin 713 (by decide +kernel) rfl, gin 714 (by decide +kernel) rfl, gin 29 (by decide +kernel) rfl, gin 715 (by decide +kernel) rfl, by unfold plainY; decide +kernel⟩
theorem mL_50 : MV RL 50 yX7_power cX7_power 3 (some Jvm.ClassFile.FieldType.boolean) 2 := ⟨Or.inl (gin 716 (by decide +kernel) rfl), gin 717 (by decide +kernel) rfl, gin 718 (by decide +kernel) rfl, gin 29 (by decide +kernel) rfl, gin 719 (by decide +kernel) rfl, by unfold plainY; decide +kernel⟩
theorem mL_54 : MV RL 54 yX7_fill cX7_fill 5 (some Jvm.ClassFile.FieldType.int) 3 := ⟨Or.inl (gin 720 (by decide +kernel) rfl), gin 721 (by decide +kernel) rfl, gin 722 (by decide +kernel) rfl, gin 29 (by decide +kernel) rfl, gin 723 (by decide +kernel) rfl, by unfold plainY; decide +kernel⟩
theorem mL_58 : MV RL 58 yX7_found cX7_found 6 (some Jvm.ClassFile.FieldType.int) 3 := ⟨Or.inl (gin 724 (by decide +kernel) rfl), gin 725 (by decide +kernel) rfl, gin 726 (by decide +kernel) rfl, gin 29 (by decide +kernel) rfl, gin 727 (by decide +kernel) rfl, by unfold plainY; decide +kernel⟩
theorem mL_62 : MV RL 62 yX7_empty cX7_empty 5 (some Jvm.ClassFile.FieldType.int) 2 := ⟨Or.inl (gin 728 (by decide +kernel) rfl), gin 729 (by decide +kernel) rfl, gin 730 (by decide +kernel) rfl, gin 29 (by decide +kernel) rfl, gin 731 (by decide +kernel) rfl, by unfold plainY; decide +kernel⟩
theorem mL_66 : MV RL 66 yX7_insert cX7_insert 3 (some Jvm.ClassFile.FieldType.int) 2 := ⟨Or.inl (gin 732 (by decide +kernel) rfl), gin 733 (by decide +kernel) rfl, gin 734 (by decide +kernel) rfl, gin 29 (by decide +kernel) rfl, gin 735 (by decide +kernel) rfl, by unfold plainY; decide +kernel⟩
theorem mX7_133 : MV RX7 133 yX7_coinsIn cX7_coinsIn 4 (some Jvm.ClassFile.FieldType.int) 1 := ⟨Or.inl (gin 736 (by decide +kernel) rfl), gin 738 (by decide +kernel) rfl, gin 13 (by decide +kernel) rfl, gin 29 (by decide +kernel) rfl, gin 739 (by decide +kernel) rfl, by unfold plainY; decide +kernel⟩
theorem mX7_136 : MV RX7 136 yX7_worthIn cX7_worthIn 5 (some Jvm.ClassFile.FieldType.int) 2 := ⟨Or.inl (gin 740 (by decide +kernel) rfl), gin 742 (by decide +kernel) rfl, gin 14 (by decide +kernel) rfl, gin 29 (by decide +kernel) rfl, gin 743 (by decide +kernel) rfl, by unfold plainY; decide +kernel⟩
theorem mX7_130 : MS RX7 130 yX7_worthOf cX7_worthOf 1 (some Jvm.ClassFile.FieldType.int) 1 := ⟨Or.inl (gin 744 (by decide +kernel) rfl), gin 745 (by decide +kernel) rfl, gin 29 (by decide +kernel) rfl, gin 746 (by decide +kernel) rfl, by unfold plainY; decide +kernel⟩
theorem mL_71 : MV RL 71 yX7_back cX7_back 2 (some Jvm.ClassFile.FieldType.int) 1 := ⟨Or.inl (gin 747 (by decide +kernel) rfl), gin 748 (by decide +kernel) rfl, gin 749 (by decide +kernel) rfl, gin 29 (by decide +kernel) rfl, gin 750 (by decide +kernel) rfl, by unfold plainY; decide +kernel⟩
theorem mX7_140 : MV RX7 140 yX7_allBack cX7_allBack 4 (some Jvm.ClassFile.FieldType.int) 1 := ⟨Or.inl (gin 751 (by decide +kernel) rfl), gin 753 (by decide +kernel) rfl, gin 15 (by decide +kernel) rfl, gin 29 (by decide +kernel) rfl, gin 754 (by decide +kernel) rfl, by unfold plainY; decide +kernel⟩
theorem mL_83 : MV RL 83 yX7_change cX7_change 4 (some Jvm.ClassFile.FieldType.int) 2 := ⟨Or.inl (gin 755 (by decide +kernel) rfl), gin 756 (by decide +kernel) rfl, gin 757 (by decide +kernel) rfl, gin 29 (by decide +kernel) rfl, gin 758 (by decide +kernel) rfl, by unfold plainY; decide +kernel⟩
theorem mX7_143 : MV RX7 143 yX7_findChange cX7_findChange 11 (some Jvm.ClassFile.FieldType.int) 2 := ⟨Or.inl (gin 759 (by decide +kernel) rfl), gin 761 (by decide +kernel) rfl, gin 16 (by decide +kernel) rfl, gin 29 (by decide +kernel) rfl, gin 762 (by decide +kernel) rfl, by unfold plainY; decide +kernel⟩
theorem mL_75 : MV RL 75 yX7_choose cX7_choose 9 (some Jvm.ClassFile.FieldType.int) 2 := ⟨Or.inl (gin 763 (by decide +kernel) rfl), gin 764 (by decide +kernel) rfl, gin 765 (by decide +kernel) rfl, gin 29 (by decide +kernel) rfl, gin 766 (by decide +kernel) rfl, by unfold plainY; decide +kernel⟩
theorem mX7_147 : MV RX7 147 yX7_sells cX7_sells 4 (some Jvm.ClassFile.FieldType.boolean) 2 := ⟨Or.inl (gin 767 (by decide +kernel) rfl), gin 769 (by decide +kernel) rfl, gin 17 (by decide +kernel) rfl, gin 29 (by decide +kernel) rfl, gin 770 (by decide +kernel) rfl, by unfold plainY; decide +kernel⟩
theorem mX7_127 : MV RX7 127 yX7_nextServes cX7_nextServes 4 (some Jvm.ClassFile.FieldType.boolean) 2 := ⟨Or.inl (gin 771 (by decide +kernel) rfl), gin 773 (by decide +kernel) rfl, gin 18 (by decide +kernel) rfl, gin 29 (by decide +kernel) rfl, gin 774 (by decide +kernel) rfl, by unfold plainY; decide +kernel⟩
theorem mL_79 : MV RL 79 yX7_given cX7_given 2 (some Jvm.ClassFile.FieldType.int) 1 := ⟨Or.inl (gin 775 (by decide +kernel) rfl), gin 776 (by decide +kernel) rfl, gin 777 (by decide +kernel) rfl, gin 29 (by decide +kernel) rfl, gin 778 (by decide +kernel) rfl, by unfold plainY; decide +kernel⟩
theorem mL_87 : MV RL 87 yX7_hours cX7_hours 3 (some Jvm.ClassFile.FieldType.int) 1 := ⟨Or.inl (gin 779 (by decide +kernel) rfl), gin 780 (by decide +kernel) rfl, gin 781 (by decide +kernel) rfl, gin 29 (by decide +kernel) rfl, gin 782 (by decide +kernel) rfl, by unfold plainY; decide +kernel⟩
theorem mX7_156 : MV RX7 156 yX7_passOne cX7_passOne 5 (none) 0 := ⟨Or.inl (gin 783 (by decide +kernel) rfl), gin 785 (by decide +kernel) rfl, gin 19 (by decide +kernel) rfl, gin 29 (by decide +kernel) rfl, gin 786 (by decide +kernel) rfl, by unfold plainY; decide +kernel⟩
theorem mL_92 : MV RL 92 yX7_counted cX7_counted 6 (some Jvm.ClassFile.FieldType.int) 4 := ⟨Or.inl (gin 787 (by decide +kernel) rfl), gin 788 (by decide +kernel) rfl, gin 789 (by decide +kernel) rfl, gin 29 (by decide +kernel) rfl, gin 790 (by decide +kernel) rfl, by unfold plainY; decide +kernel⟩
theorem mL_96 : MV RL 96 yX7_foretell cX7_foretell 6 (some Jvm.ClassFile.FieldType.int) 3 := ⟨Or.inl (gin 791 (by decide +kernel) rfl), gin 792 (by decide +kernel) rfl, gin 793 (by decide +kernel) rfl, gin 29 (by decide +kernel) rfl, gin 794 (by decide +kernel) rfl, by unfold plainY; decide +kernel⟩
theorem mX7_159 : MV RX7 159 yX7_rate cX7_rate 5 (some Jvm.ClassFile.FieldType.int) 3 := ⟨Or.inl (gin 795 (by decide +kernel) rfl), gin 797 (by decide +kernel) rfl, gin 20 (by decide +kernel) rfl, gin 29 (by decide +kernel) rfl, gin 798 (by decide +kernel) rfl, by unfold plainY; decide +kernel⟩
theorem mL_100 : MV RL 100 yX7_when cX7_when 7 (some Jvm.ClassFile.FieldType.int) 2 := ⟨Or.inl (gin 799 (by decide +kernel) rfl), gin 800 (by decide +kernel) rfl, gin 801 (by decide +kernel) rfl, gin 29 (by decide +kernel) rfl, gin 802 (by decide +kernel) rfl, by unfold plainY; decide +kernel⟩
theorem mL_104 : MV RL 104 yX7_load cX7_load 8 (some Jvm.ClassFile.FieldType.int) 2 := ⟨Or.inl (gin 803 (by decide +kernel) rfl), gin 804 (by decide +kernel) rfl, gin 805 (by decide +kernel) rfl, gin 29 (by decide +kernel) rfl, gin 806 (by decide +kernel) rfl, by unfold plainY; decide +kernel⟩
theorem mX7_163 : MV RX7 163 yX7_mayTake cX7_mayTake 4 (some Jvm.ClassFile.FieldType.int) 2 := ⟨Or.inl (gin 807 (by decide +kernel) rfl), gin 809 (by decide +kernel) rfl, gin 21 (by decide +kernel) rfl, gin 29 (by decide +kernel) rfl, gin 810 (by decide +kernel) rfl, by unfold plainY; decide +kernel⟩
theorem mX7_166 : MV RX7 166 yX7_sizeAt cX7_sizeAt 3 (some Jvm.ClassFile.FieldType.int) 2 := ⟨Or.inl (gin 811 (by decide +kernel) rfl), gin 813 (by decide +kernel) rfl, gin 22 (by decide +kernel) rfl, gin 29 (by decide +kernel) rfl, gin 814 (by decide +kernel) rfl, by unfold plainY; decide +kernel⟩
theorem mX7_169 : MV RX7 169 yX7_worthAt cX7_worthAt 4 (some Jvm.ClassFile.FieldType.int) 3 := ⟨Or.inl (gin 815 (by decide +kernel) rfl), gin 817 (by decide +kernel) rfl, gin 23 (by decide +kernel) rfl, gin 29 (by decide +kernel) rfl, gin 818 (by decide +kernel) rfl, by unfold plainY; decide +kernel⟩
theorem mL_108 : MV RL 108 yX7_loaded cX7_loaded 2 (some Jvm.ClassFile.FieldType.int) 1 := ⟨Or.inl (gin 819 (by decide +kernel) rfl), gin 820 (by decide +kernel) rfl, gin 821 (by decide +kernel) rfl, gin 29 (by decide +kernel) rfl, gin 822 (by decide +kernel) rfl, by unfold plainY; decide +kernel⟩
theorem mL_112 : MV RL 112 yX7_laneOf cX7_laneOf 5 (some Jvm.ClassFile.FieldType.int) 3 := ⟨Or.inl (gin 823 (by decide +kernel) rfl), gin 824 (by decide +kernel) rfl, gin 825 (by decide +kernel) rfl, gin 29 (by decide +kernel) rfl, gin 826 (by decide +kernel) rfl, by unfold plainY; decide +kernel⟩
theorem mL_116 : MV RL 116 yX7_machineOf cX7_machineOf 3 (some Jvm.ClassFile.FieldType.int) 2 := ⟨Or.inl (gin 827 (by decide +kernel) rfl), gin 828 (by decide +kernel) rfl, gin 829 (by decide +kernel) rfl, gin 29 (by decide +kernel) rfl, gin 830 (by decide +kernel) rfl, by unfold plainY; decide +kernel⟩
theorem mL_120 : MV RL 120 yX7_tubeOf cX7_tubeOf 3 (some Jvm.ClassFile.FieldType.int) 2 := ⟨Or.inl (gin 832 (by decide +kernel) rfl), gin 833 (by decide +kernel) rfl, gin 834 (by decide +kernel) rfl, gin 29 (by decide +kernel) rfl, gin 835 (by decide +kernel) rfl, by unfold plainY; decide +kernel⟩
theorem mL_124 : MV RL 124 yX7_collect cX7_collect 4 (some Jvm.ClassFile.FieldType.int) 1 := ⟨Or.inl (gin 836 (by decide +kernel) rfl), gin 837 (by decide +kernel) rfl, gin 838 (by decide +kernel) rfl, gin 29 (by decide +kernel) rfl, gin 839 (by decide +kernel) rfl, by unfold plainY; decide +kernel⟩
theorem mL_129 : MV RL 129 yX7_check cX7_check 5 (some Jvm.ClassFile.FieldType.boolean) 1 := ⟨Or.inl (gin 840 (by decide +kernel) rfl), gin 841 (by decide +kernel) rfl, gin 842 (by decide +kernel) rfl, gin 29 (by decide +kernel) rfl, gin 843 (by decide +kernel) rfl, by unfold plainY; decide +kernel⟩
theorem mL_133 : MV RL 133 yX7_count cX7_count 4 (some Jvm.ClassFile.FieldType.int) 1 := ⟨Or.inl (gin 844 (by decide +kernel) rfl), gin 845 (by decide +kernel) rfl, gin 846 (by decide +kernel) rfl, gin 29 (by decide +kernel) rfl, gin 847 (by decide +kernel) rfl, by unfold plainY; decide +kernel⟩
theorem kL_7 : Cond.classLink RL 7 RX6 ∈ gdW := gin 36 (by decide +kernel) rfl
theorem nL_7 : ND RL 7 6 := ⟨RX6, TX6, 9, rfl, rfl, kL_7, gin 37 (by decide +kernel) rfl, gin 25 (by decide +kernel) rfl, uwX6, tyX6_ok, by decide +kernel⟩
theorem obX6_1 : Cond.methodLink RX6 1 objectInit ∈ gdW := gin 41 (by decide +kernel) rfl
theorem kX6_9 : Cond.classLink RX6 9 RX3 ∈ gdW := gin 44 (by decide +kernel) rfl
theorem nX6_9 : ND RX6 9 3 := ⟨RX3, TX3, 10, rfl, rfl, kX6_9, gin 118 (by decide +kernel) rfl, gin 30 (by decide +kernel) rfl, uwX3, tyX3_ok, by decide +kernel⟩
theorem kX6_34 : Cond.classLink RX6 34 RX0 ∈ gdW := gin 51 (by decide +kernel) rfl
theorem nX6_34 : ND RX6 34 0 := ⟨RX0, TX0, 2, rfl, rfl, kX6_34, gin 52 (by decide +kernel) rfl, gin 27 (by decide +kernel) rfl, uwX0, tyX0_ok, by decide +kernel⟩
theorem obX0_3 : Cond.methodLink RX0 3 objectInit ∈ gdW := gin 56 (by decide +kernel) rfl
theorem ac_int : Cond.arrayClass .int ∈ gdW := gin 66 (by decide +kernel) rfl
theorem kX6_41 : Cond.classLink RX6 41 RX5 ∈ gdW := gin 67 (by decide +kernel) rfl
theorem nX6_41 : ND RX6 41 5 := ⟨RX5, TX5, 2, rfl, rfl, kX6_41, gin 68 (by decide +kernel) rfl, gin 28 (by decide +kernel) rfl, uwX5, tyX5_ok, by decide +kernel⟩
theorem obX5_3 : Cond.methodLink RX5 3 objectInit ∈ gdW := gin 72 (by decide +kernel) rfl
theorem kX5_9 : Cond.classLink RX5 9 "[[I" ∈ gdW := gin 73 (by decide +kernel) rfl
theorem obX3_3 : Cond.methodLink RX3 3 objectInit ∈ gdW := gin 122 (by decide +kernel) rfl
theorem kX3_9 : Cond.classLink RX3 9 RX2 ∈ gdW := gin 123 (by decide +kernel) rfl
theorem nX3_9 : ND RX3 9 2 := ⟨RX2, TX2, 10, rfl, rfl, kX3_9, gin 236 (by decide +kernel) rfl, gin 33 (by decide +kernel) rfl, uwX2, tyX2_ok, by decide +kernel⟩
theorem kX3_17 : Cond.classLink RX3 17 RX4 ∈ gdW := gin 125 (by decide +kernel) rfl
theorem nX3_17 : ND RX3 17 4 := ⟨RX4, TX4, 8, rfl, rfl, kX3_17, gin 126 (by decide +kernel) rfl, gin 31 (by decide +kernel) rfl, uwX4, tyX4_ok, by decide +kernel⟩
theorem obX4_3 : Cond.methodLink RX4 3 objectInit ∈ gdW := gin 130 (by decide +kernel) rfl
theorem kX3_24 : Cond.classLink RX3 24 RX1 ∈ gdW := gin 163 (by decide +kernel) rfl
theorem nX3_24 : ND RX3 24 1 := ⟨RX1, TX1, 2, rfl, rfl, kX3_24, gin 164 (by decide +kernel) rfl, gin 32 (by decide +kernel) rfl, uwX1, tyX1_ok, by decide +kernel⟩
theorem obX1_3 : Cond.methodLink RX1 3 objectInit ∈ gdW := gin 168 (by decide +kernel) rfl
theorem kX6_72 : Cond.classLink RX6 72 RX2 ∈ gdW := gin 235 (by decide +kernel) rfl
theorem nX6_72 : ND RX6 72 2 := ⟨RX2, TX2, 10, rfl, rfl, kX6_72, gin 236 (by decide +kernel) rfl, gin 33 (by decide +kernel) rfl, uwX2, tyX2_ok, by decide +kernel⟩
theorem obX2_3 : Cond.methodLink RX2 3 objectInit ∈ gdW := gin 240 (by decide +kernel) rfl
theorem cpX0_25 : Cond.methodLink RX0 25 arraycopyName ∈ gdW := gin 391 (by decide +kernel) rfl
theorem cpX6_198 : Cond.methodLink RX6 198 arraycopyName ∈ gdW := gin 407 (by decide +kernel) rfl
theorem ctX6_231 : Cond.constant RX6 231 1000000000 ∈ gdW := gin 527 (by decide +kernel) rfl
theorem kL_10 : Cond.classLink RL 10 RX7 ∈ gdW := gin 560 (by decide +kernel) rfl
theorem nL_10 : ND RL 10 7 := ⟨RX7, TX7, 34, rfl, rfl, kL_10, gin 561 (by decide +kernel) rfl, gin 29 (by decide +kernel) rfl, uwX7, tyX7_ok, by decide +kernel⟩
theorem obX7_1 : Cond.methodLink RX7 1 objectInit ∈ gdW := gin 565 (by decide +kernel) rfl
theorem ac_boolean : Cond.arrayClass .boolean ∈ gdW := gin 669 (by decide +kernel) rfl
theorem ctX7_172 : Cond.constant RX7 172 1000000000 ∈ gdW := gin 831 (by decide +kernel) rfl
theorem ob_i : Cond.instanceMethod objectInit ∈ gdW := gin 42 (by decide +kernel) rfl
theorem ob_c : Cond.code objectInit ⟨#[0xb1]⟩ 1 none ∈ gdW := gin 43 (by decide +kernel) rfl
theorem cp_n : Cond.native arraycopyName ∈ gdW := gin 393 (by decide +kernel) rfl
theorem cp_s : Cond.static arraycopyName ∈ gdW := gin 392 (by decide +kernel) rfl
theorem cp_i : Cond.initialized "java/lang/System" ∈ gdW := gin 35 (by decide +kernel) rfl
end
section
/-! THE MODEL'S CELLS: the object (2,0,0); the array of its field f is (2,0,f) -/
def mArr (f : Nat) : Bool := decide (2 ≤ f) && decide (f ≤ 33) && decide (f ≠ 27)
def ShM (S : Mm) : Prop := S.2.2 (2, 0, 0) = true ∧ ∀ f, mArr f = true → S.2.1 (2, 0, 0) f = some (2, 0, f) ∧ S.2.2 (2, 0, f) = true
/-- with mc machines, of lc i lanes each -/
def CtM (S : Mm) (mc : Nat) (lc : Nat → Nat) : Prop := S.1 (2, 0, 0) 1 = nI mc ∧ mc ≤ 6 ∧ ∀ i, i < 6 → S.1 (2, 0, 2) i = nI (lc i) ∧ lc i ≤ 8
def IM (S : Mm) (mc : Nat) (lc : Nat → Nat) : Prop := ShM S ∧ CtM S mc lc
/-- a refusal of the model -/
def rfM (S : Mm) (k : Nat) : Mm := wI S (2, 0, 30) k (S.1 (2, 0, 30) k + 1)
def okN (n : Nat) (x : Int32) : Prop := ∃ i, i < n ∧ x = nI i
theorem okN_no {n : Nat} {x : Int32} (hn : n < 2 ^ 31) (h : ¬ okN n x) : x < 0 ∨ nI n ≤ x := by
  rcases pk_ix x hn with a | a | a
  · exact Or.inl a
  · exact Or.inr a
  · exact absurd a h
theorem i32_le_t {x y : Int32} : x ≤ y ↔ x.toInt ≤ y.toInt := Int32.le_iff_toInt_le
theorem i32_lt_t {x y : Int32} : x < y ↔ x.toInt < y.toInt := Int32.lt_iff_toInt_lt
theorem in_t {i n : Nat} (hi : i < n) (hn : n < 2 ^ 31) : (0 : Int32) ≤ nI i ∧ nI i ≤ nI n - 1 := by
  obtain ⟨m, rfl⟩ : ∃ m, n = m + 1 := ⟨n - 1, by omega⟩
  rw [nI_pred]
  exact ⟨nI_pos' (by omega), nI_le (by omega) (by omega)⟩
theorem in_f {x : Int32} {n : Nat} (hn : n < 2 ^ 31) (h : ¬ okN n x) : ¬ ((0 : Int32) ≤ x ∧ x ≤ nI n - 1) := by
  intro ⟨h1, h2⟩
  rcases okN_no hn h with a | a
  · exact Int32.not_lt.mpr h1 a
  · cases n with
    | zero =>
      have e : nI 0 - 1 = -1 := by decide
      rw [e] at h2
      have := Int32.le_trans h1 h2
      exact absurd this (by decide)
    | succ m =>
      rw [nI_pred] at h2
      have := Int32.le_trans a h2
      rw [nI_leI (by omega) (by omega)] at this
      omega
theorem okW_t {i n : Nat} (hi : i ≤ n) (hn : n < 2 ^ 31) : (0 : Int32) ≤ nI i ∧ nI i ≤ nI n := ⟨nI_pos' (by omega), nI_le hi hn⟩
theorem okW_f {x : Int32} {n : Nat} (hn : n + 1 < 2 ^ 31) (h : ¬ okN (n + 1) x) : ¬ ((0 : Int32) ≤ x ∧ x ≤ nI n) := by
  have := in_f hn h
  rw [nI_pred] at this
  exact this
/-- products and sums of small numbers -/
theorem mulN (c i : Nat) : nI c * nI i = nI (c * i) := pk_mul c i
theorem ix8 (i j : Nat) : (8 : Int32) * nI i + nI j = nI (8 * i + j) := by
  show nI 8 * nI i + nI j = _
  rw [pk_mul, nI_add]
theorem ix6 (i j : Nat) : (6 : Int32) * nI i + nI j = nI (6 * i + j) := by
  show nI 6 * nI i + nI j = _
  rw [pk_mul, nI_add]
theorem cl (n : Nat) (h : n < 2 ^ 31 := by omega) : (nI n).toNatClampNeg = n := nI_clamp h
theorem vin {x : Int32} {n N : Nat} (e : x = nI n) (h : n < N) (hN : N < 2 ^ 31 := by decide) : vp_in x N := by rw [e]; exact vp_in_nI h hN
section GN
variable {X : Xt} {Y : Yt} {cc : ByteArray} {nL : Nat} {own : String} {cells slots : Nat} {S : Mm} {pc : Nat} {L : List (Nat × AV)} {st : List AV}
theorem g_ialdN (C : Cx X Y cc nL own) {k : Ln} {n i : Nat} (hk : kd k = (1, n)) (hlv : S.2.2 k = true) (hi : i < n) (hn : n < 2 ^ 31) (hd : decode cc pc = .ok (.iaload, 1)) (kk : G X Y cells slots S (pc + 1) L (vi (S.1 k i) :: st)) : G X Y cells slots S pc L (vi (nI i) :: vr k :: st) :=
  g_iald C hk hlv (vp_in_nI hi hn) hd (by rw [cl i]; exact kk)
theorem g_baldN (C : Cx X Y cc nL own) {k : Ln} {n i : Nat} (hk : kd k = (2, n)) (hlv : S.2.2 k = true) (hi : i < n) (hn : n < 2 ^ 31) (hd : decode cc pc = .ok (.baload, 1)) (kk : G X Y cells slots S (pc + 1) L (vi (S.1 k i) :: st)) : G X Y cells slots S pc L (vi (nI i) :: vr k :: st) :=
  g_bald C hk hlv (vp_in_nI hi hn) hd (by rw [cl i]; exact kk)
theorem g_iastN (C : Cx X Y cc nL own) {k : Ln} {n i : Nat} {x : Int32} (hk : kd k = (1, n)) (hlv : S.2.2 k = true) (hi : i < n) (hn : n < 2 ^ 31) (hd : decode cc pc = .ok (.iastore, 1)) (kk : G X Y cells slots (wI S k i x) (pc + 1) L st) : G X Y cells slots S pc L (vi x :: vi (nI i) :: vr k :: st) :=
  g_iast C hk hlv (vp_in_nI hi hn) hd (by rw [cl i]; exact kk)
theorem g_bastN (C : Cx X Y cc nL own) {k : Ln} {n i : Nat} {x : Int32} (hk : kd k = (2, n)) (hlv : S.2.2 k = true) (hi : i < n) (hn : n < 2 ^ 31) (hz : x = 0 ∨ x = 1) (hd : decode cc pc = .ok (.bastore, 1)) (kk : G X Y cells slots (wI S k i x) (pc + 1) L st) : G X Y cells slots S pc L (vi x :: vi (nI i) :: vr k :: st) :=
  g_bast C hk hlv (vp_in_nI hi hn) hz hd (by rw [cl i]; exact kk)
theorem g_aaldN (C : Cx X Y cc nL own) {k : Ln} {t n i : Nat} (hk : kd k = (t, n)) (ht : t = 3 ∨ t = 4 ∨ t = 5) (hlv : S.2.2 k = true) (hi : i < n) (hn : n < 2 ^ 31) {o : Option Ln} (ho : S.2.1 k i = o) (hd : decode cc pc = .ok (.aaload, 1)) (kk : G X Y cells slots S (pc + 1) L (.inr o :: st)) : G X Y cells slots S pc L (vi (nI i) :: vr k :: st) :=
  g_aald C hk ht hlv (vp_in_nI hi hn) (by rw [cl i]; exact ho) hd kk
theorem g_wldN (C : Cx X Y cc nL own) {i : Nat} (hi : i < 6) (hd : decode cc pc = .ok (.iaload, 1)) (kk : G X Y cells slots S (pc + 1) L (vi (wths i) :: st)) : G X Y cells slots S pc L (vi (nI i) :: vr wK :: st) :=
  g_wld C (vp_in_nI hi (by decide)) hd (by rw [cl i]; exact kk)
end GN
section GE
variable {X : Xt} {Y : Yt} {cells slots : Nat} {S : Mm} {pc : Nat} {L : List (Nat × AV)} {st : List AV}
theorem g_eqix2 {x : Int32} (y : Int32) (e : x = y) (k : G X Y cells slots S pc L (vi y :: st)) : G X Y cells slots S pc L (vi x :: st) := e ▸ k
theorem g_eqix3 {x : Int32} {v : AV} (y : Int32) (e : x = y) (k : G X Y cells slots S pc L (v :: vi y :: st)) : G X Y cells slots S pc L (v :: vi x :: st) := e ▸ k
end GE
end
section
/-! for loops: other lists of the locals; numbers that are known -/
def subL : List (Nat × AV) → List (Nat × AV) → Prop
  | [], _ => True
  | q :: t, L => lk L q.1 = some q.2 ∧ subL t L
theorem subL_mem : ∀ {L' L : List (Nat × AV)}, subL L' L → ∀ q ∈ L', q ∈ L
  | [], _, _, _, h => by cases h
  | a :: t, L, h, q, hq => by
    rcases List.mem_cons.mp hq with rfl | h1
    · exact lk_mem h.1
    · exact subL_mem h.2 q h1
section GL
variable {X : Xt} {Y : Yt} {cc : ByteArray} {nL : Nat} {own : String} {cells slots : Nat} {S : Mm} {pc : Nat} {L : List (Nat × AV)} {st : List AV}
theorem g_sub {L' : List (Nat × AV)} (h : subL L' L) (k : G X Y cells slots S pc L' st) : G X Y cells slots S pc L st :=
  fun ad H locs ls hI hl => k ad H locs ls hI ⟨hl.1, hl.2.1, fun q hq => hl.2.2 q (by
    obtain ⟨a, ha, rfl⟩ := List.mem_map.mp hq
    exact List.mem_map.mpr ⟨a, subL_mem h a ha, rfl⟩)⟩
theorem g_subR {L' : List (Nat × AV)} (k : G X Y cells slots S pc L' st) (h : subL L' L) : G X Y cells slots S pc L st := g_sub h k
theorem g_iincN (C : Cx X Y cc nL own) {i w : Nat} {n : Int} (c : Nat) (hd : decode cc pc = .ok (.iinc i n, 3)) (hl0 : lk L i = some (vi (nI w))) (hn : i < nL) (hv : Int32.ofInt n = nI c) (k : G X Y cells slots S (pc + 3) (sto L i (vi (nI (w + c)))) st) : G X Y cells slots S pc L st :=
  g_iinc C (nI c) hd hl0 hn hv (by rw [nI_add]; exact k)
end GL
/-- the worth of the first w kinds of coins -/
def wsum (g : Nat → Int32) : Nat → Int32
  | 0 => 0
  | w + 1 => wsum g w + g w * wths w
def csum (g : Nat → Int32) : Nat → Int32
  | 0 => 0
  | w + 1 => csum g w + g w
theorem tab_out {x : Int32} {n : Nat} (hn : n + 1 < 2 ^ 31) (h : ¬ okN (n + 1) x) : x.toInt < 0 ∨ (n : Int) < x.toInt := by
  rcases okN_no hn h with a | a
  · left
    have := Int32.lt_iff_toInt_lt.mp a
    simpa using this
  · right
    have := Int32.le_iff_toInt_le.mp a
    rw [nI_toInt hn] at this
    omega
def blw (p : Int32) : Int32 := if p < 10 ∨ ¬ p - p / 10 * 10 = 0 then 1 else 0
end
section
set_option maxHeartbeats 4000000 in
set_option maxRecDepth 100000 in
/-- in(v, low, high) -/
theorem c_in (l : Launch) (E : En) (base aw : Nat) (S : Mm) (v lo hi : Int32) : Cn l E base aw yX7_in cX7_in 3 (some Jvm.ClassFile.FieldType.boolean) 0 0 0 noF S [vi v, vi lo, vi hi] (fun r S' => r = some (vi (if lo ≤ v ∧ v ≤ hi then 1 else 0)) ∧ S' = S) := by
  refine Cn.of (by decide) (Nat.le_of_ble_eq_true rfl) ?_
  intro X Y hl hE hbase haw hfr C B
  subst hl; subst hE; subst hbase; subst haw
  refine g_iload_n (pc := 0) C dX7_in_0 rfl ?_
  refine g_iload_n (pc := 1) C dX7_in_1 rfl ?_
  refine g_icmp_lt (pc := 2) C 14 dX7_in_2 (by decide) (fun h2 => ?_) (fun h2 => ?_)
  ·
    refine g_iconst (pc := 14) C 0 dX7_in_14 (by decide) ?_
    exact g_iret (pc := 15) C B rfl dX7_in_15 (⟨by rw [if_neg (fun q => Int32.not_lt.mpr q.1 h2)], rfl⟩)
  ·
    refine g_iload_n (pc := 5) C dX7_in_5 rfl ?_
    refine g_iload_n (pc := 6) C dX7_in_6 rfl ?_
    refine g_icmp_gt (pc := 7) C 14 dX7_in_7 (by decide) (fun h7 => ?_) (fun h7 => ?_)
    ·
      refine g_iconst (pc := 14) C 0 dX7_in_14 (by decide) ?_
      exact g_iret (pc := 15) C B rfl dX7_in_15 (⟨by rw [if_neg (fun q => Int32.not_lt.mpr q.2 h7)], rfl⟩)
    ·
      refine g_iconst (pc := 10) C 1 dX7_in_10 (by decide) ?_
      refine g_goto (pc := 11) C 15 dX7_in_11 (by decide) ?_
      exact g_iret (pc := 15) C B rfl dX7_in_15 (⟨by rw [if_pos ⟨Int32.not_lt.mp h2, Int32.not_lt.mp h7⟩], rfl⟩)

set_option maxHeartbeats 4000000 in
set_option maxRecDepth 100000 in
/-- refuse(c), c = -k -/
theorem c_mrefuse (l : Launch) (E : En) (base aw : Nat) (S : Mm) (hM : ShM S) (c : Int32) (k : Nat) (hc : -c = nI k) (hk : k < 7) : Cn l E base aw yX7_refuse cX7_refuse 2 (some Jvm.ClassFile.FieldType.int) 0 0 0 noF S [vr (2, 0, 0), vi c] (fun r S' => r = some (vi c) ∧ S' = rfM S k) := by
  refine Cn.of (by decide) (Nat.le_of_ble_eq_true rfl) ?_
  intro X Y hl hE hbase haw hfr C B
  subst hl; subst hE; subst hbase; subst haw
  refine g_aload_n (pc := 0) C dX7_refuse_0 rfl ?_
  refine g_getr (pc := 1) C fX7_92 rfl hM.1 dX7_refuse_1 rfl (hM.2 30 rfl).1 ?_
  refine g_iload_n (pc := 4) C dX7_refuse_4 rfl ?_
  refine g_ineg (pc := 5) C dX7_refuse_5 ?_
  refine g_dup2 (pc := 6) C dX7_refuse_6 ?_
  refine g_iald (pc := 7) C rfl (hM.2 30 rfl).2 (by rw [hc]; exact vp_in_nI hk (by decide)) dX7_refuse_7 ?_
  refine g_iconst (pc := 8) C 1 dX7_refuse_8 (by decide) ?_
  refine g_iadd (pc := 9) C dX7_refuse_9 ?_
  refine g_iast (pc := 10) C rfl (hM.2 30 rfl).2 (by rw [hc]; exact vp_in_nI hk (by decide)) dX7_refuse_10 ?_
  refine g_iload_n (pc := 11) C dX7_refuse_11 rfl ?_
  exact g_iret (pc := 12) C B rfl dX7_refuse_12 (⟨rfl, by rw [hc, cl k (by omega)]; rfl⟩)

set_option maxHeartbeats 4000000 in
set_option maxRecDepth 100000 in
/-- worthOf(k) -/
theorem c_mworth (l : Launch) (E : En) (base aw : Nat) (S : Mm) (k : Nat) (hk : k < 6) : Cn l E base aw yX7_worthOf cX7_worthOf 1 (some Jvm.ClassFile.FieldType.int) 0 0 0 noF S [vi (nI k)] (fun r S' => r = some (vi (wths k)) ∧ S' = S) := by
  refine Cn.of (by decide) (Nat.le_of_ble_eq_true rfl) ?_
  intro X Y hl hE hbase haw hfr C B
  subst hl; subst hE; subst hbase; subst haw
  rcases (show k = 0 ∨ k = 1 ∨ k = 2 ∨ k = 3 ∨ k = 4 ∨ k = 5 by omega) with rfl | rfl | rfl | rfl | rfl | rfl
  ·
    refine g_iload_n (pc := 0) C dX7_worthOf_0 rfl ?_
    refine g_if_ne (pc := 1) C 10 dX7_worthOf_1 (by decide) (fun h1 => absurd (by decide) h1) (fun _ => ?_)
    refine g_sipush (pc := 4) C 500 dX7_worthOf_4 (by decide) ?_
    refine g_goto (pc := 7) C 53 dX7_worthOf_7 (by decide) ?_
    exact g_iret (pc := 53) C B rfl dX7_worthOf_53 (⟨rfl, rfl⟩)
  ·
    refine g_iload_n (pc := 0) C dX7_worthOf_0 rfl ?_
    refine g_if_ne (pc := 1) C 10 dX7_worthOf_1 (by decide) (fun _ => ?_) (fun h1 => absurd h1 (by decide))
    refine g_iload_n (pc := 10) C dX7_worthOf_10 rfl ?_
    refine g_iconst (pc := 11) C 1 dX7_worthOf_11 (by decide) ?_
    refine g_icmp_ne (pc := 12) C 21 dX7_worthOf_12 (by decide) (fun h12 => absurd (by decide) h12) (fun _ => ?_)
    refine g_sipush (pc := 15) C 200 dX7_worthOf_15 (by decide) ?_
    refine g_goto (pc := 18) C 53 dX7_worthOf_18 (by decide) ?_
    exact g_iret (pc := 53) C B rfl dX7_worthOf_53 (⟨rfl, rfl⟩)
  ·
    refine g_iload_n (pc := 0) C dX7_worthOf_0 rfl ?_
    refine g_if_ne (pc := 1) C 10 dX7_worthOf_1 (by decide) (fun _ => ?_) (fun h1 => absurd h1 (by decide))
    refine g_iload_n (pc := 10) C dX7_worthOf_10 rfl ?_
    refine g_iconst (pc := 11) C 1 dX7_worthOf_11 (by decide) ?_
    refine g_icmp_ne (pc := 12) C 21 dX7_worthOf_12 (by decide) (fun _ => ?_) (fun h12 => absurd h12 (by decide))
    refine g_iload_n (pc := 21) C dX7_worthOf_21 rfl ?_
    refine g_iconst (pc := 22) C 2 dX7_worthOf_22 (by decide) ?_
    refine g_icmp_ne (pc := 23) C 31 dX7_worthOf_23 (by decide) (fun h23 => absurd (by decide) h23) (fun _ => ?_)
    refine g_bipush (pc := 26) C 100 dX7_worthOf_26 (by decide) ?_
    refine g_goto (pc := 28) C 53 dX7_worthOf_28 (by decide) ?_
    exact g_iret (pc := 53) C B rfl dX7_worthOf_53 (⟨rfl, rfl⟩)
  ·
    refine g_iload_n (pc := 0) C dX7_worthOf_0 rfl ?_
    refine g_if_ne (pc := 1) C 10 dX7_worthOf_1 (by decide) (fun _ => ?_) (fun h1 => absurd h1 (by decide))
    refine g_iload_n (pc := 10) C dX7_worthOf_10 rfl ?_
    refine g_iconst (pc := 11) C 1 dX7_worthOf_11 (by decide) ?_
    refine g_icmp_ne (pc := 12) C 21 dX7_worthOf_12 (by decide) (fun _ => ?_) (fun h12 => absurd h12 (by decide))
    refine g_iload_n (pc := 21) C dX7_worthOf_21 rfl ?_
    refine g_iconst (pc := 22) C 2 dX7_worthOf_22 (by decide) ?_
    refine g_icmp_ne (pc := 23) C 31 dX7_worthOf_23 (by decide) (fun _ => ?_) (fun h23 => absurd h23 (by decide))
    refine g_iload_n (pc := 31) C dX7_worthOf_31 rfl ?_
    refine g_iconst (pc := 32) C 3 dX7_worthOf_32 (by decide) ?_
    refine g_icmp_ne (pc := 33) C 41 dX7_worthOf_33 (by decide) (fun h33 => absurd (by decide) h33) (fun _ => ?_)
    refine g_bipush (pc := 36) C 50 dX7_worthOf_36 (by decide) ?_
    refine g_goto (pc := 38) C 53 dX7_worthOf_38 (by decide) ?_
    exact g_iret (pc := 53) C B rfl dX7_worthOf_53 (⟨rfl, rfl⟩)
  ·
    refine g_iload_n (pc := 0) C dX7_worthOf_0 rfl ?_
    refine g_if_ne (pc := 1) C 10 dX7_worthOf_1 (by decide) (fun _ => ?_) (fun h1 => absurd h1 (by decide))
    refine g_iload_n (pc := 10) C dX7_worthOf_10 rfl ?_
    refine g_iconst (pc := 11) C 1 dX7_worthOf_11 (by decide) ?_
    refine g_icmp_ne (pc := 12) C 21 dX7_worthOf_12 (by decide) (fun _ => ?_) (fun h12 => absurd h12 (by decide))
    refine g_iload_n (pc := 21) C dX7_worthOf_21 rfl ?_
    refine g_iconst (pc := 22) C 2 dX7_worthOf_22 (by decide) ?_
    refine g_icmp_ne (pc := 23) C 31 dX7_worthOf_23 (by decide) (fun _ => ?_) (fun h23 => absurd h23 (by decide))
    refine g_iload_n (pc := 31) C dX7_worthOf_31 rfl ?_
    refine g_iconst (pc := 32) C 3 dX7_worthOf_32 (by decide) ?_
    refine g_icmp_ne (pc := 33) C 41 dX7_worthOf_33 (by decide) (fun _ => ?_) (fun h33 => absurd h33 (by decide))
    refine g_iload_n (pc := 41) C dX7_worthOf_41 rfl ?_
    refine g_iconst (pc := 42) C 4 dX7_worthOf_42 (by decide) ?_
    refine g_icmp_ne (pc := 43) C 51 dX7_worthOf_43 (by decide) (fun h43 => absurd (by decide) h43) (fun _ => ?_)
    refine g_bipush (pc := 46) C 20 dX7_worthOf_46 (by decide) ?_
    refine g_goto (pc := 48) C 53 dX7_worthOf_48 (by decide) ?_
    exact g_iret (pc := 53) C B rfl dX7_worthOf_53 (⟨rfl, rfl⟩)
  ·
    refine g_iload_n (pc := 0) C dX7_worthOf_0 rfl ?_
    refine g_if_ne (pc := 1) C 10 dX7_worthOf_1 (by decide) (fun _ => ?_) (fun h1 => absurd h1 (by decide))
    refine g_iload_n (pc := 10) C dX7_worthOf_10 rfl ?_
    refine g_iconst (pc := 11) C 1 dX7_worthOf_11 (by decide) ?_
    refine g_icmp_ne (pc := 12) C 21 dX7_worthOf_12 (by decide) (fun _ => ?_) (fun h12 => absurd h12 (by decide))
    refine g_iload_n (pc := 21) C dX7_worthOf_21 rfl ?_
    refine g_iconst (pc := 22) C 2 dX7_worthOf_22 (by decide) ?_
    refine g_icmp_ne (pc := 23) C 31 dX7_worthOf_23 (by decide) (fun _ => ?_) (fun h23 => absurd h23 (by decide))
    refine g_iload_n (pc := 31) C dX7_worthOf_31 rfl ?_
    refine g_iconst (pc := 32) C 3 dX7_worthOf_32 (by decide) ?_
    refine g_icmp_ne (pc := 33) C 41 dX7_worthOf_33 (by decide) (fun _ => ?_) (fun h33 => absurd h33 (by decide))
    refine g_iload_n (pc := 41) C dX7_worthOf_41 rfl ?_
    refine g_iconst (pc := 42) C 4 dX7_worthOf_42 (by decide) ?_
    refine g_icmp_ne (pc := 43) C 51 dX7_worthOf_43 (by decide) (fun _ => ?_) (fun h43 => absurd h43 (by decide))
    refine g_bipush (pc := 51) C 10 dX7_worthOf_51 (by decide) ?_
    exact g_iret (pc := 53) C B rfl dX7_worthOf_53 (⟨rfl, rfl⟩)

set_option maxHeartbeats 4000000 in
set_option maxRecDepth 100000 in
/-- isBelow(p) -/
theorem c_mbelow (l : Launch) (E : En) (base aw : Nat) (S : Mm) (p : Int32) : Cn l E base aw yX7_isBelow cX7_isBelow 1 (some Jvm.ClassFile.FieldType.boolean) 0 0 0 noF S [vi p] (fun r S' => r = some (vi (if p < 10 ∨ ¬ p - p / 10 * 10 = 0 then 1 else 0)) ∧ S' = S) := by
  refine Cn.of (by decide) (Nat.le_of_ble_eq_true rfl) ?_
  intro X Y hl hE hbase haw hfr C B
  subst hl; subst hE; subst hbase; subst haw
  refine g_iload_n (pc := 0) C dX7_isBelow_0 rfl ?_
  refine g_bipush (pc := 1) C 10 dX7_isBelow_1 (by decide) ?_
  refine g_icmp_lt (pc := 3) C 13 dX7_isBelow_3 (by decide) (fun h3 => ?_) (fun h3 => ?_)
  ·
    refine g_iconst (pc := 13) C 1 dX7_isBelow_13 (by decide) ?_
    refine g_goto (pc := 14) C 18 dX7_isBelow_14 (by decide) ?_
    exact g_iret (pc := 18) C B rfl dX7_isBelow_18 (⟨by rw [if_pos (Or.inl h3)], rfl⟩)
  ·
    refine g_iload_n (pc := 6) C dX7_isBelow_6 rfl ?_
    refine g_bipush (pc := 7) C 10 dX7_isBelow_7 (by decide) ?_
    refine g_irem (pc := 9) C dX7_isBelow_9 (by decide) ?_
    refine g_if_eq (pc := 10) C 17 dX7_isBelow_10 (by decide) (fun h10 => ?_) (fun h10 => ?_)
    ·
      refine g_iconst (pc := 17) C 0 dX7_isBelow_17 (by decide) ?_
      exact g_iret (pc := 18) C B rfl dX7_isBelow_18 (⟨by rw [if_neg (fun q => q.elim h3 (fun z => z h10))], rfl⟩)
    ·
      refine g_iconst (pc := 13) C 1 dX7_isBelow_13 (by decide) ?_
      refine g_goto (pc := 14) C 18 dX7_isBelow_14 (by decide) ?_
      exact g_iret (pc := 18) C B rfl dX7_isBelow_18 (⟨by rw [if_pos (Or.inr h10)], rfl⟩)

set_option maxHeartbeats 4000000 in
set_option maxRecDepth 100000 in
/-- isMachine, of one that is -/
theorem c_isM_t (l : Launch) (E : En) (base aw : Nat) (S : Mm) (mc : Nat) (lc : Nat → Nat) (hI : IM S mc lc) (i : Nat) (hi : i < mc) : Cn l E base aw yX7_isMachine cX7_isMachine 2 (some Jvm.ClassFile.FieldType.boolean) 1 0 0 noF S [vr (2, 0, 0), vi (nI i)] (fun r S' => r = some (vi 1) ∧ S' = S) := by
  refine Cn.of (by decide) (Nat.le_of_ble_eq_true rfl) ?_
  intro X Y hl hE hbase haw hfr C B
  subst hl; subst hE; subst hbase; subst haw
  have hM := hI.1
  refine g_iload_n (pc := 0) C dX7_isMachine_0 rfl ?_
  refine g_iconst (pc := 1) C 0 dX7_isMachine_1 (by decide) ?_
  refine g_aload_n (pc := 2) C dX7_isMachine_2 rfl ?_
  refine g_geti (pc := 3) C fX7_104 rfl hM.1 dX7_isMachine_3 rfl ?_
  refine g_iconst (pc := 6) C 1 dX7_isMachine_6 (by decide) ?_
  refine g_isub (pc := 7) C dX7_isMachine_7 ?_
  refine g_callS (pc := 8) C B mX7_108 (c_in _ _ _ _ _ _ _ _) rfl rfl (by decide) ⟨Nat.le_refl _, Nat.le_refl _⟩ (Nat.le_of_ble_eq_true rfl) dX7_isMachine_8 (fun r S' hP => ?_)
  obtain ⟨rfl, rfl⟩ := hP
  exact g_iret (pc := 11) C B (by rw [hI.2.1, if_pos (in_t hi (by have := hI.2.2.1; omega))]; rfl) dX7_isMachine_11 (⟨by rw [hI.2.1, if_pos (in_t hi (by have := hI.2.2.1; omega))], rfl⟩)

set_option maxHeartbeats 4000000 in
set_option maxRecDepth 100000 in
/-- isMachine, of one that is none -/
theorem c_isM_f (l : Launch) (E : En) (base aw : Nat) (S : Mm) (mc : Nat) (lc : Nat → Nat) (hI : IM S mc lc) (x : Int32) (hx : ¬ okN mc x) : Cn l E base aw yX7_isMachine cX7_isMachine 2 (some Jvm.ClassFile.FieldType.boolean) 1 0 0 noF S [vr (2, 0, 0), vi x] (fun r S' => r = some (vi 0) ∧ S' = S) := by
  refine Cn.of (by decide) (Nat.le_of_ble_eq_true rfl) ?_
  intro X Y hl hE hbase haw hfr C B
  subst hl; subst hE; subst hbase; subst haw
  have hM := hI.1
  refine g_iload_n (pc := 0) C dX7_isMachine_0 rfl ?_
  refine g_iconst (pc := 1) C 0 dX7_isMachine_1 (by decide) ?_
  refine g_aload_n (pc := 2) C dX7_isMachine_2 rfl ?_
  refine g_geti (pc := 3) C fX7_104 rfl hM.1 dX7_isMachine_3 rfl ?_
  refine g_iconst (pc := 6) C 1 dX7_isMachine_6 (by decide) ?_
  refine g_isub (pc := 7) C dX7_isMachine_7 ?_
  refine g_callS (pc := 8) C B mX7_108 (c_in _ _ _ _ _ _ _ _) rfl rfl (by decide) ⟨Nat.le_refl _, Nat.le_refl _⟩ (Nat.le_of_ble_eq_true rfl) dX7_isMachine_8 (fun r S' hP => ?_)
  obtain ⟨rfl, rfl⟩ := hP
  exact g_iret (pc := 11) C B (by rw [hI.2.1, if_neg (in_f (by have := hI.2.2.1; omega) hx)]; rfl) dX7_isMachine_11 (⟨by rw [hI.2.1, if_neg (in_f (by have := hI.2.2.1; omega) hx)], rfl⟩)
end
section
set_option maxHeartbeats 4000000 in
set_option maxRecDepth 100000 in
theorem c_in_t (l : Launch) (E : En) (base aw : Nat) (S : Mm) (v lo hi : Int32) (h : lo ≤ v ∧ v ≤ hi) : Cn l E base aw yX7_in cX7_in 3 (some Jvm.ClassFile.FieldType.boolean) 0 0 0 noF S [vi v, vi lo, vi hi] (fun r S' => r = some (vi 1) ∧ S' = S) := by
  refine Cn.of (by decide) (Nat.le_of_ble_eq_true rfl) ?_
  intro X Y hl hE hbase haw hfr C B
  subst hl; subst hE; subst hbase; subst haw
  refine g_iload_n (pc := 0) C dX7_in_0 rfl ?_
  refine g_iload_n (pc := 1) C dX7_in_1 rfl ?_
  refine g_icmp_lt (pc := 2) C 14 dX7_in_2 (by decide) (fun h2 => absurd h2 (Int32.not_lt.mpr h.1)) (fun _ => ?_)
  refine g_iload_n (pc := 5) C dX7_in_5 rfl ?_
  refine g_iload_n (pc := 6) C dX7_in_6 rfl ?_
  refine g_icmp_gt (pc := 7) C 14 dX7_in_7 (by decide) (fun h7 => absurd h7 (Int32.not_lt.mpr h.2)) (fun _ => ?_)
  refine g_iconst (pc := 10) C 1 dX7_in_10 (by decide) ?_
  refine g_goto (pc := 11) C 15 dX7_in_11 (by decide) ?_
  exact g_iret (pc := 15) C B rfl dX7_in_15 (⟨rfl, rfl⟩)

set_option maxHeartbeats 4000000 in
set_option maxRecDepth 100000 in
theorem c_in_f (l : Launch) (E : En) (base aw : Nat) (S : Mm) (v lo hi : Int32) (h : ¬ (lo ≤ v ∧ v ≤ hi)) : Cn l E base aw yX7_in cX7_in 3 (some Jvm.ClassFile.FieldType.boolean) 0 0 0 noF S [vi v, vi lo, vi hi] (fun r S' => r = some (vi 0) ∧ S' = S) := by
  refine Cn.of (by decide) (Nat.le_of_ble_eq_true rfl) ?_
  intro X Y hl hE hbase haw hfr C B
  subst hl; subst hE; subst hbase; subst haw
  refine g_iload_n (pc := 0) C dX7_in_0 rfl ?_
  refine g_iload_n (pc := 1) C dX7_in_1 rfl ?_
  refine g_icmp_lt (pc := 2) C 14 dX7_in_2 (by decide) (fun h2 => ?_) (fun h2 => ?_)
  ·
    refine g_iconst (pc := 14) C 0 dX7_in_14 (by decide) ?_
    exact g_iret (pc := 15) C B rfl dX7_in_15 (⟨rfl, rfl⟩)
  ·
    refine g_iload_n (pc := 5) C dX7_in_5 rfl ?_
    refine g_iload_n (pc := 6) C dX7_in_6 rfl ?_
    refine g_icmp_gt (pc := 7) C 14 dX7_in_7 (by decide) (fun h7 => ?_) (fun h7 => ?_)
    ·
      refine g_iconst (pc := 14) C 0 dX7_in_14 (by decide) ?_
      exact g_iret (pc := 15) C B rfl dX7_in_15 (⟨rfl, rfl⟩)
    ·
      refine g_iconst (pc := 10) C 1 dX7_in_10 (by decide) ?_
      refine g_goto (pc := 11) C 15 dX7_in_11 (by decide) ?_
      exact g_iret (pc := 15) C B rfl dX7_in_15 (absurd ⟨Int32.not_lt.mp h2, Int32.not_lt.mp h7⟩ h)

def okL (mc : Nat) (lc : Nat → Nat) (x y : Int32) : Prop := ∃ i j, i < mc ∧ j < lc i ∧ x = nI i ∧ y = nI j
set_option maxHeartbeats 4000000 in
set_option maxRecDepth 100000 in
theorem c_isL_t (l : Launch) (E : En) (base aw : Nat) (S : Mm) (mc : Nat) (lc : Nat → Nat) (hI : IM S mc lc) (i : Nat) (hi : i < mc) (j : Nat) (hj : j < lc i) : Cn l E base aw yX7_isLane cX7_isLane 3 (some Jvm.ClassFile.FieldType.boolean) 2 0 0 noF S [vr (2, 0, 0), vi (nI i), vi (nI j)] (fun r S' => r = some (vi 1) ∧ S' = S) := by
  have hM := hI.1
  have hmc := hI.2.2.1
  have hlc := (hI.2.2.2 i (by omega)).2
  refine Cn.of (by decide) (Nat.le_of_ble_eq_true rfl) ?_
  intro X Y hl hE hbase haw hfr C B
  subst hl; subst hE; subst hbase; subst haw
  refine g_aload_n (pc := 0) C dX7_isLane_0 rfl ?_
  refine g_iload_n (pc := 1) C dX7_isLane_1 rfl ?_
  refine g_callV (pc := 2) C B mX7_112 (c_isM_t _ _ _ _ _ mc lc hI i hi) rfl rfl rfl rfl hM.1 (by decide) ⟨Nat.le_refl _, Nat.le_refl _⟩ (Nat.le_of_ble_eq_true rfl) dX7_isLane_2 (fun r S' hP => ?_)
  rw [hP.1, hP.2]
  refine g_if_eq (pc := 5) C 28 dX7_isLane_5 (by decide) (fun h5 => absurd h5 (by decide)) (fun _ => ?_)
  refine g_iload_n (pc := 8) C dX7_isLane_8 rfl ?_
  refine g_iconst (pc := 9) C 0 dX7_isLane_9 (by decide) ?_
  refine g_aload_n (pc := 10) C dX7_isLane_10 rfl ?_
  refine g_getr (pc := 11) C fX7_7 rfl hM.1 dX7_isLane_11 rfl (hM.2 2 rfl).1 ?_
  refine g_iload_n (pc := 14) C dX7_isLane_14 rfl ?_
  refine g_ialdN (pc := 15) C rfl (hM.2 2 rfl).2 (by omega) (by decide) dX7_isLane_15 ?_
  refine g_iconst (pc := 16) C 1 dX7_isLane_16 (by decide) ?_
  refine g_isub (pc := 17) C dX7_isLane_17 ?_
  refine g_callS (pc := 18) C B mX7_108 (c_in_t _ _ _ _ _ _ _ _ (by rw [(hI.2.2.2 i (by omega)).1]; exact in_t hj (by omega))) rfl rfl (by decide) ⟨Nat.le_refl _, Nat.le_refl _⟩ (Nat.le_of_ble_eq_true rfl) dX7_isLane_18 (fun r S' hP => ?_)
  rw [hP.1, hP.2]
  refine g_if_eq (pc := 21) C 28 dX7_isLane_21 (by decide) (fun h21 => absurd h21 (by decide)) (fun _ => ?_)
  refine g_iconst (pc := 24) C 1 dX7_isLane_24 (by decide) ?_
  refine g_goto (pc := 25) C 29 dX7_isLane_25 (by decide) ?_
  exact g_iret (pc := 29) C B rfl dX7_isLane_29 (⟨rfl, rfl⟩)

set_option maxHeartbeats 4000000 in
set_option maxRecDepth 100000 in
theorem c_isL_f (l : Launch) (E : En) (base aw : Nat) (S : Mm) (mc : Nat) (lc : Nat → Nat) (hI : IM S mc lc) (x y : Int32) (hx : ¬ okL mc lc x y) : Cn l E base aw yX7_isLane cX7_isLane 3 (some Jvm.ClassFile.FieldType.boolean) 2 0 0 noF S [vr (2, 0, 0), vi x, vi y] (fun r S' => r = some (vi 0) ∧ S' = S) := by
  have hM := hI.1
  have hmc := hI.2.2.1
  by_cases hm : okN mc x
  ·
    obtain ⟨i, hi, rfl⟩ := hm
    have hlc := (hI.2.2.2 i (by omega)).2
    have hy : ¬ okN (lc i) y := fun ⟨j, hj, e⟩ => hx ⟨i, j, hi, hj, rfl, e⟩
    refine Cn.of (by decide) (Nat.le_of_ble_eq_true rfl) ?_
    intro X Y hl hE hbase haw hfr C B
    subst hl; subst hE; subst hbase; subst haw
    refine g_aload_n (pc := 0) C dX7_isLane_0 rfl ?_
    refine g_iload_n (pc := 1) C dX7_isLane_1 rfl ?_
    refine g_callV (pc := 2) C B mX7_112 (c_isM_t _ _ _ _ _ mc lc hI i hi) rfl rfl rfl rfl hM.1 (by decide) ⟨Nat.le_refl _, Nat.le_refl _⟩ (Nat.le_of_ble_eq_true rfl) dX7_isLane_2 (fun r S' hP => ?_)
    rw [hP.1, hP.2]
    refine g_if_eq (pc := 5) C 28 dX7_isLane_5 (by decide) (fun h5 => absurd h5 (by decide)) (fun _ => ?_)
    refine g_iload_n (pc := 8) C dX7_isLane_8 rfl ?_
    refine g_iconst (pc := 9) C 0 dX7_isLane_9 (by decide) ?_
    refine g_aload_n (pc := 10) C dX7_isLane_10 rfl ?_
    refine g_getr (pc := 11) C fX7_7 rfl hM.1 dX7_isLane_11 rfl (hM.2 2 rfl).1 ?_
    refine g_iload_n (pc := 14) C dX7_isLane_14 rfl ?_
    refine g_ialdN (pc := 15) C rfl (hM.2 2 rfl).2 (by omega) (by decide) dX7_isLane_15 ?_
    refine g_iconst (pc := 16) C 1 dX7_isLane_16 (by decide) ?_
    refine g_isub (pc := 17) C dX7_isLane_17 ?_
    refine g_callS (pc := 18) C B mX7_108 (c_in_f _ _ _ _ _ _ _ _ (by rw [(hI.2.2.2 i (by omega)).1]; exact in_f (by omega) hy)) rfl rfl (by decide) ⟨Nat.le_refl _, Nat.le_refl _⟩ (Nat.le_of_ble_eq_true rfl) dX7_isLane_18 (fun r S' hP => ?_)
    rw [hP.1, hP.2]
    refine g_if_eq (pc := 21) C 28 dX7_isLane_21 (by decide) (fun _ => ?_) (fun h21 => absurd (by decide) h21)
    refine g_iconst (pc := 28) C 0 dX7_isLane_28 (by decide) ?_
    exact g_iret (pc := 29) C B rfl dX7_isLane_29 (⟨rfl, rfl⟩)
  ·
    have hx := hm
    refine Cn.of (by decide) (Nat.le_of_ble_eq_true rfl) ?_
    intro X Y hl hE hbase haw hfr C B
    subst hl; subst hE; subst hbase; subst haw
    refine g_aload_n (pc := 0) C dX7_isLane_0 rfl ?_
    refine g_iload_n (pc := 1) C dX7_isLane_1 rfl ?_
    refine g_callV (pc := 2) C B mX7_112 (c_isM_f _ _ _ _ _ mc lc hI x hx) rfl rfl rfl rfl hM.1 (by decide) ⟨Nat.le_refl _, Nat.le_refl _⟩ (Nat.le_of_ble_eq_true rfl) dX7_isLane_2 (fun r S' hP => ?_)
    rw [hP.1, hP.2]
    refine g_if_eq (pc := 5) C 28 dX7_isLane_5 (by decide) (fun _ => ?_) (fun h5 => absurd (by decide) h5)
    refine g_iconst (pc := 28) C 0 dX7_isLane_28 (by decide) ?_
    exact g_iret (pc := 29) C B rfl dX7_isLane_29 (⟨rfl, rfl⟩)

def t_X7_machine (S : Mm)  : Option AV × Mm := if (S.1 (2, 0, 0) 1) = 6 then (some (vi ((-6))), rfM S 6) else (some (vi (((wI S (2, 0, 0) 1 ((S.1 (2, 0, 0) 1) + 1)).1 (2, 0, 0) 1) - 1)), wI S (2, 0, 0) 1 ((S.1 (2, 0, 0) 1) + 1))
set_option maxHeartbeats 4000000 in
set_option maxRecDepth 100000 in
/-- machine() -/
theorem c_X7_machine (l : Launch) (E : En) (base aw : Nat) (S : Mm) (mc : Nat) (lc : Nat → Nat) (hI : IM S mc lc) : Cn l E base aw yX7_machine cX7_machine 1 (some Jvm.ClassFile.FieldType.int) 1 0 0 noF S [vr (2, 0, 0)] (fun r S' => (r, S') = t_X7_machine S ) := by
  have hM := hI.1
  have hmc := hI.2.2.1
  refine Cn.of (by decide) (Nat.le_of_ble_eq_true rfl) ?_
  intro X Y hl hE hbase haw hfr C B
  subst hl; subst hE; subst hbase; subst haw
  refine g_aload_n (pc := 0) C dX7_machine_0 rfl ?_
  refine g_geti (pc := 1) C fX7_104 rfl hM.1 dX7_machine_1 rfl ?_
  refine g_bipush (pc := 4) C 6 dX7_machine_4 (by decide) ?_
  refine g_icmp_ne (pc := 6) C 16 dX7_machine_6 (by decide) (fun h6 => ?_) (fun h6 => ?_)
  ·
    refine g_aload_n (pc := 16) C dX7_machine_16 rfl ?_
    refine g_dup (pc := 17) C dX7_machine_17 ?_
    refine g_geti (pc := 18) C fX7_104 rfl hM.1 dX7_machine_18 rfl ?_
    refine g_iconst (pc := 21) C 1 dX7_machine_21 (by decide) ?_
    refine g_iadd (pc := 22) C dX7_machine_22 ?_
    refine g_puti (pc := 23) C fX7_104 (Or.inl fm7_1) rfl hM.1 dX7_machine_23 (Or.inl rfl) ?_
    refine g_aload_n (pc := 26) C dX7_machine_26 rfl ?_
    refine g_geti (pc := 27) C fX7_104 rfl hM.1 dX7_machine_27 rfl ?_
    refine g_iconst (pc := 30) C 1 dX7_machine_30 (by decide) ?_
    refine g_isub (pc := 31) C dX7_machine_31 ?_
    exact g_iret (pc := 32) C B rfl dX7_machine_32 (by show (_, _) = t_X7_machine S ; unfold t_X7_machine; rw [if_neg h6])
  ·
    refine g_aload_n (pc := 9) C dX7_machine_9 rfl ?_
    refine g_bipush (pc := 10) C (-6) dX7_machine_10 (by decide) ?_
    refine g_callV (pc := 12) C B mX7_116 (c_mrefuse _ _ _ _ _ hM (-6) 6 (by decide) (by decide)) rfl rfl rfl rfl hM.1 (by decide) ⟨Nat.le_refl _, Nat.le_refl _⟩ (Nat.le_of_ble_eq_true rfl) dX7_machine_12 (fun r S' hP => ?_)
    rw [hP.1, hP.2]
    exact g_iret (pc := 15) C B rfl dX7_machine_15 (by show (_, _) = t_X7_machine S ; unfold t_X7_machine; rw [if_pos h6])

def t_X7_size (S : Mm) (g : Nat) (v : Int32) : Option AV × Mm := if 1 ≤ v then (if v ≤ 9 then (some (vi (S.1 (2, 0, 20) g)), wI S (2, 0, 20) g v) else (some (vi ((-6))), rfM S 6)) else (some (vi ((-4))), rfM S 4)
set_option maxHeartbeats 4000000 in
set_option maxRecDepth 100000 in
/-- size(g, v) -/
theorem c_X7_size (l : Launch) (E : En) (base aw : Nat) (S : Mm) (hM : ShM S) (g : Nat) (hg : g < 16) (v : Int32) : Cn l E base aw yX7_size cX7_size 4 (some Jvm.ClassFile.FieldType.int) 1 0 0 noF S [vr (2, 0, 0), vi (nI g), vi v] (fun r S' => (r, S') = t_X7_size S g v) := by
  refine Cn.of (by decide) (Nat.le_of_ble_eq_true rfl) ?_
  intro X Y hl hE hbase haw hfr C B
  subst hl; subst hE; subst hbase; subst haw
  refine g_iload_n (pc := 0) C dX7_size_0 rfl ?_
  refine g_iconst (pc := 1) C 0 dX7_size_1 (by decide) ?_
  refine g_bipush (pc := 2) C 15 dX7_size_2 (by decide) ?_
  refine g_callS (pc := 4) C B mX7_108 (c_in_t _ _ _ _ _ _ _ _ (okW_t (n := 15) (by omega) (by decide))) rfl rfl (by decide) ⟨Nat.le_refl _, Nat.le_refl _⟩ (Nat.le_of_ble_eq_true rfl) dX7_size_4 (fun r S' hP => ?_)
  rw [hP.1, hP.2]
  refine g_if_ne (pc := 7) C 16 dX7_size_7 (by decide) (fun _ => ?_) (fun h7 => absurd h7 (by decide))
  refine g_iload_n (pc := 16) C dX7_size_16 rfl ?_
  refine g_iconst (pc := 17) C 1 dX7_size_17 (by decide) ?_
  refine g_icmp_ge (pc := 18) C 28 dX7_size_18 (by decide) (fun h18 => ?_) (fun h18 => ?_)
  ·
    refine g_iload_n (pc := 28) C dX7_size_28 rfl ?_
    refine g_bipush (pc := 29) C 9 dX7_size_29 (by decide) ?_
    refine g_icmp_le (pc := 31) C 41 dX7_size_31 (by decide) (fun h31 => ?_) (fun h31 => ?_)
    ·
      refine g_aload_n (pc := 41) C dX7_size_41 rfl ?_
      refine g_getr (pc := 42) C fX7_65 rfl hM.1 dX7_size_42 rfl (hM.2 20 rfl).1 ?_
      refine g_iload_n (pc := 45) C dX7_size_45 rfl ?_
      refine g_ialdN (pc := 46) C rfl (hM.2 20 rfl).2 (by omega) (by decide) dX7_size_46 ?_
      refine g_istore_n (pc := 47) C dX7_size_47 (by decide) ?_
      refine g_aload_n (pc := 48) C dX7_size_48 rfl ?_
      refine g_getr (pc := 49) C fX7_65 rfl hM.1 dX7_size_49 rfl (hM.2 20 rfl).1 ?_
      refine g_iload_n (pc := 52) C dX7_size_52 rfl ?_
      refine g_iload_n (pc := 53) C dX7_size_53 rfl ?_
      refine g_iastN (pc := 54) C rfl (hM.2 20 rfl).2 (by omega) (by decide) dX7_size_54 ?_
      refine g_iload_n (pc := 55) C dX7_size_55 rfl ?_
      exact g_iret (pc := 56) C B rfl dX7_size_56 (by show (_, _) = t_X7_size S g v; unfold t_X7_size; rw [if_pos h18, if_pos h31])
    ·
      refine g_aload_n (pc := 34) C dX7_size_34 rfl ?_
      refine g_bipush (pc := 35) C (-6) dX7_size_35 (by decide) ?_
      refine g_callV (pc := 37) C B mX7_116 (c_mrefuse _ _ _ _ _ hM (-6) 6 (by decide) (by decide)) rfl rfl rfl rfl hM.1 (by decide) ⟨Nat.le_refl _, Nat.le_refl _⟩ (Nat.le_of_ble_eq_true rfl) dX7_size_37 (fun r S' hP => ?_)
      rw [hP.1, hP.2]
      exact g_iret (pc := 40) C B rfl dX7_size_40 (by show (_, _) = t_X7_size S g v; unfold t_X7_size; rw [if_pos h18, if_neg h31])
  ·
    refine g_aload_n (pc := 21) C dX7_size_21 rfl ?_
    refine g_bipush (pc := 22) C (-4) dX7_size_22 (by decide) ?_
    refine g_callV (pc := 24) C B mX7_116 (c_mrefuse _ _ _ _ _ hM (-4) 4 (by decide) (by decide)) rfl rfl rfl rfl hM.1 (by decide) ⟨Nat.le_refl _, Nat.le_refl _⟩ (Nat.le_of_ble_eq_true rfl) dX7_size_24 (fun r S' hP => ?_)
    rw [hP.1, hP.2]
    exact g_iret (pc := 27) C B rfl dX7_size_27 (by show (_, _) = t_X7_size S g v; unfold t_X7_size; rw [if_neg h18])

set_option maxHeartbeats 4000000 in
set_option maxRecDepth 100000 in
theorem c_X7_size_b (l : Launch) (E : En) (base aw : Nat) (S : Mm) (hM : ShM S) (p0 p1 : Int32) (hx : ¬ okN 16 p0) : Cn l E base aw yX7_size cX7_size 4 (some Jvm.ClassFile.FieldType.int) 1 0 0 noF S [vr (2, 0, 0), vi p0, vi p1] (fun r S' => r = some (vi (-1)) ∧ S' = rfM S 1) := by
  refine Cn.of (by decide) (Nat.le_of_ble_eq_true rfl) ?_
  intro X Y hl hE hbase haw hfr C B
  subst hl; subst hE; subst hbase; subst haw
  refine g_iload_n (pc := 0) C dX7_size_0 rfl ?_
  refine g_iconst (pc := 1) C 0 dX7_size_1 (by decide) ?_
  refine g_bipush (pc := 2) C 15 dX7_size_2 (by decide) ?_
  refine g_callS (pc := 4) C B mX7_108 (c_in_f _ _ _ _ _ _ _ _ (okW_f (n := 15) (by decide) hx)) rfl rfl (by decide) ⟨Nat.le_refl _, Nat.le_refl _⟩ (Nat.le_of_ble_eq_true rfl) dX7_size_4 (fun r S' hP => ?_)
  rw [hP.1, hP.2]
  refine g_if_ne (pc := 7) C 16 dX7_size_7 (by decide) (fun h7 => absurd (by decide) h7) (fun _ => ?_)
  refine g_aload_n (pc := 10) C dX7_size_10 rfl ?_
  refine g_iconst (pc := 11) C (-1) dX7_size_11 (by decide) ?_
  refine g_callV (pc := 12) C B mX7_116 (c_mrefuse _ _ _ _ _ hM (-1) 1 (by decide) (by decide)) rfl rfl rfl rfl hM.1 (by decide) ⟨Nat.le_refl _, Nat.le_refl _⟩ (Nat.le_of_ble_eq_true rfl) dX7_size_12 (fun r S' hP => ?_)
  rw [hP.1, hP.2]
  exact g_iret (pc := 15) C B rfl dX7_size_15 (⟨rfl, rfl⟩)

set_option maxHeartbeats 4000000 in
set_option maxRecDepth 100000 in
theorem c_X7_given_b (l : Launch) (E : En) (base aw : Nat) (S : Mm) (hM : ShM S) (p0 : Int32) (hx : ¬ okN 6 p0) : Cn l E base aw yX7_given cX7_given 2 (some Jvm.ClassFile.FieldType.int) 1 0 0 noF S [vr (2, 0, 0), vi p0] (fun r S' => r = some (vi (-1)) ∧ S' = rfM S 1) := by
  refine Cn.of (by decide) (Nat.le_of_ble_eq_true rfl) ?_
  intro X Y hl hE hbase haw hfr C B
  subst hl; subst hE; subst hbase; subst haw
  refine g_iload_n (pc := 0) C dX7_given_0 rfl ?_
  refine g_iconst (pc := 1) C 0 dX7_given_1 (by decide) ?_
  refine g_iconst (pc := 2) C 5 dX7_given_2 (by decide) ?_
  refine g_callS (pc := 3) C B mX7_108 (c_in_f _ _ _ _ _ _ _ _ (okW_f (n := 5) (by decide) hx)) rfl rfl (by decide) ⟨Nat.le_refl _, Nat.le_refl _⟩ (Nat.le_of_ble_eq_true rfl) dX7_given_3 (fun r S' hP => ?_)
  rw [hP.1, hP.2]
  refine g_if_eq (pc := 6) C 18 dX7_given_6 (by decide) (fun _ => ?_) (fun h6 => absurd (by decide) h6)
  refine g_aload_n (pc := 18) C dX7_given_18 rfl ?_
  refine g_iconst (pc := 19) C (-1) dX7_given_19 (by decide) ?_
  refine g_callV (pc := 20) C B mX7_116 (c_mrefuse _ _ _ _ _ hM (-1) 1 (by decide) (by decide)) rfl rfl rfl rfl hM.1 (by decide) ⟨Nat.le_refl _, Nat.le_refl _⟩ (Nat.le_of_ble_eq_true rfl) dX7_given_20 (fun r S' hP => ?_)
  rw [hP.1, hP.2]
  exact g_iret (pc := 23) C B rfl dX7_given_23 (⟨rfl, rfl⟩)

def t_X7_given (S : Mm) (g : Nat) : Option AV × Mm := (some (vi (S.1 (2, 0, 28) g)), S)
set_option maxHeartbeats 4000000 in
set_option maxRecDepth 100000 in
/-- given(w) -/
theorem c_X7_given (l : Launch) (E : En) (base aw : Nat) (S : Mm) (hM : ShM S) (g : Nat) (hg : g < 6) : Cn l E base aw yX7_given cX7_given 2 (some Jvm.ClassFile.FieldType.int) 1 0 0 noF S [vr (2, 0, 0), vi (nI g)] (fun r S' => (r, S') = t_X7_given S g) := by
  refine Cn.of (by decide) (Nat.le_of_ble_eq_true rfl) ?_
  intro X Y hl hE hbase haw hfr C B
  subst hl; subst hE; subst hbase; subst haw
  refine g_iload_n (pc := 0) C dX7_given_0 rfl ?_
  refine g_iconst (pc := 1) C 0 dX7_given_1 (by decide) ?_
  refine g_iconst (pc := 2) C 5 dX7_given_2 (by decide) ?_
  refine g_callS (pc := 3) C B mX7_108 (c_in_t _ _ _ _ _ _ _ _ (okW_t (n := 5) (by omega) (by decide))) rfl rfl (by decide) ⟨Nat.le_refl _, Nat.le_refl _⟩ (Nat.le_of_ble_eq_true rfl) dX7_given_3 (fun r S' hP => ?_)
  rw [hP.1, hP.2]
  refine g_if_eq (pc := 6) C 18 dX7_given_6 (by decide) (fun h6 => absurd h6 (by decide)) (fun _ => ?_)
  refine g_aload_n (pc := 9) C dX7_given_9 rfl ?_
  refine g_getr (pc := 10) C fX7_86 rfl hM.1 dX7_given_10 rfl (hM.2 28 rfl).1 ?_
  refine g_iload_n (pc := 13) C dX7_given_13 rfl ?_
  refine g_ialdN (pc := 14) C rfl (hM.2 28 rfl).2 (by omega) (by decide) dX7_given_14 ?_
  refine g_goto (pc := 15) C 23 dX7_given_15 (by decide) ?_
  exact g_iret (pc := 23) C B rfl dX7_given_23 (by show (_, _) = t_X7_given S g; unfold t_X7_given; rfl)

theorem c_mblw (l : Launch) (E : En) (base aw : Nat) (S : Mm) (p : Int32) : Cn l E base aw yX7_isBelow cX7_isBelow 1 (some Jvm.ClassFile.FieldType.boolean) 0 0 0 noF S [vi p] (fun r S' => r = some (vi (blw p)) ∧ S' = S) := c_mbelow l E base aw S p
set_option maxHeartbeats 4000000 in
set_option maxRecDepth 100000 in
/-- price of no lane -/
theorem c_X7_price_b (l : Launch) (E : En) (base aw : Nat) (S : Mm) (mc : Nat) (lc : Nat → Nat) (hI : IM S mc lc) (p0 p1 p2 : Int32) (h : ¬ (okL mc lc p0 p1)) : Cn l E base aw yX7_price cX7_price 5 (some Jvm.ClassFile.FieldType.int) 3 0 0 noF S [vr (2, 0, 0), vi p0, vi p1, vi p2] (fun r S' => r = some (vi (-1)) ∧ S' = rfM S 1) := by
  have hM := hI.1
  have hmc := hI.2.2.1
  have hx : ¬ okL mc lc p0 p1 := fun q => h q
  refine Cn.of (by decide) (Nat.le_of_ble_eq_true rfl) ?_
  intro X Y hl hE hbase haw hfr C B
  subst hl; subst hE; subst hbase; subst haw
  refine g_aload_n (pc := 0) C dX7_price_0 rfl ?_
  refine g_iload_n (pc := 1) C dX7_price_1 rfl ?_
  refine g_iload_n (pc := 2) C dX7_price_2 rfl ?_
  refine g_callV (pc := 3) C B mX7_123 (c_isL_f _ _ _ _ _ mc lc hI p0 p1 hx) rfl rfl rfl rfl hM.1 (by decide) ⟨Nat.le_refl _, Nat.le_refl _⟩ (Nat.le_of_ble_eq_true rfl) dX7_price_3 (fun r S' hP => ?_)
  rw [hP.1, hP.2]
  refine g_if_ne (pc := 6) C 15 dX7_price_6 (by decide) (fun h6 => absurd (by decide) h6) (fun _ => ?_)
  refine g_aload_n (pc := 9) C dX7_price_9 rfl ?_
  refine g_iconst (pc := 10) C (-1) dX7_price_10 (by decide) ?_
  refine g_callV (pc := 11) C B mX7_116 (c_mrefuse _ _ _ _ _ hM (-1) 1 (by decide) (by decide)) rfl rfl rfl rfl hM.1 (by decide) ⟨Nat.le_refl _, Nat.le_refl _⟩ (Nat.le_of_ble_eq_true rfl) dX7_price_11 (fun r S' hP => ?_)
  rw [hP.1, hP.2]
  exact g_iret (pc := 14) C B rfl dX7_price_14 (⟨rfl, rfl⟩)

def t_X7_price (S : Mm) (i : Nat) (j : Nat) (p0 : Int32) : Option AV × Mm := if (blw p0) = 0 then (if p0 ≤ 5000 then (some (vi (S.1 (2, 0, 11) ((8 * i) + j))), wI S (2, 0, 11) ((8 * i) + j) p0) else (some (vi ((-6))), rfM S 6)) else (some (vi ((-4))), rfM S 4)
set_option maxHeartbeats 4000000 in
set_option maxRecDepth 100000 in
/-- price(i, j, v) -/
theorem c_X7_price (l : Launch) (E : En) (base aw : Nat) (S : Mm) (mc : Nat) (lc : Nat → Nat) (hI : IM S mc lc) (i : Nat) (hi : i < mc) (j : Nat) (hj : j < lc i) (p0 : Int32) : Cn l E base aw yX7_price cX7_price 5 (some Jvm.ClassFile.FieldType.int) 3 0 0 noF S [vr (2, 0, 0), vi (nI i), vi (nI j), vi p0] (fun r S' => (r, S') = t_X7_price S i j p0) := by
  have hM := hI.1
  have hmc := hI.2.2.1
  have hlc := (hI.2.2.2 i (by omega)).2
  refine Cn.of (by decide) (Nat.le_of_ble_eq_true rfl) ?_
  intro X Y hl hE hbase haw hfr C B
  subst hl; subst hE; subst hbase; subst haw
  refine g_aload_n (pc := 0) C dX7_price_0 rfl ?_
  refine g_iload_n (pc := 1) C dX7_price_1 rfl ?_
  refine g_iload_n (pc := 2) C dX7_price_2 rfl ?_
  refine g_callV (pc := 3) C B mX7_123 (c_isL_t _ _ _ _ _ mc lc hI i hi j hj) rfl rfl rfl rfl hM.1 (by decide) ⟨Nat.le_refl _, Nat.le_refl _⟩ (Nat.le_of_ble_eq_true rfl) dX7_price_3 (fun r S' hP => ?_)
  rw [hP.1, hP.2]
  refine g_if_ne (pc := 6) C 15 dX7_price_6 (by decide) (fun _ => ?_) (fun h6 => absurd h6 (by decide))
  refine g_iload_n (pc := 15) C dX7_price_15 rfl ?_
  refine g_callS (pc := 16) C B mX7_120 (c_mblw _ _ _ _ _ _) rfl rfl (by decide) ⟨Nat.le_refl _, Nat.le_refl _⟩ (Nat.le_of_ble_eq_true rfl) dX7_price_16 (fun r S' hP => ?_)
  rw [hP.1, hP.2]
  refine g_if_eq (pc := 19) C 29 dX7_price_19 (by decide) (fun h19 => ?_) (fun h19 => ?_)
  ·
    refine g_iload_n (pc := 29) C dX7_price_29 rfl ?_
    refine g_sipush (pc := 30) C 5000 dX7_price_30 (by decide) ?_
    refine g_icmp_le (pc := 33) C 43 dX7_price_33 (by decide) (fun h33 => ?_) (fun h33 => ?_)
    ·
      refine g_aload_n (pc := 43) C dX7_price_43 rfl ?_
      refine g_getr (pc := 44) C fX7_38 rfl hM.1 dX7_price_44 rfl (hM.2 11 rfl).1 ?_
      refine g_bipush (pc := 47) C 8 dX7_price_47 (by decide) ?_
      refine g_iload_n (pc := 49) C dX7_price_49 rfl ?_
      refine g_imul (pc := 50) C dX7_price_50 ?_
      refine g_eqi (nI (8 * i)) (pk_mul 8 i) ?_
      refine g_iload_n (pc := 51) C dX7_price_51 rfl ?_
      refine g_iadd (pc := 52) C dX7_price_52 ?_
      refine g_eqi (nI ((8 * i) + j)) (nI_add (8 * i) j) ?_
      refine g_ialdN (pc := 53) C rfl (hM.2 11 rfl).2 (by omega) (by decide) dX7_price_53 ?_
      refine g_istore (pc := 54) C dX7_price_54 (by decide) ?_
      refine g_aload_n (pc := 56) C dX7_price_56 rfl ?_
      refine g_getr (pc := 57) C fX7_38 rfl hM.1 dX7_price_57 rfl (hM.2 11 rfl).1 ?_
      refine g_bipush (pc := 60) C 8 dX7_price_60 (by decide) ?_
      refine g_iload_n (pc := 62) C dX7_price_62 rfl ?_
      refine g_imul (pc := 63) C dX7_price_63 ?_
      refine g_eqi (nI (8 * i)) (pk_mul 8 i) ?_
      refine g_iload_n (pc := 64) C dX7_price_64 rfl ?_
      refine g_iadd (pc := 65) C dX7_price_65 ?_
      refine g_eqi (nI ((8 * i) + j)) (nI_add (8 * i) j) ?_
      refine g_iload_n (pc := 66) C dX7_price_66 rfl ?_
      refine g_iastN (pc := 67) C rfl (hM.2 11 rfl).2 (by omega) (by decide) dX7_price_67 ?_
      refine g_iload (pc := 68) C dX7_price_68 rfl ?_
      exact g_iret (pc := 70) C B rfl dX7_price_70 (by show (_, _) = t_X7_price S i j p0; unfold t_X7_price; rw [if_pos h19, if_pos h33])
    ·
      refine g_aload_n (pc := 36) C dX7_price_36 rfl ?_
      refine g_bipush (pc := 37) C (-6) dX7_price_37 (by decide) ?_
      refine g_callV (pc := 39) C B mX7_116 (c_mrefuse _ _ _ _ _ hM (-6) 6 (by decide) (by decide)) rfl rfl rfl rfl hM.1 (by decide) ⟨Nat.le_refl _, Nat.le_refl _⟩ (Nat.le_of_ble_eq_true rfl) dX7_price_39 (fun r S' hP => ?_)
      rw [hP.1, hP.2]
      exact g_iret (pc := 42) C B rfl dX7_price_42 (by show (_, _) = t_X7_price S i j p0; unfold t_X7_price; rw [if_pos h19, if_neg h33])
  ·
    refine g_aload_n (pc := 22) C dX7_price_22 rfl ?_
    refine g_bipush (pc := 23) C (-4) dX7_price_23 (by decide) ?_
    refine g_callV (pc := 25) C B mX7_116 (c_mrefuse _ _ _ _ _ hM (-4) 4 (by decide) (by decide)) rfl rfl rfl rfl hM.1 (by decide) ⟨Nat.le_refl _, Nat.le_refl _⟩ (Nat.le_of_ble_eq_true rfl) dX7_price_25 (fun r S' hP => ?_)
    rw [hP.1, hP.2]
    exact g_iret (pc := 28) C B rfl dX7_price_28 (by show (_, _) = t_X7_price S i j p0; unfold t_X7_price; rw [if_neg h19])

set_option maxHeartbeats 4000000 in
set_option maxRecDepth 100000 in
/-- tube of no machine or worth -/
theorem c_X7_tube_b (l : Launch) (E : En) (base aw : Nat) (S : Mm) (mc : Nat) (lc : Nat → Nat) (hI : IM S mc lc) (p0 p1 p2 : Int32) (h : ¬ (okN mc p0 ∧ okN 6 p1)) : Cn l E base aw yX7_tube cX7_tube 4 (some Jvm.ClassFile.FieldType.int) 2 0 0 noF S [vr (2, 0, 0), vi p0, vi p1, vi p2] (fun r S' => r = some (vi (-1)) ∧ S' = rfM S 1) := by
  have hM := hI.1
  have hmc := hI.2.2.1
  by_cases hm0 : okN mc p0
  ·
    obtain ⟨i, hi, rfl⟩ := hm0
    have hx : ¬ okN 6 p1 := fun q => h ⟨⟨i, hi, rfl⟩, q⟩
    refine Cn.of (by decide) (Nat.le_of_ble_eq_true rfl) ?_
    intro X Y hl hE hbase haw hfr C B
    subst hl; subst hE; subst hbase; subst haw
    refine g_aload_n (pc := 0) C dX7_tube_0 rfl ?_
    refine g_iload_n (pc := 1) C dX7_tube_1 rfl ?_
    refine g_callV (pc := 2) C B mX7_112 (c_isM_t _ _ _ _ _ mc lc hI i hi) rfl rfl rfl rfl hM.1 (by decide) ⟨Nat.le_refl _, Nat.le_refl _⟩ (Nat.le_of_ble_eq_true rfl) dX7_tube_2 (fun r S' hP => ?_)
    rw [hP.1, hP.2]
    refine g_if_eq (pc := 5) C 17 dX7_tube_5 (by decide) (fun h5 => absurd h5 (by decide)) (fun _ => ?_)
    refine g_iload_n (pc := 8) C dX7_tube_8 rfl ?_
    refine g_iconst (pc := 9) C 0 dX7_tube_9 (by decide) ?_
    refine g_iconst (pc := 10) C 5 dX7_tube_10 (by decide) ?_
    refine g_callS (pc := 11) C B mX7_108 (c_in_f _ _ _ _ _ _ _ _ (okW_f (n := 5) (by decide) hx)) rfl rfl (by decide) ⟨Nat.le_refl _, Nat.le_refl _⟩ (Nat.le_of_ble_eq_true rfl) dX7_tube_11 (fun r S' hP => ?_)
    rw [hP.1, hP.2]
    refine g_if_ne (pc := 14) C 23 dX7_tube_14 (by decide) (fun h14 => absurd (by decide) h14) (fun _ => ?_)
    refine g_aload_n (pc := 17) C dX7_tube_17 rfl ?_
    refine g_iconst (pc := 18) C (-1) dX7_tube_18 (by decide) ?_
    refine g_callV (pc := 19) C B mX7_116 (c_mrefuse _ _ _ _ _ hM (-1) 1 (by decide) (by decide)) rfl rfl rfl rfl hM.1 (by decide) ⟨Nat.le_refl _, Nat.le_refl _⟩ (Nat.le_of_ble_eq_true rfl) dX7_tube_19 (fun r S' hP => ?_)
    rw [hP.1, hP.2]
    exact g_iret (pc := 22) C B rfl dX7_tube_22 (⟨rfl, rfl⟩)
  ·
    have hx := hm0
    refine Cn.of (by decide) (Nat.le_of_ble_eq_true rfl) ?_
    intro X Y hl hE hbase haw hfr C B
    subst hl; subst hE; subst hbase; subst haw
    refine g_aload_n (pc := 0) C dX7_tube_0 rfl ?_
    refine g_iload_n (pc := 1) C dX7_tube_1 rfl ?_
    refine g_callV (pc := 2) C B mX7_112 (c_isM_f _ _ _ _ _ mc lc hI p0 hx) rfl rfl rfl rfl hM.1 (by decide) ⟨Nat.le_refl _, Nat.le_refl _⟩ (Nat.le_of_ble_eq_true rfl) dX7_tube_2 (fun r S' hP => ?_)
    rw [hP.1, hP.2]
    refine g_if_eq (pc := 5) C 17 dX7_tube_5 (by decide) (fun _ => ?_) (fun h5 => absurd (by decide) h5)
    refine g_aload_n (pc := 17) C dX7_tube_17 rfl ?_
    refine g_iconst (pc := 18) C (-1) dX7_tube_18 (by decide) ?_
    refine g_callV (pc := 19) C B mX7_116 (c_mrefuse _ _ _ _ _ hM (-1) 1 (by decide) (by decide)) rfl rfl rfl rfl hM.1 (by decide) ⟨Nat.le_refl _, Nat.le_refl _⟩ (Nat.le_of_ble_eq_true rfl) dX7_tube_19 (fun r S' hP => ?_)
    rw [hP.1, hP.2]
    exact g_iret (pc := 22) C B rfl dX7_tube_22 (⟨rfl, rfl⟩)

def t_X7_tube (S : Mm) (i : Nat) (w : Nat) (n : Int32) : Option AV × Mm := if 0 ≤ n then (if n ≤ (50 - (S.1 (2, 0, 3) ((6 * i) + w))) then (some (vi ((wI (wI S (2, 0, 3) ((6 * i) + w) ((S.1 (2, 0, 3) ((6 * i) + w)) + n)) (2, 0, 6) ((6 * i) + w) (((wI S (2, 0, 3) ((6 * i) + w) ((S.1 (2, 0, 3) ((6 * i) + w)) + n)).1 (2, 0, 6) ((6 * i) + w)) + n)).1 (2, 0, 3) ((6 * i) + w))), wI (wI S (2, 0, 3) ((6 * i) + w) ((S.1 (2, 0, 3) ((6 * i) + w)) + n)) (2, 0, 6) ((6 * i) + w) (((wI S (2, 0, 3) ((6 * i) + w) ((S.1 (2, 0, 3) ((6 * i) + w)) + n)).1 (2, 0, 6) ((6 * i) + w)) + n)) else (some (vi ((-6))), rfM S 6)) else (some (vi ((-4))), rfM S 4)
set_option maxHeartbeats 4000000 in
set_option maxRecDepth 100000 in
/-- tube(i, w, n) -/
theorem c_X7_tube (l : Launch) (E : En) (base aw : Nat) (S : Mm) (mc : Nat) (lc : Nat → Nat) (hI : IM S mc lc) (i : Nat) (hi : i < mc) (w : Nat) (hw : w < 6) (n : Int32) : Cn l E base aw yX7_tube cX7_tube 4 (some Jvm.ClassFile.FieldType.int) 2 0 0 noF S [vr (2, 0, 0), vi (nI i), vi (nI w), vi n] (fun r S' => (r, S') = t_X7_tube S i w n) := by
  have hM := hI.1
  have hmc := hI.2.2.1
  refine Cn.of (by decide) (Nat.le_of_ble_eq_true rfl) ?_
  intro X Y hl hE hbase haw hfr C B
  subst hl; subst hE; subst hbase; subst haw
  refine g_aload_n (pc := 0) C dX7_tube_0 rfl ?_
  refine g_iload_n (pc := 1) C dX7_tube_1 rfl ?_
  refine g_callV (pc := 2) C B mX7_112 (c_isM_t _ _ _ _ _ mc lc hI i hi) rfl rfl rfl rfl hM.1 (by decide) ⟨Nat.le_refl _, Nat.le_refl _⟩ (Nat.le_of_ble_eq_true rfl) dX7_tube_2 (fun r S' hP => ?_)
  rw [hP.1, hP.2]
  refine g_if_eq (pc := 5) C 17 dX7_tube_5 (by decide) (fun h5 => absurd h5 (by decide)) (fun _ => ?_)
  refine g_iload_n (pc := 8) C dX7_tube_8 rfl ?_
  refine g_iconst (pc := 9) C 0 dX7_tube_9 (by decide) ?_
  refine g_iconst (pc := 10) C 5 dX7_tube_10 (by decide) ?_
  refine g_callS (pc := 11) C B mX7_108 (c_in_t _ _ _ _ _ _ _ _ (okW_t (n := 5) (by omega) (by decide))) rfl rfl (by decide) ⟨Nat.le_refl _, Nat.le_refl _⟩ (Nat.le_of_ble_eq_true rfl) dX7_tube_11 (fun r S' hP => ?_)
  rw [hP.1, hP.2]
  refine g_if_ne (pc := 14) C 23 dX7_tube_14 (by decide) (fun _ => ?_) (fun h14 => absurd h14 (by decide))
  refine g_iload_n (pc := 23) C dX7_tube_23 rfl ?_
  refine g_if_ge (pc := 24) C 34 dX7_tube_24 (by decide) (fun h24 => ?_) (fun h24 => ?_)
  ·
    refine g_iload_n (pc := 34) C dX7_tube_34 rfl ?_
    refine g_bipush (pc := 35) C 50 dX7_tube_35 (by decide) ?_
    refine g_aload_n (pc := 37) C dX7_tube_37 rfl ?_
    refine g_getr (pc := 38) C fX7_13 rfl hM.1 dX7_tube_38 rfl (hM.2 3 rfl).1 ?_
    refine g_bipush (pc := 41) C 6 dX7_tube_41 (by decide) ?_
    refine g_iload_n (pc := 43) C dX7_tube_43 rfl ?_
    refine g_imul (pc := 44) C dX7_tube_44 ?_
    refine g_eqi (nI (6 * i)) (pk_mul 6 i) ?_
    refine g_iload_n (pc := 45) C dX7_tube_45 rfl ?_
    refine g_iadd (pc := 46) C dX7_tube_46 ?_
    refine g_eqi (nI ((6 * i) + w)) (nI_add (6 * i) w) ?_
    refine g_ialdN (pc := 47) C rfl (hM.2 3 rfl).2 (by omega) (by decide) dX7_tube_47 ?_
    refine g_isub (pc := 48) C dX7_tube_48 ?_
    refine g_icmp_le (pc := 49) C 59 dX7_tube_49 (by decide) (fun h49 => ?_) (fun h49 => ?_)
    ·
      refine g_aload_n (pc := 59) C dX7_tube_59 rfl ?_
      refine g_getr (pc := 60) C fX7_13 rfl hM.1 dX7_tube_60 rfl (hM.2 3 rfl).1 ?_
      refine g_bipush (pc := 63) C 6 dX7_tube_63 (by decide) ?_
      refine g_iload_n (pc := 65) C dX7_tube_65 rfl ?_
      refine g_imul (pc := 66) C dX7_tube_66 ?_
      refine g_eqi (nI (6 * i)) (pk_mul 6 i) ?_
      refine g_iload_n (pc := 67) C dX7_tube_67 rfl ?_
      refine g_iadd (pc := 68) C dX7_tube_68 ?_
      refine g_eqi (nI ((6 * i) + w)) (nI_add (6 * i) w) ?_
      refine g_dup2 (pc := 69) C dX7_tube_69 ?_
      refine g_ialdN (pc := 70) C rfl (hM.2 3 rfl).2 (by omega) (by decide) dX7_tube_70 ?_
      refine g_iload_n (pc := 71) C dX7_tube_71 rfl ?_
      refine g_iadd (pc := 72) C dX7_tube_72 ?_
      refine g_iastN (pc := 73) C rfl (hM.2 3 rfl).2 (by omega) (by decide) dX7_tube_73 ?_
      refine g_aload_n (pc := 74) C dX7_tube_74 rfl ?_
      refine g_getr (pc := 75) C fX7_22 rfl hM.1 dX7_tube_75 rfl (hM.2 6 rfl).1 ?_
      refine g_bipush (pc := 78) C 6 dX7_tube_78 (by decide) ?_
      refine g_iload_n (pc := 80) C dX7_tube_80 rfl ?_
      refine g_imul (pc := 81) C dX7_tube_81 ?_
      refine g_eqi (nI (6 * i)) (pk_mul 6 i) ?_
      refine g_iload_n (pc := 82) C dX7_tube_82 rfl ?_
      refine g_iadd (pc := 83) C dX7_tube_83 ?_
      refine g_eqi (nI ((6 * i) + w)) (nI_add (6 * i) w) ?_
      refine g_dup2 (pc := 84) C dX7_tube_84 ?_
      refine g_ialdN (pc := 85) C rfl (hM.2 6 rfl).2 (by omega) (by decide) dX7_tube_85 ?_
      refine g_iload_n (pc := 86) C dX7_tube_86 rfl ?_
      refine g_iadd (pc := 87) C dX7_tube_87 ?_
      refine g_iastN (pc := 88) C rfl (hM.2 6 rfl).2 (by omega) (by decide) dX7_tube_88 ?_
      refine g_aload_n (pc := 89) C dX7_tube_89 rfl ?_
      refine g_getr (pc := 90) C fX7_13 rfl hM.1 dX7_tube_90 rfl (hM.2 3 rfl).1 ?_
      refine g_bipush (pc := 93) C 6 dX7_tube_93 (by decide) ?_
      refine g_iload_n (pc := 95) C dX7_tube_95 rfl ?_
      refine g_imul (pc := 96) C dX7_tube_96 ?_
      refine g_eqi (nI (6 * i)) (pk_mul 6 i) ?_
      refine g_iload_n (pc := 97) C dX7_tube_97 rfl ?_
      refine g_iadd (pc := 98) C dX7_tube_98 ?_
      refine g_eqi (nI ((6 * i) + w)) (nI_add (6 * i) w) ?_
      refine g_ialdN (pc := 99) C rfl (hM.2 3 rfl).2 (by omega) (by decide) dX7_tube_99 ?_
      exact g_iret (pc := 100) C B rfl dX7_tube_100 (by show (_, _) = t_X7_tube S i w n; unfold t_X7_tube; rw [if_pos h24, if_pos h49])
    ·
      refine g_aload_n (pc := 52) C dX7_tube_52 rfl ?_
      refine g_bipush (pc := 53) C (-6) dX7_tube_53 (by decide) ?_
      refine g_callV (pc := 55) C B mX7_116 (c_mrefuse _ _ _ _ _ hM (-6) 6 (by decide) (by decide)) rfl rfl rfl rfl hM.1 (by decide) ⟨Nat.le_refl _, Nat.le_refl _⟩ (Nat.le_of_ble_eq_true rfl) dX7_tube_55 (fun r S' hP => ?_)
      rw [hP.1, hP.2]
      exact g_iret (pc := 58) C B rfl dX7_tube_58 (by show (_, _) = t_X7_tube S i w n; unfold t_X7_tube; rw [if_pos h24, if_neg h49])
  ·
    refine g_aload_n (pc := 27) C dX7_tube_27 rfl ?_
    refine g_bipush (pc := 28) C (-4) dX7_tube_28 (by decide) ?_
    refine g_callV (pc := 30) C B mX7_116 (c_mrefuse _ _ _ _ _ hM (-4) 4 (by decide) (by decide)) rfl rfl rfl rfl hM.1 (by decide) ⟨Nat.le_refl _, Nat.le_refl _⟩ (Nat.le_of_ble_eq_true rfl) dX7_tube_30 (fun r S' hP => ?_)
    rw [hP.1, hP.2]
    exact g_iret (pc := 33) C B rfl dX7_tube_33 (by show (_, _) = t_X7_tube S i w n; unfold t_X7_tube; rw [if_neg h24])

set_option maxHeartbeats 4000000 in
set_option maxRecDepth 100000 in
/-- stick of no lane -/
theorem c_X7_stick_b (l : Launch) (E : En) (base aw : Nat) (S : Mm) (mc : Nat) (lc : Nat → Nat) (hI : IM S mc lc) (p0 p1 p2 : Int32) (h : ¬ (okL mc lc p0 p1)) : Cn l E base aw yX7_stick cX7_stick 4 (some Jvm.ClassFile.FieldType.int) 3 0 0 noF S [vr (2, 0, 0), vi p0, vi p1, vi p2] (fun r S' => r = some (vi (-1)) ∧ S' = rfM S 1) := by
  have hM := hI.1
  have hmc := hI.2.2.1
  have hx : ¬ okL mc lc p0 p1 := fun q => h q
  refine Cn.of (by decide) (Nat.le_of_ble_eq_true rfl) ?_
  intro X Y hl hE hbase haw hfr C B
  subst hl; subst hE; subst hbase; subst haw
  refine g_aload_n (pc := 0) C dX7_stick_0 rfl ?_
  refine g_iload_n (pc := 1) C dX7_stick_1 rfl ?_
  refine g_iload_n (pc := 2) C dX7_stick_2 rfl ?_
  refine g_callV (pc := 3) C B mX7_123 (c_isL_f _ _ _ _ _ mc lc hI p0 p1 hx) rfl rfl rfl rfl hM.1 (by decide) ⟨Nat.le_refl _, Nat.le_refl _⟩ (Nat.le_of_ble_eq_true rfl) dX7_stick_3 (fun r S' hP => ?_)
  rw [hP.1, hP.2]
  refine g_if_ne (pc := 6) C 15 dX7_stick_6 (by decide) (fun h6 => absurd (by decide) h6) (fun _ => ?_)
  refine g_aload_n (pc := 9) C dX7_stick_9 rfl ?_
  refine g_iconst (pc := 10) C (-1) dX7_stick_10 (by decide) ?_
  refine g_callV (pc := 11) C B mX7_116 (c_mrefuse _ _ _ _ _ hM (-1) 1 (by decide) (by decide)) rfl rfl rfl rfl hM.1 (by decide) ⟨Nat.le_refl _, Nat.le_refl _⟩ (Nat.le_of_ble_eq_true rfl) dX7_stick_11 (fun r S' hP => ?_)
  rw [hP.1, hP.2]
  exact g_iret (pc := 14) C B rfl dX7_stick_14 (⟨rfl, rfl⟩)

def t_X7_stick (S : Mm) (i : Nat) (j : Nat) (p0 : Int32) : Option AV × Mm := if (S.1 (2, 0, 14) ((8 * i) + j)) = 1 then (if 0 ≤ p0 then (if p0 ≤ (9 - (S.1 (2, 0, 16) ((8 * i) + j))) then (some (vi ((wI S (2, 0, 16) ((8 * i) + j) ((S.1 (2, 0, 16) ((8 * i) + j)) + p0)).1 (2, 0, 16) ((8 * i) + j))), wI S (2, 0, 16) ((8 * i) + j) ((S.1 (2, 0, 16) ((8 * i) + j)) + p0)) else (some (vi ((-6))), rfM S 6)) else (some (vi ((-4))), rfM S 4)) else (some (vi ((-2))), rfM S 2)
set_option maxHeartbeats 4000000 in
set_option maxRecDepth 100000 in
/-- stick(i, j, n) -/
theorem c_X7_stick (l : Launch) (E : En) (base aw : Nat) (S : Mm) (mc : Nat) (lc : Nat → Nat) (hI : IM S mc lc) (i : Nat) (hi : i < mc) (j : Nat) (hj : j < lc i) (p0 : Int32) : Cn l E base aw yX7_stick cX7_stick 4 (some Jvm.ClassFile.FieldType.int) 3 0 0 noF S [vr (2, 0, 0), vi (nI i), vi (nI j), vi p0] (fun r S' => (r, S') = t_X7_stick S i j p0) := by
  have hM := hI.1
  have hmc := hI.2.2.1
  have hlc := (hI.2.2.2 i (by omega)).2
  refine Cn.of (by decide) (Nat.le_of_ble_eq_true rfl) ?_
  intro X Y hl hE hbase haw hfr C B
  subst hl; subst hE; subst hbase; subst haw
  refine g_aload_n (pc := 0) C dX7_stick_0 rfl ?_
  refine g_iload_n (pc := 1) C dX7_stick_1 rfl ?_
  refine g_iload_n (pc := 2) C dX7_stick_2 rfl ?_
  refine g_callV (pc := 3) C B mX7_123 (c_isL_t _ _ _ _ _ mc lc hI i hi j hj) rfl rfl rfl rfl hM.1 (by decide) ⟨Nat.le_refl _, Nat.le_refl _⟩ (Nat.le_of_ble_eq_true rfl) dX7_stick_3 (fun r S' hP => ?_)
  rw [hP.1, hP.2]
  refine g_if_ne (pc := 6) C 15 dX7_stick_6 (by decide) (fun _ => ?_) (fun h6 => absurd h6 (by decide))
  refine g_aload_n (pc := 15) C dX7_stick_15 rfl ?_
  refine g_getr (pc := 16) C fX7_47 rfl hM.1 dX7_stick_16 rfl (hM.2 14 rfl).1 ?_
  refine g_bipush (pc := 19) C 8 dX7_stick_19 (by decide) ?_
  refine g_iload_n (pc := 21) C dX7_stick_21 rfl ?_
  refine g_imul (pc := 22) C dX7_stick_22 ?_
  refine g_eqi (nI (8 * i)) (pk_mul 8 i) ?_
  refine g_iload_n (pc := 23) C dX7_stick_23 rfl ?_
  refine g_iadd (pc := 24) C dX7_stick_24 ?_
  refine g_eqi (nI ((8 * i) + j)) (nI_add (8 * i) j) ?_
  refine g_ialdN (pc := 25) C rfl (hM.2 14 rfl).2 (by omega) (by decide) dX7_stick_25 ?_
  refine g_iconst (pc := 26) C 1 dX7_stick_26 (by decide) ?_
  refine g_icmp_eq (pc := 27) C 37 dX7_stick_27 (by decide) (fun h27 => ?_) (fun h27 => ?_)
  ·
    refine g_iload_n (pc := 37) C dX7_stick_37 rfl ?_
    refine g_if_ge (pc := 38) C 48 dX7_stick_38 (by decide) (fun h38 => ?_) (fun h38 => ?_)
    ·
      refine g_iload_n (pc := 48) C dX7_stick_48 rfl ?_
      refine g_bipush (pc := 49) C 9 dX7_stick_49 (by decide) ?_
      refine g_aload_n (pc := 51) C dX7_stick_51 rfl ?_
      refine g_getr (pc := 52) C fX7_53 rfl hM.1 dX7_stick_52 rfl (hM.2 16 rfl).1 ?_
      refine g_bipush (pc := 55) C 8 dX7_stick_55 (by decide) ?_
      refine g_iload_n (pc := 57) C dX7_stick_57 rfl ?_
      refine g_imul (pc := 58) C dX7_stick_58 ?_
      refine g_eqi (nI (8 * i)) (pk_mul 8 i) ?_
      refine g_iload_n (pc := 59) C dX7_stick_59 rfl ?_
      refine g_iadd (pc := 60) C dX7_stick_60 ?_
      refine g_eqi (nI ((8 * i) + j)) (nI_add (8 * i) j) ?_
      refine g_ialdN (pc := 61) C rfl (hM.2 16 rfl).2 (by omega) (by decide) dX7_stick_61 ?_
      refine g_isub (pc := 62) C dX7_stick_62 ?_
      refine g_icmp_le (pc := 63) C 73 dX7_stick_63 (by decide) (fun h63 => ?_) (fun h63 => ?_)
      ·
        refine g_aload_n (pc := 73) C dX7_stick_73 rfl ?_
        refine g_getr (pc := 74) C fX7_53 rfl hM.1 dX7_stick_74 rfl (hM.2 16 rfl).1 ?_
        refine g_bipush (pc := 77) C 8 dX7_stick_77 (by decide) ?_
        refine g_iload_n (pc := 79) C dX7_stick_79 rfl ?_
        refine g_imul (pc := 80) C dX7_stick_80 ?_
        refine g_eqi (nI (8 * i)) (pk_mul 8 i) ?_
        refine g_iload_n (pc := 81) C dX7_stick_81 rfl ?_
        refine g_iadd (pc := 82) C dX7_stick_82 ?_
        refine g_eqi (nI ((8 * i) + j)) (nI_add (8 * i) j) ?_
        refine g_dup2 (pc := 83) C dX7_stick_83 ?_
        refine g_ialdN (pc := 84) C rfl (hM.2 16 rfl).2 (by omega) (by decide) dX7_stick_84 ?_
        refine g_iload_n (pc := 85) C dX7_stick_85 rfl ?_
        refine g_iadd (pc := 86) C dX7_stick_86 ?_
        refine g_iastN (pc := 87) C rfl (hM.2 16 rfl).2 (by omega) (by decide) dX7_stick_87 ?_
        refine g_aload_n (pc := 88) C dX7_stick_88 rfl ?_
        refine g_getr (pc := 89) C fX7_53 rfl hM.1 dX7_stick_89 rfl (hM.2 16 rfl).1 ?_
        refine g_bipush (pc := 92) C 8 dX7_stick_92 (by decide) ?_
        refine g_iload_n (pc := 94) C dX7_stick_94 rfl ?_
        refine g_imul (pc := 95) C dX7_stick_95 ?_
        refine g_eqi (nI (8 * i)) (pk_mul 8 i) ?_
        refine g_iload_n (pc := 96) C dX7_stick_96 rfl ?_
        refine g_iadd (pc := 97) C dX7_stick_97 ?_
        refine g_eqi (nI ((8 * i) + j)) (nI_add (8 * i) j) ?_
        refine g_ialdN (pc := 98) C rfl (hM.2 16 rfl).2 (by omega) (by decide) dX7_stick_98 ?_
        exact g_iret (pc := 99) C B rfl dX7_stick_99 (by show (_, _) = t_X7_stick S i j p0; unfold t_X7_stick; rw [if_pos h27, if_pos h38, if_pos h63])
      ·
        refine g_aload_n (pc := 66) C dX7_stick_66 rfl ?_
        refine g_bipush (pc := 67) C (-6) dX7_stick_67 (by decide) ?_
        refine g_callV (pc := 69) C B mX7_116 (c_mrefuse _ _ _ _ _ hM (-6) 6 (by decide) (by decide)) rfl rfl rfl rfl hM.1 (by decide) ⟨Nat.le_refl _, Nat.le_refl _⟩ (Nat.le_of_ble_eq_true rfl) dX7_stick_69 (fun r S' hP => ?_)
        rw [hP.1, hP.2]
        exact g_iret (pc := 72) C B rfl dX7_stick_72 (by show (_, _) = t_X7_stick S i j p0; unfold t_X7_stick; rw [if_pos h27, if_pos h38, if_neg h63])
    ·
      refine g_aload_n (pc := 41) C dX7_stick_41 rfl ?_
      refine g_bipush (pc := 42) C (-4) dX7_stick_42 (by decide) ?_
      refine g_callV (pc := 44) C B mX7_116 (c_mrefuse _ _ _ _ _ hM (-4) 4 (by decide) (by decide)) rfl rfl rfl rfl hM.1 (by decide) ⟨Nat.le_refl _, Nat.le_refl _⟩ (Nat.le_of_ble_eq_true rfl) dX7_stick_44 (fun r S' hP => ?_)
      rw [hP.1, hP.2]
      exact g_iret (pc := 47) C B rfl dX7_stick_47 (by show (_, _) = t_X7_stick S i j p0; unfold t_X7_stick; rw [if_pos h27, if_neg h38])
  ·
    refine g_aload_n (pc := 30) C dX7_stick_30 rfl ?_
    refine g_bipush (pc := 31) C (-2) dX7_stick_31 (by decide) ?_
    refine g_callV (pc := 33) C B mX7_116 (c_mrefuse _ _ _ _ _ hM (-2) 2 (by decide) (by decide)) rfl rfl rfl rfl hM.1 (by decide) ⟨Nat.le_refl _, Nat.le_refl _⟩ (Nat.le_of_ble_eq_true rfl) dX7_stick_33 (fun r S' hP => ?_)
    rw [hP.1, hP.2]
    exact g_iret (pc := 36) C B rfl dX7_stick_36 (by show (_, _) = t_X7_stick S i j p0; unfold t_X7_stick; rw [if_neg h27])

set_option maxHeartbeats 4000000 in
set_option maxRecDepth 100000 in
/-- fill of no lane -/
theorem c_X7_fill_b (l : Launch) (E : En) (base aw : Nat) (S : Mm) (mc : Nat) (lc : Nat → Nat) (hI : IM S mc lc) (p0 p1 p2 : Int32) (h : ¬ (okL mc lc p0 p1)) : Cn l E base aw yX7_fill cX7_fill 5 (some Jvm.ClassFile.FieldType.int) 3 0 0 noF S [vr (2, 0, 0), vi p0, vi p1, vi p2] (fun r S' => r = some (vi (-1)) ∧ S' = rfM S 1) := by
  have hM := hI.1
  have hmc := hI.2.2.1
  have hx : ¬ okL mc lc p0 p1 := fun q => h q
  refine Cn.of (by decide) (Nat.le_of_ble_eq_true rfl) ?_
  intro X Y hl hE hbase haw hfr C B
  subst hl; subst hE; subst hbase; subst haw
  refine g_aload_n (pc := 0) C dX7_fill_0 rfl ?_
  refine g_iload_n (pc := 1) C dX7_fill_1 rfl ?_
  refine g_iload_n (pc := 2) C dX7_fill_2 rfl ?_
  refine g_callV (pc := 3) C B mX7_123 (c_isL_f _ _ _ _ _ mc lc hI p0 p1 hx) rfl rfl rfl rfl hM.1 (by decide) ⟨Nat.le_refl _, Nat.le_refl _⟩ (Nat.le_of_ble_eq_true rfl) dX7_fill_3 (fun r S' hP => ?_)
  rw [hP.1, hP.2]
  refine g_if_ne (pc := 6) C 15 dX7_fill_6 (by decide) (fun h6 => absurd (by decide) h6) (fun _ => ?_)
  refine g_aload_n (pc := 9) C dX7_fill_9 rfl ?_
  refine g_iconst (pc := 10) C (-1) dX7_fill_10 (by decide) ?_
  refine g_callV (pc := 11) C B mX7_116 (c_mrefuse _ _ _ _ _ hM (-1) 1 (by decide) (by decide)) rfl rfl rfl rfl hM.1 (by decide) ⟨Nat.le_refl _, Nat.le_refl _⟩ (Nat.le_of_ble_eq_true rfl) dX7_fill_11 (fun r S' hP => ?_)
  rw [hP.1, hP.2]
  exact g_iret (pc := 14) C B rfl dX7_fill_14 (⟨rfl, rfl⟩)

def t_X7_fill (S : Mm) (i : Nat) (j : Nat) (p0 : Int32) : Option AV × Mm := if (S.1 (2, 0, 19) ((8 * i) + j)) = 0 then (if 0 ≤ p0 then (if p0 ≤ ((S.1 (2, 0, 12) ((8 * i) + j)) - (S.1 (2, 0, 13) ((8 * i) + j))) then (some (vi ((wI (wI S (2, 0, 13) ((8 * i) + j) ((S.1 (2, 0, 13) ((8 * i) + j)) + p0)) (2, 0, 26) i (((wI S (2, 0, 13) ((8 * i) + j) ((S.1 (2, 0, 13) ((8 * i) + j)) + p0)).1 (2, 0, 26) i) + p0)).1 (2, 0, 13) ((8 * i) + j))), wI (wI S (2, 0, 13) ((8 * i) + j) ((S.1 (2, 0, 13) ((8 * i) + j)) + p0)) (2, 0, 26) i (((wI S (2, 0, 13) ((8 * i) + j) ((S.1 (2, 0, 13) ((8 * i) + j)) + p0)).1 (2, 0, 26) i) + p0)) else (some (vi ((-6))), rfM S 6)) else (some (vi ((-4))), rfM S 4)) else (some (vi ((-3))), rfM S 3)
set_option maxHeartbeats 4000000 in
set_option maxRecDepth 100000 in
/-- fill(i, j, n) -/
theorem c_X7_fill (l : Launch) (E : En) (base aw : Nat) (S : Mm) (mc : Nat) (lc : Nat → Nat) (hI : IM S mc lc) (i : Nat) (hi : i < mc) (j : Nat) (hj : j < lc i) (p0 : Int32) : Cn l E base aw yX7_fill cX7_fill 5 (some Jvm.ClassFile.FieldType.int) 3 0 0 noF S [vr (2, 0, 0), vi (nI i), vi (nI j), vi p0] (fun r S' => (r, S') = t_X7_fill S i j p0) := by
  have hM := hI.1
  have hmc := hI.2.2.1
  have hlc := (hI.2.2.2 i (by omega)).2
  refine Cn.of (by decide) (Nat.le_of_ble_eq_true rfl) ?_
  intro X Y hl hE hbase haw hfr C B
  subst hl; subst hE; subst hbase; subst haw
  refine g_aload_n (pc := 0) C dX7_fill_0 rfl ?_
  refine g_iload_n (pc := 1) C dX7_fill_1 rfl ?_
  refine g_iload_n (pc := 2) C dX7_fill_2 rfl ?_
  refine g_callV (pc := 3) C B mX7_123 (c_isL_t _ _ _ _ _ mc lc hI i hi j hj) rfl rfl rfl rfl hM.1 (by decide) ⟨Nat.le_refl _, Nat.le_refl _⟩ (Nat.le_of_ble_eq_true rfl) dX7_fill_3 (fun r S' hP => ?_)
  rw [hP.1, hP.2]
  refine g_if_ne (pc := 6) C 15 dX7_fill_6 (by decide) (fun _ => ?_) (fun h6 => absurd h6 (by decide))
  refine g_bipush (pc := 15) C 8 dX7_fill_15 (by decide) ?_
  refine g_iload_n (pc := 17) C dX7_fill_17 rfl ?_
  refine g_imul (pc := 18) C dX7_fill_18 ?_
  refine g_eqi (nI (8 * i)) (pk_mul 8 i) ?_
  refine g_iload_n (pc := 19) C dX7_fill_19 rfl ?_
  refine g_iadd (pc := 20) C dX7_fill_20 ?_
  refine g_eqi (nI ((8 * i) + j)) (nI_add (8 * i) j) ?_
  refine g_istore (pc := 21) C dX7_fill_21 (by decide) ?_
  refine g_aload_n (pc := 23) C dX7_fill_23 rfl ?_
  refine g_getr (pc := 24) C fX7_62 rfl hM.1 dX7_fill_24 rfl (hM.2 19 rfl).1 ?_
  refine g_iload (pc := 27) C dX7_fill_27 rfl ?_
  refine g_baldN (pc := 29) C rfl (hM.2 19 rfl).2 (by omega) (by decide) dX7_fill_29 ?_
  refine g_if_eq (pc := 30) C 40 dX7_fill_30 (by decide) (fun h30 => ?_) (fun h30 => ?_)
  ·
    refine g_iload_n (pc := 40) C dX7_fill_40 rfl ?_
    refine g_if_ge (pc := 41) C 51 dX7_fill_41 (by decide) (fun h41 => ?_) (fun h41 => ?_)
    ·
      refine g_iload_n (pc := 51) C dX7_fill_51 rfl ?_
      refine g_aload_n (pc := 52) C dX7_fill_52 rfl ?_
      refine g_getr (pc := 53) C fX7_41 rfl hM.1 dX7_fill_53 rfl (hM.2 12 rfl).1 ?_
      refine g_iload (pc := 56) C dX7_fill_56 rfl ?_
      refine g_ialdN (pc := 58) C rfl (hM.2 12 rfl).2 (by omega) (by decide) dX7_fill_58 ?_
      refine g_aload_n (pc := 59) C dX7_fill_59 rfl ?_
      refine g_getr (pc := 60) C fX7_44 rfl hM.1 dX7_fill_60 rfl (hM.2 13 rfl).1 ?_
      refine g_iload (pc := 63) C dX7_fill_63 rfl ?_
      refine g_ialdN (pc := 65) C rfl (hM.2 13 rfl).2 (by omega) (by decide) dX7_fill_65 ?_
      refine g_isub (pc := 66) C dX7_fill_66 ?_
      refine g_icmp_le (pc := 67) C 77 dX7_fill_67 (by decide) (fun h67 => ?_) (fun h67 => ?_)
      ·
        refine g_aload_n (pc := 77) C dX7_fill_77 rfl ?_
        refine g_getr (pc := 78) C fX7_44 rfl hM.1 dX7_fill_78 rfl (hM.2 13 rfl).1 ?_
        refine g_iload (pc := 81) C dX7_fill_81 rfl ?_
        refine g_dup2 (pc := 83) C dX7_fill_83 ?_
        refine g_ialdN (pc := 84) C rfl (hM.2 13 rfl).2 (by omega) (by decide) dX7_fill_84 ?_
        refine g_iload_n (pc := 85) C dX7_fill_85 rfl ?_
        refine g_iadd (pc := 86) C dX7_fill_86 ?_
        refine g_iastN (pc := 87) C rfl (hM.2 13 rfl).2 (by omega) (by decide) dX7_fill_87 ?_
        refine g_aload_n (pc := 88) C dX7_fill_88 rfl ?_
        refine g_getr (pc := 89) C fX7_83 rfl hM.1 dX7_fill_89 rfl (hM.2 26 rfl).1 ?_
        refine g_iload_n (pc := 92) C dX7_fill_92 rfl ?_
        refine g_dup2 (pc := 93) C dX7_fill_93 ?_
        refine g_ialdN (pc := 94) C rfl (hM.2 26 rfl).2 (by omega) (by decide) dX7_fill_94 ?_
        refine g_iload_n (pc := 95) C dX7_fill_95 rfl ?_
        refine g_iadd (pc := 96) C dX7_fill_96 ?_
        refine g_iastN (pc := 97) C rfl (hM.2 26 rfl).2 (by omega) (by decide) dX7_fill_97 ?_
        refine g_aload_n (pc := 98) C dX7_fill_98 rfl ?_
        refine g_getr (pc := 99) C fX7_44 rfl hM.1 dX7_fill_99 rfl (hM.2 13 rfl).1 ?_
        refine g_iload (pc := 102) C dX7_fill_102 rfl ?_
        refine g_ialdN (pc := 104) C rfl (hM.2 13 rfl).2 (by omega) (by decide) dX7_fill_104 ?_
        exact g_iret (pc := 105) C B rfl dX7_fill_105 (by show (_, _) = t_X7_fill S i j p0; unfold t_X7_fill; rw [if_pos h30, if_pos h41, if_pos h67])
      ·
        refine g_aload_n (pc := 70) C dX7_fill_70 rfl ?_
        refine g_bipush (pc := 71) C (-6) dX7_fill_71 (by decide) ?_
        refine g_callV (pc := 73) C B mX7_116 (c_mrefuse _ _ _ _ _ hM (-6) 6 (by decide) (by decide)) rfl rfl rfl rfl hM.1 (by decide) ⟨Nat.le_refl _, Nat.le_refl _⟩ (Nat.le_of_ble_eq_true rfl) dX7_fill_73 (fun r S' hP => ?_)
        rw [hP.1, hP.2]
        exact g_iret (pc := 76) C B rfl dX7_fill_76 (by show (_, _) = t_X7_fill S i j p0; unfold t_X7_fill; rw [if_pos h30, if_pos h41, if_neg h67])
    ·
      refine g_aload_n (pc := 44) C dX7_fill_44 rfl ?_
      refine g_bipush (pc := 45) C (-4) dX7_fill_45 (by decide) ?_
      refine g_callV (pc := 47) C B mX7_116 (c_mrefuse _ _ _ _ _ hM (-4) 4 (by decide) (by decide)) rfl rfl rfl rfl hM.1 (by decide) ⟨Nat.le_refl _, Nat.le_refl _⟩ (Nat.le_of_ble_eq_true rfl) dX7_fill_47 (fun r S' hP => ?_)
      rw [hP.1, hP.2]
      exact g_iret (pc := 50) C B rfl dX7_fill_50 (by show (_, _) = t_X7_fill S i j p0; unfold t_X7_fill; rw [if_pos h30, if_neg h41])
  ·
    refine g_aload_n (pc := 33) C dX7_fill_33 rfl ?_
    refine g_bipush (pc := 34) C (-3) dX7_fill_34 (by decide) ?_
    refine g_callV (pc := 36) C B mX7_116 (c_mrefuse _ _ _ _ _ hM (-3) 3 (by decide) (by decide)) rfl rfl rfl rfl hM.1 (by decide) ⟨Nat.le_refl _, Nat.le_refl _⟩ (Nat.le_of_ble_eq_true rfl) dX7_fill_36 (fun r S' hP => ?_)
    rw [hP.1, hP.2]
    exact g_iret (pc := 39) C B rfl dX7_fill_39 (by show (_, _) = t_X7_fill S i j p0; unfold t_X7_fill; rw [if_neg h30])

set_option maxHeartbeats 4000000 in
set_option maxRecDepth 100000 in
/-- found of no lane -/
theorem c_X7_found_b (l : Launch) (E : En) (base aw : Nat) (S : Mm) (mc : Nat) (lc : Nat → Nat) (hI : IM S mc lc) (p0 p1 p2 : Int32) (h : ¬ (okL mc lc p0 p1)) : Cn l E base aw yX7_found cX7_found 6 (some Jvm.ClassFile.FieldType.int) 3 0 0 noF S [vr (2, 0, 0), vi p0, vi p1, vi p2] (fun r S' => r = some (vi (-1)) ∧ S' = rfM S 1) := by
  have hM := hI.1
  have hmc := hI.2.2.1
  have hx : ¬ okL mc lc p0 p1 := fun q => h q
  refine Cn.of (by decide) (Nat.le_of_ble_eq_true rfl) ?_
  intro X Y hl hE hbase haw hfr C B
  subst hl; subst hE; subst hbase; subst haw
  refine g_aload_n (pc := 0) C dX7_found_0 rfl ?_
  refine g_iload_n (pc := 1) C dX7_found_1 rfl ?_
  refine g_iload_n (pc := 2) C dX7_found_2 rfl ?_
  refine g_callV (pc := 3) C B mX7_123 (c_isL_f _ _ _ _ _ mc lc hI p0 p1 hx) rfl rfl rfl rfl hM.1 (by decide) ⟨Nat.le_refl _, Nat.le_refl _⟩ (Nat.le_of_ble_eq_true rfl) dX7_found_3 (fun r S' hP => ?_)
  rw [hP.1, hP.2]
  refine g_if_ne (pc := 6) C 15 dX7_found_6 (by decide) (fun h6 => absurd (by decide) h6) (fun _ => ?_)
  refine g_aload_n (pc := 9) C dX7_found_9 rfl ?_
  refine g_iconst (pc := 10) C (-1) dX7_found_10 (by decide) ?_
  refine g_callV (pc := 11) C B mX7_116 (c_mrefuse _ _ _ _ _ hM (-1) 1 (by decide) (by decide)) rfl rfl rfl rfl hM.1 (by decide) ⟨Nat.le_refl _, Nat.le_refl _⟩ (Nat.le_of_ble_eq_true rfl) dX7_found_11 (fun r S' hP => ?_)
  rw [hP.1, hP.2]
  exact g_iret (pc := 14) C B rfl dX7_found_14 (⟨rfl, rfl⟩)

def t_X7_found (S : Mm) (i : Nat) (j : Nat) (p0 : Int32) : Option AV × Mm := if 0 ≤ p0 then (if p0 ≤ (S.1 (2, 0, 12) ((8 * i) + j)) then (some (vi (S.1 (2, 0, 13) ((8 * i) + j))), wI (wI S (2, 0, 23) i ((S.1 (2, 0, 23) i) + ((S.1 (2, 0, 13) ((8 * i) + j)) - p0))) (2, 0, 13) ((8 * i) + j) p0) else (some (vi ((-6))), rfM S 6)) else (some (vi ((-4))), rfM S 4)
set_option maxHeartbeats 4000000 in
set_option maxRecDepth 100000 in
/-- found(i, j, n) -/
theorem c_X7_found (l : Launch) (E : En) (base aw : Nat) (S : Mm) (mc : Nat) (lc : Nat → Nat) (hI : IM S mc lc) (i : Nat) (hi : i < mc) (j : Nat) (hj : j < lc i) (p0 : Int32) : Cn l E base aw yX7_found cX7_found 6 (some Jvm.ClassFile.FieldType.int) 3 0 0 noF S [vr (2, 0, 0), vi (nI i), vi (nI j), vi p0] (fun r S' => (r, S') = t_X7_found S i j p0) := by
  have hM := hI.1
  have hmc := hI.2.2.1
  have hlc := (hI.2.2.2 i (by omega)).2
  refine Cn.of (by decide) (Nat.le_of_ble_eq_true rfl) ?_
  intro X Y hl hE hbase haw hfr C B
  subst hl; subst hE; subst hbase; subst haw
  refine g_aload_n (pc := 0) C dX7_found_0 rfl ?_
  refine g_iload_n (pc := 1) C dX7_found_1 rfl ?_
  refine g_iload_n (pc := 2) C dX7_found_2 rfl ?_
  refine g_callV (pc := 3) C B mX7_123 (c_isL_t _ _ _ _ _ mc lc hI i hi j hj) rfl rfl rfl rfl hM.1 (by decide) ⟨Nat.le_refl _, Nat.le_refl _⟩ (Nat.le_of_ble_eq_true rfl) dX7_found_3 (fun r S' hP => ?_)
  rw [hP.1, hP.2]
  refine g_if_ne (pc := 6) C 15 dX7_found_6 (by decide) (fun _ => ?_) (fun h6 => absurd h6 (by decide))
  refine g_bipush (pc := 15) C 8 dX7_found_15 (by decide) ?_
  refine g_iload_n (pc := 17) C dX7_found_17 rfl ?_
  refine g_imul (pc := 18) C dX7_found_18 ?_
  refine g_eqi (nI (8 * i)) (pk_mul 8 i) ?_
  refine g_iload_n (pc := 19) C dX7_found_19 rfl ?_
  refine g_iadd (pc := 20) C dX7_found_20 ?_
  refine g_eqi (nI ((8 * i) + j)) (nI_add (8 * i) j) ?_
  refine g_istore (pc := 21) C dX7_found_21 (by decide) ?_
  refine g_iload_n (pc := 23) C dX7_found_23 rfl ?_
  refine g_if_ge (pc := 24) C 34 dX7_found_24 (by decide) (fun h24 => ?_) (fun h24 => ?_)
  ·
    refine g_iload_n (pc := 34) C dX7_found_34 rfl ?_
    refine g_aload_n (pc := 35) C dX7_found_35 rfl ?_
    refine g_getr (pc := 36) C fX7_41 rfl hM.1 dX7_found_36 rfl (hM.2 12 rfl).1 ?_
    refine g_iload (pc := 39) C dX7_found_39 rfl ?_
    refine g_ialdN (pc := 41) C rfl (hM.2 12 rfl).2 (by omega) (by decide) dX7_found_41 ?_
    refine g_icmp_le (pc := 42) C 52 dX7_found_42 (by decide) (fun h42 => ?_) (fun h42 => ?_)
    ·
      refine g_aload_n (pc := 52) C dX7_found_52 rfl ?_
      refine g_getr (pc := 53) C fX7_44 rfl hM.1 dX7_found_53 rfl (hM.2 13 rfl).1 ?_
      refine g_iload (pc := 56) C dX7_found_56 rfl ?_
      refine g_ialdN (pc := 58) C rfl (hM.2 13 rfl).2 (by omega) (by decide) dX7_found_58 ?_
      refine g_istore (pc := 59) C dX7_found_59 (by decide) ?_
      refine g_aload_n (pc := 61) C dX7_found_61 rfl ?_
      refine g_getr (pc := 62) C fX7_74 rfl hM.1 dX7_found_62 rfl (hM.2 23 rfl).1 ?_
      refine g_iload_n (pc := 65) C dX7_found_65 rfl ?_
      refine g_dup2 (pc := 66) C dX7_found_66 ?_
      refine g_ialdN (pc := 67) C rfl (hM.2 23 rfl).2 (by omega) (by decide) dX7_found_67 ?_
      refine g_iload (pc := 68) C dX7_found_68 rfl ?_
      refine g_iload_n (pc := 70) C dX7_found_70 rfl ?_
      refine g_isub (pc := 71) C dX7_found_71 ?_
      refine g_iadd (pc := 72) C dX7_found_72 ?_
      refine g_iastN (pc := 73) C rfl (hM.2 23 rfl).2 (by omega) (by decide) dX7_found_73 ?_
      refine g_aload_n (pc := 74) C dX7_found_74 rfl ?_
      refine g_getr (pc := 75) C fX7_44 rfl hM.1 dX7_found_75 rfl (hM.2 13 rfl).1 ?_
      refine g_iload (pc := 78) C dX7_found_78 rfl ?_
      refine g_iload_n (pc := 80) C dX7_found_80 rfl ?_
      refine g_iastN (pc := 81) C rfl (hM.2 13 rfl).2 (by omega) (by decide) dX7_found_81 ?_
      refine g_iload (pc := 82) C dX7_found_82 rfl ?_
      exact g_iret (pc := 84) C B rfl dX7_found_84 (by show (_, _) = t_X7_found S i j p0; unfold t_X7_found; rw [if_pos h24, if_pos h42])
    ·
      refine g_aload_n (pc := 45) C dX7_found_45 rfl ?_
      refine g_bipush (pc := 46) C (-6) dX7_found_46 (by decide) ?_
      refine g_callV (pc := 48) C B mX7_116 (c_mrefuse _ _ _ _ _ hM (-6) 6 (by decide) (by decide)) rfl rfl rfl rfl hM.1 (by decide) ⟨Nat.le_refl _, Nat.le_refl _⟩ (Nat.le_of_ble_eq_true rfl) dX7_found_48 (fun r S' hP => ?_)
      rw [hP.1, hP.2]
      exact g_iret (pc := 51) C B rfl dX7_found_51 (by show (_, _) = t_X7_found S i j p0; unfold t_X7_found; rw [if_pos h24, if_neg h42])
  ·
    refine g_aload_n (pc := 27) C dX7_found_27 rfl ?_
    refine g_bipush (pc := 28) C (-4) dX7_found_28 (by decide) ?_
    refine g_callV (pc := 30) C B mX7_116 (c_mrefuse _ _ _ _ _ hM (-4) 4 (by decide) (by decide)) rfl rfl rfl rfl hM.1 (by decide) ⟨Nat.le_refl _, Nat.le_refl _⟩ (Nat.le_of_ble_eq_true rfl) dX7_found_30 (fun r S' hP => ?_)
    rw [hP.1, hP.2]
    exact g_iret (pc := 33) C B rfl dX7_found_33 (by show (_, _) = t_X7_found S i j p0; unfold t_X7_found; rw [if_neg h24])

set_option maxHeartbeats 4000000 in
set_option maxRecDepth 100000 in
/-- empty of no lane -/
theorem c_X7_empty_b (l : Launch) (E : En) (base aw : Nat) (S : Mm) (mc : Nat) (lc : Nat → Nat) (hI : IM S mc lc) (p0 p1 : Int32) (h : ¬ (okL mc lc p0 p1)) : Cn l E base aw yX7_empty cX7_empty 5 (some Jvm.ClassFile.FieldType.int) 3 0 0 noF S [vr (2, 0, 0), vi p0, vi p1] (fun r S' => r = some (vi (-1)) ∧ S' = rfM S 1) := by
  have hM := hI.1
  have hmc := hI.2.2.1
  have hx : ¬ okL mc lc p0 p1 := fun q => h q
  refine Cn.of (by decide) (Nat.le_of_ble_eq_true rfl) ?_
  intro X Y hl hE hbase haw hfr C B
  subst hl; subst hE; subst hbase; subst haw
  refine g_aload_n (pc := 0) C dX7_empty_0 rfl ?_
  refine g_iload_n (pc := 1) C dX7_empty_1 rfl ?_
  refine g_iload_n (pc := 2) C dX7_empty_2 rfl ?_
  refine g_callV (pc := 3) C B mX7_123 (c_isL_f _ _ _ _ _ mc lc hI p0 p1 hx) rfl rfl rfl rfl hM.1 (by decide) ⟨Nat.le_refl _, Nat.le_refl _⟩ (Nat.le_of_ble_eq_true rfl) dX7_empty_3 (fun r S' hP => ?_)
  rw [hP.1, hP.2]
  refine g_if_ne (pc := 6) C 15 dX7_empty_6 (by decide) (fun h6 => absurd (by decide) h6) (fun _ => ?_)
  refine g_aload_n (pc := 9) C dX7_empty_9 rfl ?_
  refine g_iconst (pc := 10) C (-1) dX7_empty_10 (by decide) ?_
  refine g_callV (pc := 11) C B mX7_116 (c_mrefuse _ _ _ _ _ hM (-1) 1 (by decide) (by decide)) rfl rfl rfl rfl hM.1 (by decide) ⟨Nat.le_refl _, Nat.le_refl _⟩ (Nat.le_of_ble_eq_true rfl) dX7_empty_11 (fun r S' hP => ?_)
  rw [hP.1, hP.2]
  exact g_iret (pc := 14) C B rfl dX7_empty_14 (⟨rfl, rfl⟩)

def t_X7_empty (S : Mm) (i : Nat) (j : Nat) : Option AV × Mm := (some (vi (S.1 (2, 0, 13) ((8 * i) + j))), wI (wI (wI S (2, 0, 24) i ((S.1 (2, 0, 24) i) + (S.1 (2, 0, 13) ((8 * i) + j)))) (2, 0, 13) ((8 * i) + j) 0) (2, 0, 19) ((8 * i) + j) 0)
set_option maxHeartbeats 4000000 in
set_option maxRecDepth 100000 in
/-- empty(i, j, n) -/
theorem c_X7_empty (l : Launch) (E : En) (base aw : Nat) (S : Mm) (mc : Nat) (lc : Nat → Nat) (hI : IM S mc lc) (i : Nat) (hi : i < mc) (j : Nat) (hj : j < lc i) : Cn l E base aw yX7_empty cX7_empty 5 (some Jvm.ClassFile.FieldType.int) 3 0 0 noF S [vr (2, 0, 0), vi (nI i), vi (nI j)] (fun r S' => (r, S') = t_X7_empty S i j) := by
  have hM := hI.1
  have hmc := hI.2.2.1
  have hlc := (hI.2.2.2 i (by omega)).2
  refine Cn.of (by decide) (Nat.le_of_ble_eq_true rfl) ?_
  intro X Y hl hE hbase haw hfr C B
  subst hl; subst hE; subst hbase; subst haw
  refine g_aload_n (pc := 0) C dX7_empty_0 rfl ?_
  refine g_iload_n (pc := 1) C dX7_empty_1 rfl ?_
  refine g_iload_n (pc := 2) C dX7_empty_2 rfl ?_
  refine g_callV (pc := 3) C B mX7_123 (c_isL_t _ _ _ _ _ mc lc hI i hi j hj) rfl rfl rfl rfl hM.1 (by decide) ⟨Nat.le_refl _, Nat.le_refl _⟩ (Nat.le_of_ble_eq_true rfl) dX7_empty_3 (fun r S' hP => ?_)
  rw [hP.1, hP.2]
  refine g_if_ne (pc := 6) C 15 dX7_empty_6 (by decide) (fun _ => ?_) (fun h6 => absurd h6 (by decide))
  refine g_bipush (pc := 15) C 8 dX7_empty_15 (by decide) ?_
  refine g_iload_n (pc := 17) C dX7_empty_17 rfl ?_
  refine g_imul (pc := 18) C dX7_empty_18 ?_
  refine g_eqi (nI (8 * i)) (pk_mul 8 i) ?_
  refine g_iload_n (pc := 19) C dX7_empty_19 rfl ?_
  refine g_iadd (pc := 20) C dX7_empty_20 ?_
  refine g_eqi (nI ((8 * i) + j)) (nI_add (8 * i) j) ?_
  refine g_istore_n (pc := 21) C dX7_empty_21 (by decide) ?_
  refine g_aload_n (pc := 22) C dX7_empty_22 rfl ?_
  refine g_getr (pc := 23) C fX7_44 rfl hM.1 dX7_empty_23 rfl (hM.2 13 rfl).1 ?_
  refine g_iload_n (pc := 26) C dX7_empty_26 rfl ?_
  refine g_ialdN (pc := 27) C rfl (hM.2 13 rfl).2 (by omega) (by decide) dX7_empty_27 ?_
  refine g_istore (pc := 28) C dX7_empty_28 (by decide) ?_
  refine g_aload_n (pc := 30) C dX7_empty_30 rfl ?_
  refine g_getr (pc := 31) C fX7_77 rfl hM.1 dX7_empty_31 rfl (hM.2 24 rfl).1 ?_
  refine g_iload_n (pc := 34) C dX7_empty_34 rfl ?_
  refine g_dup2 (pc := 35) C dX7_empty_35 ?_
  refine g_ialdN (pc := 36) C rfl (hM.2 24 rfl).2 (by omega) (by decide) dX7_empty_36 ?_
  refine g_iload (pc := 37) C dX7_empty_37 rfl ?_
  refine g_iadd (pc := 39) C dX7_empty_39 ?_
  refine g_iastN (pc := 40) C rfl (hM.2 24 rfl).2 (by omega) (by decide) dX7_empty_40 ?_
  refine g_aload_n (pc := 41) C dX7_empty_41 rfl ?_
  refine g_getr (pc := 42) C fX7_44 rfl hM.1 dX7_empty_42 rfl (hM.2 13 rfl).1 ?_
  refine g_iload_n (pc := 45) C dX7_empty_45 rfl ?_
  refine g_iconst (pc := 46) C 0 dX7_empty_46 (by decide) ?_
  refine g_iastN (pc := 47) C rfl (hM.2 13 rfl).2 (by omega) (by decide) dX7_empty_47 ?_
  refine g_aload_n (pc := 48) C dX7_empty_48 rfl ?_
  refine g_getr (pc := 49) C fX7_62 rfl hM.1 dX7_empty_49 rfl (hM.2 19 rfl).1 ?_
  refine g_iload_n (pc := 52) C dX7_empty_52 rfl ?_
  refine g_iconst (pc := 53) C 0 dX7_empty_53 (by decide) ?_
  refine g_bastN (pc := 54) C rfl (hM.2 19 rfl).2 (by omega) (by decide) (Or.inl rfl) dX7_empty_54 ?_
  refine g_iload (pc := 55) C dX7_empty_55 rfl ?_
  exact g_iret (pc := 57) C B rfl dX7_empty_57 (by show (_, _) = t_X7_empty S i j; unfold t_X7_empty; rfl)
end
section
set_option maxHeartbeats 4000000 in
set_option maxRecDepth 100000 in
theorem c_X7_shut_b (l : Launch) (E : En) (base aw : Nat) (S : Mm) (mc : Nat) (lc : Nat → Nat) (hI : IM S mc lc) (p0 p1 p2 : Int32) (hx : ¬ okL mc lc p0 p1) : Cn l E base aw yX7_shut cX7_shut 4 (some Jvm.ClassFile.FieldType.boolean) 3 0 0 noF S [vr (2, 0, 0), vi p0, vi p1, vi p2] (fun r S' => r = some (vi 0) ∧ S' = S) := by
  have hM := hI.1
  have hmc := hI.2.2.1
  refine Cn.of (by decide) (Nat.le_of_ble_eq_true rfl) ?_
  intro X Y hl hE hbase haw hfr C B
  subst hl; subst hE; subst hbase; subst haw
  refine g_aload_n (pc := 0) C dX7_shut_0 rfl ?_
  refine g_iload_n (pc := 1) C dX7_shut_1 rfl ?_
  refine g_iload_n (pc := 2) C dX7_shut_2 rfl ?_
  refine g_callV (pc := 3) C B mX7_123 (c_isL_f _ _ _ _ _ mc lc hI p0 p1 hx) rfl rfl rfl rfl hM.1 (by decide) ⟨Nat.le_refl _, Nat.le_refl _⟩ (Nat.le_of_ble_eq_true rfl) dX7_shut_3 (fun r S' hP => ?_)
  rw [hP.1, hP.2]
  refine g_if_eq (pc := 6) C 24 dX7_shut_6 (by decide) (fun _ => ?_) (fun h6 => absurd (by decide) h6)
  refine g_iconst (pc := 24) C 0 dX7_shut_24 (by decide) ?_
  exact g_iret (pc := 25) C B rfl dX7_shut_25 (⟨rfl, rfl⟩)

def t_X7_shut (S : Mm) (i : Nat) (j : Nat) (p0 : Int32) : Option AV × Mm := if (S.1 (2, 0, 18) ((8 * i) + j)) = p0 then (some (vi (0)), S) else (if p0 = 0 then (some (vi (1)), wI (wI S (2, 0, 18) ((8 * i) + j) p0) (2, 0, 17) ((8 * i) + j) 0) else (some (vi (1)), wI (wI S (2, 0, 18) ((8 * i) + j) p0) (2, 0, 17) ((8 * i) + j) ((wI S (2, 0, 18) ((8 * i) + j) p0).1 (2, 0, 17) ((8 * i) + j))))
set_option maxHeartbeats 4000000 in
set_option maxRecDepth 100000 in
/-- shut(i, j, on) -/
theorem c_X7_shut (l : Launch) (E : En) (base aw : Nat) (S : Mm) (mc : Nat) (lc : Nat → Nat) (hI : IM S mc lc) (i : Nat) (hi : i < mc) (j : Nat) (hj : j < lc i) (p0 : Int32) (hon : p0 = 0 ∨ p0 = 1) : Cn l E base aw yX7_shut cX7_shut 4 (some Jvm.ClassFile.FieldType.boolean) 3 0 0 noF S [vr (2, 0, 0), vi (nI i), vi (nI j), vi p0] (fun r S' => (r, S') = t_X7_shut S i j p0) := by
  have hM := hI.1
  have hmc := hI.2.2.1
  have hlc := (hI.2.2.2 i (by omega)).2
  refine Cn.of (by decide) (Nat.le_of_ble_eq_true rfl) ?_
  intro X Y hl hE hbase haw hfr C B
  subst hl; subst hE; subst hbase; subst haw
  refine g_aload_n (pc := 0) C dX7_shut_0 rfl ?_
  refine g_iload_n (pc := 1) C dX7_shut_1 rfl ?_
  refine g_iload_n (pc := 2) C dX7_shut_2 rfl ?_
  refine g_callV (pc := 3) C B mX7_123 (c_isL_t _ _ _ _ _ mc lc hI i hi j hj) rfl rfl rfl rfl hM.1 (by decide) ⟨Nat.le_refl _, Nat.le_refl _⟩ (Nat.le_of_ble_eq_true rfl) dX7_shut_3 (fun r S' hP => ?_)
  rw [hP.1, hP.2]
  refine g_if_eq (pc := 6) C 24 dX7_shut_6 (by decide) (fun h6 => absurd h6 (by decide)) (fun _ => ?_)
  refine g_aload_n (pc := 9) C dX7_shut_9 rfl ?_
  refine g_getr (pc := 10) C fX7_59 rfl hM.1 dX7_shut_10 rfl (hM.2 18 rfl).1 ?_
  refine g_bipush (pc := 13) C 8 dX7_shut_13 (by decide) ?_
  refine g_iload_n (pc := 15) C dX7_shut_15 rfl ?_
  refine g_imul (pc := 16) C dX7_shut_16 ?_
  refine g_eqi (nI (8 * i)) (pk_mul 8 i) ?_
  refine g_iload_n (pc := 17) C dX7_shut_17 rfl ?_
  refine g_iadd (pc := 18) C dX7_shut_18 ?_
  refine g_eqi (nI ((8 * i) + j)) (nI_add (8 * i) j) ?_
  refine g_baldN (pc := 19) C rfl (hM.2 18 rfl).2 (by omega) (by decide) dX7_shut_19 ?_
  refine g_iload_n (pc := 20) C dX7_shut_20 rfl ?_
  refine g_icmp_ne (pc := 21) C 26 dX7_shut_21 (by decide) (fun h21 => ?_) (fun h21 => ?_)
  ·
    refine g_aload_n (pc := 26) C dX7_shut_26 rfl ?_
    refine g_getr (pc := 27) C fX7_59 rfl hM.1 dX7_shut_27 rfl (hM.2 18 rfl).1 ?_
    refine g_bipush (pc := 30) C 8 dX7_shut_30 (by decide) ?_
    refine g_iload_n (pc := 32) C dX7_shut_32 rfl ?_
    refine g_imul (pc := 33) C dX7_shut_33 ?_
    refine g_eqi (nI (8 * i)) (pk_mul 8 i) ?_
    refine g_iload_n (pc := 34) C dX7_shut_34 rfl ?_
    refine g_iadd (pc := 35) C dX7_shut_35 ?_
    refine g_eqi (nI ((8 * i) + j)) (nI_add (8 * i) j) ?_
    refine g_iload_n (pc := 36) C dX7_shut_36 rfl ?_
    refine g_bastN (pc := 37) C rfl (hM.2 18 rfl).2 (by omega) (by decide) (by assumption) dX7_shut_37 ?_
    refine g_aload_n (pc := 38) C dX7_shut_38 rfl ?_
    refine g_getr (pc := 39) C fX7_56 rfl hM.1 dX7_shut_39 rfl (hM.2 17 rfl).1 ?_
    refine g_bipush (pc := 42) C 8 dX7_shut_42 (by decide) ?_
    refine g_iload_n (pc := 44) C dX7_shut_44 rfl ?_
    refine g_imul (pc := 45) C dX7_shut_45 ?_
    refine g_eqi (nI (8 * i)) (pk_mul 8 i) ?_
    refine g_iload_n (pc := 46) C dX7_shut_46 rfl ?_
    refine g_iadd (pc := 47) C dX7_shut_47 ?_
    refine g_eqi (nI ((8 * i) + j)) (nI_add (8 * i) j) ?_
    refine g_iload_n (pc := 48) C dX7_shut_48 rfl ?_
    refine g_if_eq (pc := 49) C 66 dX7_shut_49 (by decide) (fun h49 => ?_) (fun h49 => ?_)
    ·
      refine g_iconst (pc := 66) C 0 dX7_shut_66 (by decide) ?_
      refine g_iastN (pc := 67) C rfl (hM.2 17 rfl).2 (by omega) (by decide) dX7_shut_67 ?_
      refine g_iconst (pc := 68) C 1 dX7_shut_68 (by decide) ?_
      exact g_iret (pc := 69) C B rfl dX7_shut_69 (by show (_, _) = t_X7_shut S i j p0; unfold t_X7_shut; rw [if_neg h21, if_pos h49])
    ·
      refine g_aload_n (pc := 52) C dX7_shut_52 rfl ?_
      refine g_getr (pc := 53) C fX7_56 rfl hM.1 dX7_shut_53 rfl (hM.2 17 rfl).1 ?_
      refine g_bipush (pc := 56) C 8 dX7_shut_56 (by decide) ?_
      refine g_iload_n (pc := 58) C dX7_shut_58 rfl ?_
      refine g_imul (pc := 59) C dX7_shut_59 ?_
      refine g_eqi (nI (8 * i)) (pk_mul 8 i) ?_
      refine g_iload_n (pc := 60) C dX7_shut_60 rfl ?_
      refine g_iadd (pc := 61) C dX7_shut_61 ?_
      refine g_eqi (nI ((8 * i) + j)) (nI_add (8 * i) j) ?_
      refine g_ialdN (pc := 62) C rfl (hM.2 17 rfl).2 (by omega) (by decide) dX7_shut_62 ?_
      refine g_goto (pc := 63) C 67 dX7_shut_63 (by decide) ?_
      refine g_iastN (pc := 67) C rfl (hM.2 17 rfl).2 (by omega) (by decide) dX7_shut_67 ?_
      refine g_iconst (pc := 68) C 1 dX7_shut_68 (by decide) ?_
      exact g_iret (pc := 69) C B rfl dX7_shut_69 (by show (_, _) = t_X7_shut S i j p0; unfold t_X7_shut; rw [if_neg h21, if_neg h49])
  ·
    refine g_iconst (pc := 24) C 0 dX7_shut_24 (by decide) ?_
    exact g_iret (pc := 25) C B rfl dX7_shut_25 (by show (_, _) = t_X7_shut S i j p0; unfold t_X7_shut; rw [if_pos h21])

set_option maxHeartbeats 4000000 in
set_option maxRecDepth 100000 in
theorem c_X7_power_b (l : Launch) (E : En) (base aw : Nat) (S : Mm) (mc : Nat) (lc : Nat → Nat) (hI : IM S mc lc) (p0 p1 : Int32) (hx : ¬ okN mc p0) : Cn l E base aw yX7_power cX7_power 3 (some Jvm.ClassFile.FieldType.boolean) 3 0 0 noF S [vr (2, 0, 0), vi p0, vi p1] (fun r S' => r = some (vi 0) ∧ S' = S) := by
  have hM := hI.1
  have hmc := hI.2.2.1
  refine Cn.of (by decide) (Nat.le_of_ble_eq_true rfl) ?_
  intro X Y hl hE hbase haw hfr C B
  subst hl; subst hE; subst hbase; subst haw
  refine g_aload_n (pc := 0) C dX7_power_0 rfl ?_
  refine g_iload_n (pc := 1) C dX7_power_1 rfl ?_
  refine g_callV (pc := 2) C B mX7_112 (c_isM_f _ _ _ _ _ mc lc hI p0 hx) rfl rfl rfl rfl hM.1 (by decide) ⟨Nat.le_refl _, Nat.le_refl _⟩ (Nat.le_of_ble_eq_true rfl) dX7_power_2 (fun r S' hP => ?_)
  rw [hP.1, hP.2]
  refine g_if_eq (pc := 5) C 18 dX7_power_5 (by decide) (fun _ => ?_) (fun h5 => absurd (by decide) h5)
  refine g_iconst (pc := 18) C 0 dX7_power_18 (by decide) ?_
  exact g_iret (pc := 19) C B rfl dX7_power_19 (⟨rfl, rfl⟩)

def t_X7_power (S : Mm) (i : Nat) (p0 : Int32) : Option AV × Mm := if (S.1 (2, 0, 8) i) = p0 then (if p0 = 0 then (some (vi (1)), wI (wI S (2, 0, 8) i 1) (2, 0, 9) i 0) else (some (vi (1)), wI (wI S (2, 0, 8) i 0) (2, 0, 9) i 0)) else (some (vi (0)), S)
set_option maxHeartbeats 4000000 in
set_option maxRecDepth 100000 in
/-- power(i, on) -/
theorem c_X7_power (l : Launch) (E : En) (base aw : Nat) (S : Mm) (mc : Nat) (lc : Nat → Nat) (hI : IM S mc lc) (i : Nat) (hi : i < mc) (p0 : Int32) : Cn l E base aw yX7_power cX7_power 3 (some Jvm.ClassFile.FieldType.boolean) 3 0 0 noF S [vr (2, 0, 0), vi (nI i), vi p0] (fun r S' => (r, S') = t_X7_power S i p0) := by
  have hM := hI.1
  have hmc := hI.2.2.1
  refine Cn.of (by decide) (Nat.le_of_ble_eq_true rfl) ?_
  intro X Y hl hE hbase haw hfr C B
  subst hl; subst hE; subst hbase; subst haw
  refine g_aload_n (pc := 0) C dX7_power_0 rfl ?_
  refine g_iload_n (pc := 1) C dX7_power_1 rfl ?_
  refine g_callV (pc := 2) C B mX7_112 (c_isM_t _ _ _ _ _ mc lc hI i hi) rfl rfl rfl rfl hM.1 (by decide) ⟨Nat.le_refl _, Nat.le_refl _⟩ (Nat.le_of_ble_eq_true rfl) dX7_power_2 (fun r S' hP => ?_)
  rw [hP.1, hP.2]
  refine g_if_eq (pc := 5) C 18 dX7_power_5 (by decide) (fun h5 => absurd h5 (by decide)) (fun _ => ?_)
  refine g_aload_n (pc := 8) C dX7_power_8 rfl ?_
  refine g_getr (pc := 9) C fX7_28 rfl hM.1 dX7_power_9 rfl (hM.2 8 rfl).1 ?_
  refine g_iload_n (pc := 12) C dX7_power_12 rfl ?_
  refine g_baldN (pc := 13) C rfl (hM.2 8 rfl).2 (by omega) (by decide) dX7_power_13 ?_
  refine g_iload_n (pc := 14) C dX7_power_14 rfl ?_
  refine g_icmp_eq (pc := 15) C 20 dX7_power_15 (by decide) (fun h15 => ?_) (fun h15 => ?_)
  ·
    refine g_aload_n (pc := 20) C dX7_power_20 rfl ?_
    refine g_getr (pc := 21) C fX7_28 rfl hM.1 dX7_power_21 rfl (hM.2 8 rfl).1 ?_
    refine g_iload_n (pc := 24) C dX7_power_24 rfl ?_
    refine g_iload_n (pc := 25) C dX7_power_25 rfl ?_
    refine g_if_ne (pc := 26) C 33 dX7_power_26 (by decide) (fun h26 => ?_) (fun h26 => ?_)
    ·
      refine g_iconst (pc := 33) C 0 dX7_power_33 (by decide) ?_
      refine g_bastN (pc := 34) C rfl (hM.2 8 rfl).2 (by omega) (by decide) (Or.inl rfl) dX7_power_34 ?_
      refine g_aload_n (pc := 35) C dX7_power_35 rfl ?_
      refine g_getr (pc := 36) C fX7_32 rfl hM.1 dX7_power_36 rfl (hM.2 9 rfl).1 ?_
      refine g_iload_n (pc := 39) C dX7_power_39 rfl ?_
      refine g_iconst (pc := 40) C 0 dX7_power_40 (by decide) ?_
      refine g_iastN (pc := 41) C rfl (hM.2 9 rfl).2 (by omega) (by decide) dX7_power_41 ?_
      refine g_iconst (pc := 42) C 1 dX7_power_42 (by decide) ?_
      exact g_iret (pc := 43) C B rfl dX7_power_43 (by show (_, _) = t_X7_power S i p0; unfold t_X7_power; rw [if_pos h15, if_neg h26])
    ·
      refine g_iconst (pc := 29) C 1 dX7_power_29 (by decide) ?_
      refine g_goto (pc := 30) C 34 dX7_power_30 (by decide) ?_
      refine g_bastN (pc := 34) C rfl (hM.2 8 rfl).2 (by omega) (by decide) (Or.inr rfl) dX7_power_34 ?_
      refine g_aload_n (pc := 35) C dX7_power_35 rfl ?_
      refine g_getr (pc := 36) C fX7_32 rfl hM.1 dX7_power_36 rfl (hM.2 9 rfl).1 ?_
      refine g_iload_n (pc := 39) C dX7_power_39 rfl ?_
      refine g_iconst (pc := 40) C 0 dX7_power_40 (by decide) ?_
      refine g_iastN (pc := 41) C rfl (hM.2 9 rfl).2 (by omega) (by decide) dX7_power_41 ?_
      refine g_iconst (pc := 42) C 1 dX7_power_42 (by decide) ?_
      exact g_iret (pc := 43) C B rfl dX7_power_43 (by show (_, _) = t_X7_power S i p0; unfold t_X7_power; rw [if_pos h15, if_pos h26])
  ·
    refine g_iconst (pc := 18) C 0 dX7_power_18 (by decide) ?_
    exact g_iret (pc := 19) C B rfl dX7_power_19 (by show (_, _) = t_X7_power S i p0; unfold t_X7_power; rw [if_neg h15])

def v_X7_nextServes (S : Mm) (i : Nat) (j : Nat) : Int32 := if (S.1 (2, 0, 2) i) ≤ (nI (j + 1)) then 0 else (if (S.1 (2, 0, 10) (((8 * i) + j) + 1)) = (S.1 (2, 0, 10) ((8 * i) + j)) then (if (S.1 (2, 0, 13) (((8 * i) + j) + 1)) ≤ 0 then 0 else (if (S.1 (2, 0, 18) (((8 * i) + j) + 1)) = 0 then (if (S.1 (2, 0, 19) (((8 * i) + j) + 1)) = 0 then 1 else 0) else 0)) else 0)
set_option maxHeartbeats 4000000 in
set_option maxRecDepth 100000 in
/-- nextServes(i, j) -/
theorem c_X7_nextServes (l : Launch) (E : En) (base aw : Nat) (S : Mm) (mc : Nat) (lc : Nat → Nat) (hI : IM S mc lc) (i : Nat) (hi : i < mc) (j : Nat) (hj : j < lc i) : Cn l E base aw yX7_nextServes cX7_nextServes 4 (some Jvm.ClassFile.FieldType.boolean) 1 0 0 noF S [vr (2, 0, 0), vi (nI i), vi (nI j)] (fun r S' => r = some (vi (v_X7_nextServes S i j)) ∧ S' = S) := by
  have hM := hI.1
  have hmc := hI.2.2.1
  have hlc := (hI.2.2.2 i (by omega)).2
  refine Cn.of (by decide) (Nat.le_of_ble_eq_true rfl) ?_
  intro X Y hl hE hbase haw hfr C B
  subst hl; subst hE; subst hbase; subst haw
  refine g_bipush (pc := 0) C 8 dX7_nextServes_0 (by decide) ?_
  refine g_iload_n (pc := 2) C dX7_nextServes_2 rfl ?_
  refine g_imul (pc := 3) C dX7_nextServes_3 ?_
  refine g_eqi (nI (8 * i)) (pk_mul 8 i) ?_
  refine g_iload_n (pc := 4) C dX7_nextServes_4 rfl ?_
  refine g_iadd (pc := 5) C dX7_nextServes_5 ?_
  refine g_eqi (nI ((8 * i) + j)) (nI_add (8 * i) j) ?_
  refine g_iconst (pc := 6) C 1 dX7_nextServes_6 (by decide) ?_
  refine g_iadd (pc := 7) C dX7_nextServes_7 ?_
  refine g_eqi (nI (((8 * i) + j) + 1)) (nI_add ((8 * i) + j) 1) ?_
  refine g_istore_n (pc := 8) C dX7_nextServes_8 (by decide) ?_
  refine g_iload_n (pc := 9) C dX7_nextServes_9 rfl ?_
  refine g_iconst (pc := 10) C 1 dX7_nextServes_10 (by decide) ?_
  refine g_iadd (pc := 11) C dX7_nextServes_11 ?_
  refine g_eqi (nI (j + 1)) (nI_add j 1) ?_
  refine g_aload_n (pc := 12) C dX7_nextServes_12 rfl ?_
  refine g_getr (pc := 13) C fX7_7 rfl hM.1 dX7_nextServes_13 rfl (hM.2 2 rfl).1 ?_
  refine g_iload_n (pc := 16) C dX7_nextServes_16 rfl ?_
  refine g_ialdN (pc := 17) C rfl (hM.2 2 rfl).2 (by omega) (by decide) dX7_nextServes_17 ?_
  refine g_icmp_ge (pc := 18) C 72 dX7_nextServes_18 (by decide) (fun h18 => ?_) (fun h18 => ?_)
  ·
    refine g_iconst (pc := 72) C 0 dX7_nextServes_72 (by decide) ?_
    exact g_iret (pc := 73) C B rfl dX7_nextServes_73 (⟨by show some (vi _) = some (vi (v_X7_nextServes S i j)); unfold v_X7_nextServes; rw [if_pos h18], rfl⟩)
  ·
    have hj1 : j + 1 < lc i := by rw [(hI.2.2.2 i (by omega)).1, nI_leI (by omega) (by omega)] at h18; omega
    refine g_aload_n (pc := 21) C dX7_nextServes_21 rfl ?_
    refine g_getr (pc := 22) C fX7_35 rfl hM.1 dX7_nextServes_22 rfl (hM.2 10 rfl).1 ?_
    refine g_iload_n (pc := 25) C dX7_nextServes_25 rfl ?_
    refine g_ialdN (pc := 26) C rfl (hM.2 10 rfl).2 (by omega) (by decide) dX7_nextServes_26 ?_
    refine g_aload_n (pc := 27) C dX7_nextServes_27 rfl ?_
    refine g_getr (pc := 28) C fX7_35 rfl hM.1 dX7_nextServes_28 rfl (hM.2 10 rfl).1 ?_
    refine g_bipush (pc := 31) C 8 dX7_nextServes_31 (by decide) ?_
    refine g_iload_n (pc := 33) C dX7_nextServes_33 rfl ?_
    refine g_imul (pc := 34) C dX7_nextServes_34 ?_
    refine g_eqi (nI (8 * i)) (pk_mul 8 i) ?_
    refine g_iload_n (pc := 35) C dX7_nextServes_35 rfl ?_
    refine g_iadd (pc := 36) C dX7_nextServes_36 ?_
    refine g_eqi (nI ((8 * i) + j)) (nI_add (8 * i) j) ?_
    refine g_ialdN (pc := 37) C rfl (hM.2 10 rfl).2 (by omega) (by decide) dX7_nextServes_37 ?_
    refine g_icmp_ne (pc := 38) C 72 dX7_nextServes_38 (by decide) (fun h38 => ?_) (fun h38 => ?_)
    ·
      refine g_iconst (pc := 72) C 0 dX7_nextServes_72 (by decide) ?_
      exact g_iret (pc := 73) C B rfl dX7_nextServes_73 (⟨by show some (vi _) = some (vi (v_X7_nextServes S i j)); unfold v_X7_nextServes; rw [if_neg h18, if_neg h38], rfl⟩)
    ·
      refine g_aload_n (pc := 41) C dX7_nextServes_41 rfl ?_
      refine g_getr (pc := 42) C fX7_44 rfl hM.1 dX7_nextServes_42 rfl (hM.2 13 rfl).1 ?_
      refine g_iload_n (pc := 45) C dX7_nextServes_45 rfl ?_
      refine g_ialdN (pc := 46) C rfl (hM.2 13 rfl).2 (by omega) (by decide) dX7_nextServes_46 ?_
      refine g_if_le (pc := 47) C 72 dX7_nextServes_47 (by decide) (fun h47 => ?_) (fun h47 => ?_)
      ·
        refine g_iconst (pc := 72) C 0 dX7_nextServes_72 (by decide) ?_
        exact g_iret (pc := 73) C B rfl dX7_nextServes_73 (⟨by show some (vi _) = some (vi (v_X7_nextServes S i j)); unfold v_X7_nextServes; rw [if_neg h18, if_pos h38, if_pos h47], rfl⟩)
      ·
        refine g_aload_n (pc := 50) C dX7_nextServes_50 rfl ?_
        refine g_getr (pc := 51) C fX7_59 rfl hM.1 dX7_nextServes_51 rfl (hM.2 18 rfl).1 ?_
        refine g_iload_n (pc := 54) C dX7_nextServes_54 rfl ?_
        refine g_baldN (pc := 55) C rfl (hM.2 18 rfl).2 (by omega) (by decide) dX7_nextServes_55 ?_
        refine g_if_ne (pc := 56) C 72 dX7_nextServes_56 (by decide) (fun h56 => ?_) (fun h56 => ?_)
        ·
          refine g_iconst (pc := 72) C 0 dX7_nextServes_72 (by decide) ?_
          exact g_iret (pc := 73) C B rfl dX7_nextServes_73 (⟨by show some (vi _) = some (vi (v_X7_nextServes S i j)); unfold v_X7_nextServes; rw [if_neg h18, if_pos h38, if_neg h47, if_neg h56], rfl⟩)
        ·
          refine g_aload_n (pc := 59) C dX7_nextServes_59 rfl ?_
          refine g_getr (pc := 60) C fX7_62 rfl hM.1 dX7_nextServes_60 rfl (hM.2 19 rfl).1 ?_
          refine g_iload_n (pc := 63) C dX7_nextServes_63 rfl ?_
          refine g_baldN (pc := 64) C rfl (hM.2 19 rfl).2 (by omega) (by decide) dX7_nextServes_64 ?_
          refine g_if_ne (pc := 65) C 72 dX7_nextServes_65 (by decide) (fun h65 => ?_) (fun h65 => ?_)
          ·
            refine g_iconst (pc := 72) C 0 dX7_nextServes_72 (by decide) ?_
            exact g_iret (pc := 73) C B rfl dX7_nextServes_73 (⟨by show some (vi _) = some (vi (v_X7_nextServes S i j)); unfold v_X7_nextServes; rw [if_neg h18, if_pos h38, if_neg h47, if_pos h56, if_neg h65], rfl⟩)
          ·
            refine g_iconst (pc := 68) C 1 dX7_nextServes_68 (by decide) ?_
            refine g_goto (pc := 69) C 73 dX7_nextServes_69 (by decide) ?_
            exact g_iret (pc := 73) C B rfl dX7_nextServes_73 (⟨by show some (vi _) = some (vi (v_X7_nextServes S i j)); unfold v_X7_nextServes; rw [if_neg h18, if_pos h38, if_neg h47, if_pos h56, if_pos h65], rfl⟩)

def v_X7_sells (S : Mm) (i : Nat) (j : Nat) : Int32 := if (S.1 (2, 0, 18) ((8 * i) + j)) = 0 then (if (S.1 (2, 0, 19) ((8 * i) + j)) = 0 then (if 0 < (S.1 (2, 0, 13) ((8 * i) + j)) then 1 else (if (S.1 (2, 0, 14) ((8 * i) + j)) = 3 then (if (v_X7_nextServes S i j) = 0 then 0 else 1) else 0)) else 0) else 0
set_option maxHeartbeats 4000000 in
set_option maxRecDepth 100000 in
/-- sells(i, j) -/
theorem c_X7_sells (l : Launch) (E : En) (base aw : Nat) (S : Mm) (mc : Nat) (lc : Nat → Nat) (hI : IM S mc lc) (i : Nat) (hi : i < mc) (j : Nat) (hj : j < lc i) : Cn l E base aw yX7_sells cX7_sells 4 (some Jvm.ClassFile.FieldType.boolean) 2 0 0 noF S [vr (2, 0, 0), vi (nI i), vi (nI j)] (fun r S' => r = some (vi (v_X7_sells S i j)) ∧ S' = S) := by
  have hM := hI.1
  have hmc := hI.2.2.1
  have hlc := (hI.2.2.2 i (by omega)).2
  refine Cn.of (by decide) (Nat.le_of_ble_eq_true rfl) ?_
  intro X Y hl hE hbase haw hfr C B
  subst hl; subst hE; subst hbase; subst haw
  refine g_bipush (pc := 0) C 8 dX7_sells_0 (by decide) ?_
  refine g_iload_n (pc := 2) C dX7_sells_2 rfl ?_
  refine g_imul (pc := 3) C dX7_sells_3 ?_
  refine g_eqi (nI (8 * i)) (pk_mul 8 i) ?_
  refine g_iload_n (pc := 4) C dX7_sells_4 rfl ?_
  refine g_iadd (pc := 5) C dX7_sells_5 ?_
  refine g_eqi (nI ((8 * i) + j)) (nI_add (8 * i) j) ?_
  refine g_istore_n (pc := 6) C dX7_sells_6 (by decide) ?_
  refine g_aload_n (pc := 7) C dX7_sells_7 rfl ?_
  refine g_getr (pc := 8) C fX7_59 rfl hM.1 dX7_sells_8 rfl (hM.2 18 rfl).1 ?_
  refine g_iload_n (pc := 11) C dX7_sells_11 rfl ?_
  refine g_baldN (pc := 12) C rfl (hM.2 18 rfl).2 (by omega) (by decide) dX7_sells_12 ?_
  refine g_if_ne (pc := 13) C 25 dX7_sells_13 (by decide) (fun h13 => ?_) (fun h13 => ?_)
  ·
    refine g_iconst (pc := 25) C 0 dX7_sells_25 (by decide) ?_
    exact g_iret (pc := 26) C B rfl dX7_sells_26 (⟨by show some (vi _) = some (vi (v_X7_sells S i j)); unfold v_X7_sells; rw [if_neg h13], rfl⟩)
  ·
    refine g_aload_n (pc := 16) C dX7_sells_16 rfl ?_
    refine g_getr (pc := 17) C fX7_62 rfl hM.1 dX7_sells_17 rfl (hM.2 19 rfl).1 ?_
    refine g_iload_n (pc := 20) C dX7_sells_20 rfl ?_
    refine g_baldN (pc := 21) C rfl (hM.2 19 rfl).2 (by omega) (by decide) dX7_sells_21 ?_
    refine g_if_eq (pc := 22) C 27 dX7_sells_22 (by decide) (fun h22 => ?_) (fun h22 => ?_)
    ·
      refine g_aload_n (pc := 27) C dX7_sells_27 rfl ?_
      refine g_getr (pc := 28) C fX7_44 rfl hM.1 dX7_sells_28 rfl (hM.2 13 rfl).1 ?_
      refine g_iload_n (pc := 31) C dX7_sells_31 rfl ?_
      refine g_ialdN (pc := 32) C rfl (hM.2 13 rfl).2 (by omega) (by decide) dX7_sells_32 ?_
      refine g_if_gt (pc := 33) C 55 dX7_sells_33 (by decide) (fun h33 => ?_) (fun h33 => ?_)
      ·
        refine g_iconst (pc := 55) C 1 dX7_sells_55 (by decide) ?_
        refine g_goto (pc := 56) C 60 dX7_sells_56 (by decide) ?_
        exact g_iret (pc := 60) C B rfl dX7_sells_60 (⟨by show some (vi _) = some (vi (v_X7_sells S i j)); unfold v_X7_sells; rw [if_pos h13, if_pos h22, if_pos h33], rfl⟩)
      ·
        refine g_aload_n (pc := 36) C dX7_sells_36 rfl ?_
        refine g_getr (pc := 37) C fX7_47 rfl hM.1 dX7_sells_37 rfl (hM.2 14 rfl).1 ?_
        refine g_iload_n (pc := 40) C dX7_sells_40 rfl ?_
        refine g_ialdN (pc := 41) C rfl (hM.2 14 rfl).2 (by omega) (by decide) dX7_sells_41 ?_
        refine g_iconst (pc := 42) C 3 dX7_sells_42 (by decide) ?_
        refine g_icmp_ne (pc := 43) C 59 dX7_sells_43 (by decide) (fun h43 => ?_) (fun h43 => ?_)
        ·
          refine g_iconst (pc := 59) C 0 dX7_sells_59 (by decide) ?_
          exact g_iret (pc := 60) C B rfl dX7_sells_60 (⟨by show some (vi _) = some (vi (v_X7_sells S i j)); unfold v_X7_sells; rw [if_pos h13, if_pos h22, if_neg h33, if_neg h43], rfl⟩)
        ·
          refine g_aload_n (pc := 46) C dX7_sells_46 rfl ?_
          refine g_iload_n (pc := 47) C dX7_sells_47 rfl ?_
          refine g_iload_n (pc := 48) C dX7_sells_48 rfl ?_
          refine g_callV (pc := 49) C B mX7_127 (c_X7_nextServes _ _ _ _ _ mc lc hI i hi j hj) rfl rfl rfl rfl hM.1 (by decide) ⟨Nat.le_refl _, Nat.le_refl _⟩ (Nat.le_of_ble_eq_true rfl) dX7_sells_49 (fun r S' hP => ?_)
          rw [hP.1, hP.2]
          refine g_if_eq (pc := 52) C 59 dX7_sells_52 (by decide) (fun h52 => ?_) (fun h52 => ?_)
          ·
            refine g_iconst (pc := 59) C 0 dX7_sells_59 (by decide) ?_
            exact g_iret (pc := 60) C B rfl dX7_sells_60 (⟨by show some (vi _) = some (vi (v_X7_sells S i j)); unfold v_X7_sells; rw [if_pos h13, if_pos h22, if_neg h33, if_pos h43, if_pos h52], rfl⟩)
          ·
            refine g_iconst (pc := 55) C 1 dX7_sells_55 (by decide) ?_
            refine g_goto (pc := 56) C 60 dX7_sells_56 (by decide) ?_
            exact g_iret (pc := 60) C B rfl dX7_sells_60 (⟨by show some (vi _) = some (vi (v_X7_sells S i j)); unfold v_X7_sells; rw [if_pos h13, if_pos h22, if_neg h33, if_pos h43, if_neg h52], rfl⟩)
    ·
      refine g_iconst (pc := 25) C 0 dX7_sells_25 (by decide) ?_
      exact g_iret (pc := 26) C B rfl dX7_sells_26 (⟨by show some (vi _) = some (vi (v_X7_sells S i j)); unfold v_X7_sells; rw [if_pos h13, if_neg h22], rfl⟩)

def v_X7_mayTake (S : Mm) (i : Nat) (j : Nat) : Int32 := if (S.1 (2, 0, 2) i) ≤ (nI j) then 0 else (if (S.1 (2, 0, 18) ((8 * i) + j)) = 0 then (if (S.1 (2, 0, 19) ((8 * i) + j)) = 0 then (S.1 (2, 0, 12) ((8 * i) + j)) - (S.1 (2, 0, 13) ((8 * i) + j)) else 0) else 0)
set_option maxHeartbeats 4000000 in
set_option maxRecDepth 100000 in
/-- mayTake(i, j) -/
theorem c_X7_mayTake (l : Launch) (E : En) (base aw : Nat) (S : Mm) (mc : Nat) (lc : Nat → Nat) (hI : IM S mc lc) (i : Nat) (hi : i < mc) (j : Nat) (hj : j < 8) : Cn l E base aw yX7_mayTake cX7_mayTake 4 (some Jvm.ClassFile.FieldType.int) 1 0 0 noF S [vr (2, 0, 0), vi (nI i), vi (nI j)] (fun r S' => r = some (vi (v_X7_mayTake S i j)) ∧ S' = S) := by
  have hM := hI.1
  have hmc := hI.2.2.1
  refine Cn.of (by decide) (Nat.le_of_ble_eq_true rfl) ?_
  intro X Y hl hE hbase haw hfr C B
  subst hl; subst hE; subst hbase; subst haw
  refine g_bipush (pc := 0) C 8 dX7_mayTake_0 (by decide) ?_
  refine g_iload_n (pc := 2) C dX7_mayTake_2 rfl ?_
  refine g_imul (pc := 3) C dX7_mayTake_3 ?_
  refine g_eqi (nI (8 * i)) (pk_mul 8 i) ?_
  refine g_iload_n (pc := 4) C dX7_mayTake_4 rfl ?_
  refine g_iadd (pc := 5) C dX7_mayTake_5 ?_
  refine g_eqi (nI ((8 * i) + j)) (nI_add (8 * i) j) ?_
  refine g_istore_n (pc := 6) C dX7_mayTake_6 (by decide) ?_
  refine g_iload_n (pc := 7) C dX7_mayTake_7 rfl ?_
  refine g_aload_n (pc := 8) C dX7_mayTake_8 rfl ?_
  refine g_getr (pc := 9) C fX7_7 rfl hM.1 dX7_mayTake_9 rfl (hM.2 2 rfl).1 ?_
  refine g_iload_n (pc := 12) C dX7_mayTake_12 rfl ?_
  refine g_ialdN (pc := 13) C rfl (hM.2 2 rfl).2 (by omega) (by decide) dX7_mayTake_13 ?_
  refine g_icmp_ge (pc := 14) C 51 dX7_mayTake_14 (by decide) (fun h14 => ?_) (fun h14 => ?_)
  ·
    refine g_iconst (pc := 51) C 0 dX7_mayTake_51 (by decide) ?_
    exact g_iret (pc := 52) C B rfl dX7_mayTake_52 (⟨by show some (vi _) = some (vi (v_X7_mayTake S i j)); unfold v_X7_mayTake; rw [if_pos h14], rfl⟩)
  ·
    refine g_aload_n (pc := 17) C dX7_mayTake_17 rfl ?_
    refine g_getr (pc := 18) C fX7_59 rfl hM.1 dX7_mayTake_18 rfl (hM.2 18 rfl).1 ?_
    refine g_iload_n (pc := 21) C dX7_mayTake_21 rfl ?_
    refine g_baldN (pc := 22) C rfl (hM.2 18 rfl).2 (by omega) (by decide) dX7_mayTake_22 ?_
    refine g_if_ne (pc := 23) C 51 dX7_mayTake_23 (by decide) (fun h23 => ?_) (fun h23 => ?_)
    ·
      refine g_iconst (pc := 51) C 0 dX7_mayTake_51 (by decide) ?_
      exact g_iret (pc := 52) C B rfl dX7_mayTake_52 (⟨by show some (vi _) = some (vi (v_X7_mayTake S i j)); unfold v_X7_mayTake; rw [if_neg h14, if_neg h23], rfl⟩)
    ·
      refine g_aload_n (pc := 26) C dX7_mayTake_26 rfl ?_
      refine g_getr (pc := 27) C fX7_62 rfl hM.1 dX7_mayTake_27 rfl (hM.2 19 rfl).1 ?_
      refine g_iload_n (pc := 30) C dX7_mayTake_30 rfl ?_
      refine g_baldN (pc := 31) C rfl (hM.2 19 rfl).2 (by omega) (by decide) dX7_mayTake_31 ?_
      refine g_if_ne (pc := 32) C 51 dX7_mayTake_32 (by decide) (fun h32 => ?_) (fun h32 => ?_)
      ·
        refine g_iconst (pc := 51) C 0 dX7_mayTake_51 (by decide) ?_
        exact g_iret (pc := 52) C B rfl dX7_mayTake_52 (⟨by show some (vi _) = some (vi (v_X7_mayTake S i j)); unfold v_X7_mayTake; rw [if_neg h14, if_pos h23, if_neg h32], rfl⟩)
      ·
        refine g_aload_n (pc := 35) C dX7_mayTake_35 rfl ?_
        refine g_getr (pc := 36) C fX7_41 rfl hM.1 dX7_mayTake_36 rfl (hM.2 12 rfl).1 ?_
        refine g_iload_n (pc := 39) C dX7_mayTake_39 rfl ?_
        refine g_ialdN (pc := 40) C rfl (hM.2 12 rfl).2 (by omega) (by decide) dX7_mayTake_40 ?_
        refine g_aload_n (pc := 41) C dX7_mayTake_41 rfl ?_
        refine g_getr (pc := 42) C fX7_44 rfl hM.1 dX7_mayTake_42 rfl (hM.2 13 rfl).1 ?_
        refine g_iload_n (pc := 45) C dX7_mayTake_45 rfl ?_
        refine g_ialdN (pc := 46) C rfl (hM.2 13 rfl).2 (by omega) (by decide) dX7_mayTake_46 ?_
        refine g_isub (pc := 47) C dX7_mayTake_47 ?_
        refine g_goto (pc := 48) C 52 dX7_mayTake_48 (by decide) ?_
        exact g_iret (pc := 52) C B rfl dX7_mayTake_52 (⟨by show some (vi _) = some (vi (v_X7_mayTake S i j)); unfold v_X7_mayTake; rw [if_neg h14, if_pos h23, if_pos h32], rfl⟩)

def v_X7_sizeAt (S : Mm) (gd : Nat → Nat) (i : Nat) (j : Nat) : Int32 := S.1 (2, 0, 20) (gd (8 * i + j))
set_option maxHeartbeats 4000000 in
set_option maxRecDepth 100000 in
/-- sizeAt(i, j) -/
theorem c_X7_sizeAt (l : Launch) (E : En) (base aw : Nat) (S : Mm) (mc : Nat) (lc : Nat → Nat) (hI : IM S mc lc) (gd : Nat → Nat) (hgd : ∀ a, a < 48 → S.1 (2, 0, 10) a = nI (gd a) ∧ gd a < 16) (i : Nat) (hi : i < mc) (j : Nat) (hj : j < 8) : Cn l E base aw yX7_sizeAt cX7_sizeAt 3 (some Jvm.ClassFile.FieldType.int) 1 0 0 noF S [vr (2, 0, 0), vi (nI i), vi (nI j)] (fun r S' => r = some (vi (v_X7_sizeAt S gd i j)) ∧ S' = S) := by
  have hM := hI.1
  have hmc := hI.2.2.1
  refine Cn.of (by decide) (Nat.le_of_ble_eq_true rfl) ?_
  intro X Y hl hE hbase haw hfr C B
  subst hl; subst hE; subst hbase; subst haw
  refine g_aload_n (pc := 0) C dX7_sizeAt_0 rfl ?_
  refine g_getr (pc := 1) C fX7_65 rfl hM.1 dX7_sizeAt_1 rfl (hM.2 20 rfl).1 ?_
  refine g_aload_n (pc := 4) C dX7_sizeAt_4 rfl ?_
  refine g_getr (pc := 5) C fX7_35 rfl hM.1 dX7_sizeAt_5 rfl (hM.2 10 rfl).1 ?_
  refine g_bipush (pc := 8) C 8 dX7_sizeAt_8 (by decide) ?_
  refine g_iload_n (pc := 10) C dX7_sizeAt_10 rfl ?_
  refine g_imul (pc := 11) C dX7_sizeAt_11 ?_
  refine g_eqi (nI (8 * i)) (pk_mul 8 i) ?_
  refine g_iload_n (pc := 12) C dX7_sizeAt_12 rfl ?_
  refine g_iadd (pc := 13) C dX7_sizeAt_13 ?_
  refine g_eqi (nI ((8 * i) + j)) (nI_add (8 * i) j) ?_
  refine g_ialdN (pc := 14) C rfl (hM.2 10 rfl).2 (by omega) (by decide) dX7_sizeAt_14 ?_
  refine g_eqi (nI (gd (8 * i + j))) (hgd (8 * i + j) (by omega)).1 ?_
  have hg16 := (hgd (8 * i + j) (by omega)).2
  refine g_ialdN (pc := 15) C rfl (hM.2 20 rfl).2 (by omega) (by decide) dX7_sizeAt_15 ?_
  exact g_iret (pc := 16) C B rfl dX7_sizeAt_16 (⟨by show some (vi _) = some (vi (v_X7_sizeAt S gd i j)); unfold v_X7_sizeAt; rfl, rfl⟩)

def v_X7_worthAt (S : Mm) (gd : Nat → Nat) (i : Nat) (j : Nat) (c : Int32) : Int32 := c * ((1000 * (S.1 (2, 0, 11) ((8 * i) + j))) - (v_X7_sizeAt S gd i j))
set_option maxHeartbeats 4000000 in
set_option maxRecDepth 100000 in
/-- worthAt(i, j, c) -/
theorem c_X7_worthAt (l : Launch) (E : En) (base aw : Nat) (S : Mm) (mc : Nat) (lc : Nat → Nat) (hI : IM S mc lc) (gd : Nat → Nat) (hgd : ∀ a, a < 48 → S.1 (2, 0, 10) a = nI (gd a) ∧ gd a < 16) (i : Nat) (hi : i < mc) (j : Nat) (hj : j < 8) (c : Int32) : Cn l E base aw yX7_worthAt cX7_worthAt 4 (some Jvm.ClassFile.FieldType.int) 2 0 0 noF S [vr (2, 0, 0), vi (nI i), vi (nI j), vi c] (fun r S' => r = some (vi (v_X7_worthAt S gd i j c)) ∧ S' = S) := by
  have hM := hI.1
  have hmc := hI.2.2.1
  refine Cn.of (by decide) (Nat.le_of_ble_eq_true rfl) ?_
  intro X Y hl hE hbase haw hfr C B
  subst hl; subst hE; subst hbase; subst haw
  refine g_iload_n (pc := 0) C dX7_worthAt_0 rfl ?_
  refine g_sipush (pc := 1) C 1000 dX7_worthAt_1 (by decide) ?_
  refine g_aload_n (pc := 4) C dX7_worthAt_4 rfl ?_
  refine g_getr (pc := 5) C fX7_38 rfl hM.1 dX7_worthAt_5 rfl (hM.2 11 rfl).1 ?_
  refine g_bipush (pc := 8) C 8 dX7_worthAt_8 (by decide) ?_
  refine g_iload_n (pc := 10) C dX7_worthAt_10 rfl ?_
  refine g_imul (pc := 11) C dX7_worthAt_11 ?_
  refine g_eqi (nI (8 * i)) (pk_mul 8 i) ?_
  refine g_iload_n (pc := 12) C dX7_worthAt_12 rfl ?_
  refine g_iadd (pc := 13) C dX7_worthAt_13 ?_
  refine g_eqi (nI ((8 * i) + j)) (nI_add (8 * i) j) ?_
  refine g_ialdN (pc := 14) C rfl (hM.2 11 rfl).2 (by omega) (by decide) dX7_worthAt_14 ?_
  refine g_imul (pc := 15) C dX7_worthAt_15 ?_
  refine g_aload_n (pc := 16) C dX7_worthAt_16 rfl ?_
  refine g_iload_n (pc := 17) C dX7_worthAt_17 rfl ?_
  refine g_iload_n (pc := 18) C dX7_worthAt_18 rfl ?_
  refine g_callV (pc := 19) C B mX7_166 (c_X7_sizeAt _ _ _ _ _ mc lc hI gd hgd i hi j hj) rfl rfl rfl rfl hM.1 (by decide) ⟨Nat.le_refl _, Nat.le_refl _⟩ (Nat.le_of_ble_eq_true rfl) dX7_worthAt_19 (fun r S' hP => ?_)
  rw [hP.1, hP.2]
  refine g_isub (pc := 22) C dX7_worthAt_22 ?_
  refine g_imul (pc := 23) C dX7_worthAt_23 ?_
  exact g_iret (pc := 24) C B rfl dX7_worthAt_24 (⟨by show some (vi _) = some (vi (v_X7_worthAt S gd i j c)); unfold v_X7_worthAt; rfl, rfl⟩)

def v_X7_rate (S : Mm) (i : Nat) (g : Nat) (t : Nat) : Int32 := if (S.1 (2, 0, 22) (((384 * i) + (24 * g)) + (t % 24))) = 0 then 0 else (1000 * (S.1 (2, 0, 21) (((384 * i) + (24 * g)) + (t % 24)))) / (S.1 (2, 0, 22) (((384 * i) + (24 * g)) + (t % 24)))
set_option maxHeartbeats 4000000 in
set_option maxRecDepth 100000 in
/-- rate(i, g, t) -/
theorem c_X7_rate (l : Launch) (E : En) (base aw : Nat) (S : Mm) (mc : Nat) (lc : Nat → Nat) (hI : IM S mc lc) (i : Nat) (hi : i < mc) (g : Nat) (hg : g < 16) (t : Nat) (ht : t < 100000) : Cn l E base aw yX7_rate cX7_rate 5 (some Jvm.ClassFile.FieldType.int) 0 0 0 noF S [vr (2, 0, 0), vi (nI i), vi (nI g), vi (nI t)] (fun r S' => r = some (vi (v_X7_rate S i g t)) ∧ S' = S) := by
  have hM := hI.1
  have hmc := hI.2.2.1
  refine Cn.of (by decide) (Nat.le_of_ble_eq_true rfl) ?_
  intro X Y hl hE hbase haw hfr C B
  subst hl; subst hE; subst hbase; subst haw
  refine g_sipush (pc := 0) C 384 dX7_rate_0 (by decide) ?_
  refine g_iload_n (pc := 3) C dX7_rate_3 rfl ?_
  refine g_imul (pc := 4) C dX7_rate_4 ?_
  refine g_eqi (nI (384 * i)) (pk_mul 384 i) ?_
  refine g_bipush (pc := 5) C 24 dX7_rate_5 (by decide) ?_
  refine g_iload_n (pc := 7) C dX7_rate_7 rfl ?_
  refine g_imul (pc := 8) C dX7_rate_8 ?_
  refine g_eqi (nI (24 * g)) (pk_mul 24 g) ?_
  refine g_iadd (pc := 9) C dX7_rate_9 ?_
  refine g_eqi (nI ((384 * i) + (24 * g))) (nI_add (384 * i) (24 * g)) ?_
  refine g_iload_n (pc := 10) C dX7_rate_10 rfl ?_
  refine g_bipush (pc := 11) C 24 dX7_rate_11 (by decide) ?_
  refine g_irem (pc := 13) C dX7_rate_13 (by decide) ?_
  refine g_eqi (nI (t % 24)) (pk_rem (a := t) (d := 24) (by omega) (by decide) (by decide)) ?_
  refine g_iadd (pc := 14) C dX7_rate_14 ?_
  refine g_eqi (nI (((384 * i) + (24 * g)) + (t % 24))) (nI_add ((384 * i) + (24 * g)) (t % 24)) ?_
  refine g_istore (pc := 15) C dX7_rate_15 (by decide) ?_
  refine g_aload_n (pc := 17) C dX7_rate_17 rfl ?_
  refine g_getr (pc := 18) C fX7_71 rfl hM.1 dX7_rate_18 rfl (hM.2 22 rfl).1 ?_
  refine g_iload (pc := 21) C dX7_rate_21 rfl ?_
  refine g_ialdN (pc := 23) C rfl (hM.2 22 rfl).2 (by omega) (by decide) dX7_rate_23 ?_
  refine g_if_ne (pc := 24) C 31 dX7_rate_24 (by decide) (fun h24 => ?_) (fun h24 => ?_)
  ·
    refine g_sipush (pc := 31) C 1000 dX7_rate_31 (by decide) ?_
    refine g_aload_n (pc := 34) C dX7_rate_34 rfl ?_
    refine g_getr (pc := 35) C fX7_68 rfl hM.1 dX7_rate_35 rfl (hM.2 21 rfl).1 ?_
    refine g_iload (pc := 38) C dX7_rate_38 rfl ?_
    refine g_ialdN (pc := 40) C rfl (hM.2 21 rfl).2 (by omega) (by decide) dX7_rate_40 ?_
    refine g_imul (pc := 41) C dX7_rate_41 ?_
    refine g_aload_n (pc := 42) C dX7_rate_42 rfl ?_
    refine g_getr (pc := 43) C fX7_71 rfl hM.1 dX7_rate_43 rfl (hM.2 22 rfl).1 ?_
    refine g_iload (pc := 46) C dX7_rate_46 rfl ?_
    refine g_ialdN (pc := 48) C rfl (hM.2 22 rfl).2 (by omega) (by decide) dX7_rate_48 ?_
    refine g_idiv (pc := 49) C dX7_rate_49 h24 ?_
    exact g_iret (pc := 50) C B rfl dX7_rate_50 (⟨by show some (vi _) = some (vi (v_X7_rate S i g t)); unfold v_X7_rate; rw [if_neg h24], rfl⟩)
  ·
    refine g_iconst (pc := 27) C 0 dX7_rate_27 (by decide) ?_
    refine g_goto (pc := 28) C 50 dX7_rate_28 (by decide) ?_
    exact g_iret (pc := 50) C B rfl dX7_rate_50 (⟨by show some (vi _) = some (vi (v_X7_rate S i g t)); unfold v_X7_rate; rw [if_pos h24], rfl⟩)

set_option maxHeartbeats 4000000 in
set_option maxRecDepth 100000 in
/-- counted of no machine or good -/
theorem c_X7_counted_b (l : Launch) (E : En) (base aw : Nat) (S : Mm) (mc : Nat) (lc : Nat → Nat) (hI : IM S mc lc) (p0 p1 p2 p3 : Int32) (h : ¬ (okN mc p0 ∧ okN 16 p1)) : Cn l E base aw yX7_counted cX7_counted 6 (some Jvm.ClassFile.FieldType.int) 2 0 0 noF S [vr (2, 0, 0), vi p0, vi p1, vi p2, vi p3] (fun r S' => r = some (vi (-1)) ∧ S' = rfM S 1) := by
  have hM := hI.1
  have hmc := hI.2.2.1
  by_cases hm0 : okN mc p0
  ·
    obtain ⟨i, hi, rfl⟩ := hm0
    have hx : ¬ okN 16 p1 := fun q => h ⟨⟨i, hi, rfl⟩, q⟩
    refine Cn.of (by decide) (Nat.le_of_ble_eq_true rfl) ?_
    intro X Y hl hE hbase haw hfr C B
    subst hl; subst hE; subst hbase; subst haw
    refine g_aload_n (pc := 0) C dX7_counted_0 rfl ?_
    refine g_iload_n (pc := 1) C dX7_counted_1 rfl ?_
    refine g_callV (pc := 2) C B mX7_112 (c_isM_t _ _ _ _ _ mc lc hI i hi) rfl rfl rfl rfl hM.1 (by decide) ⟨Nat.le_refl _, Nat.le_refl _⟩ (Nat.le_of_ble_eq_true rfl) dX7_counted_2 (fun r S' hP => ?_)
    rw [hP.1, hP.2]
    refine g_if_eq (pc := 5) C 18 dX7_counted_5 (by decide) (fun h5 => absurd h5 (by decide)) (fun _ => ?_)
    refine g_iload_n (pc := 8) C dX7_counted_8 rfl ?_
    refine g_iconst (pc := 9) C 0 dX7_counted_9 (by decide) ?_
    refine g_bipush (pc := 10) C 15 dX7_counted_10 (by decide) ?_
    refine g_callS (pc := 12) C B mX7_108 (c_in_f _ _ _ _ _ _ _ _ (okW_f (n := 15) (by decide) hx)) rfl rfl (by decide) ⟨Nat.le_refl _, Nat.le_refl _⟩ (Nat.le_of_ble_eq_true rfl) dX7_counted_12 (fun r S' hP => ?_)
    rw [hP.1, hP.2]
    refine g_if_ne (pc := 15) C 24 dX7_counted_15 (by decide) (fun h15 => absurd (by decide) h15) (fun _ => ?_)
    refine g_aload_n (pc := 18) C dX7_counted_18 rfl ?_
    refine g_iconst (pc := 19) C (-1) dX7_counted_19 (by decide) ?_
    refine g_callV (pc := 20) C B mX7_116 (c_mrefuse _ _ _ _ _ hM (-1) 1 (by decide) (by decide)) rfl rfl rfl rfl hM.1 (by decide) ⟨Nat.le_refl _, Nat.le_refl _⟩ (Nat.le_of_ble_eq_true rfl) dX7_counted_20 (fun r S' hP => ?_)
    rw [hP.1, hP.2]
    exact g_iret (pc := 23) C B rfl dX7_counted_23 (⟨rfl, rfl⟩)
  ·
    have hx := hm0
    refine Cn.of (by decide) (Nat.le_of_ble_eq_true rfl) ?_
    intro X Y hl hE hbase haw hfr C B
    subst hl; subst hE; subst hbase; subst haw
    refine g_aload_n (pc := 0) C dX7_counted_0 rfl ?_
    refine g_iload_n (pc := 1) C dX7_counted_1 rfl ?_
    refine g_callV (pc := 2) C B mX7_112 (c_isM_f _ _ _ _ _ mc lc hI p0 hx) rfl rfl rfl rfl hM.1 (by decide) ⟨Nat.le_refl _, Nat.le_refl _⟩ (Nat.le_of_ble_eq_true rfl) dX7_counted_2 (fun r S' hP => ?_)
    rw [hP.1, hP.2]
    refine g_if_eq (pc := 5) C 18 dX7_counted_5 (by decide) (fun _ => ?_) (fun h5 => absurd (by decide) h5)
    refine g_aload_n (pc := 18) C dX7_counted_18 rfl ?_
    refine g_iconst (pc := 19) C (-1) dX7_counted_19 (by decide) ?_
    refine g_callV (pc := 20) C B mX7_116 (c_mrefuse _ _ _ _ _ hM (-1) 1 (by decide) (by decide)) rfl rfl rfl rfl hM.1 (by decide) ⟨Nat.le_refl _, Nat.le_refl _⟩ (Nat.le_of_ble_eq_true rfl) dX7_counted_20 (fun r S' hP => ?_)
    rw [hP.1, hP.2]
    exact g_iret (pc := 23) C B rfl dX7_counted_23 (⟨rfl, rfl⟩)

set_option maxHeartbeats 4000000 in
set_option maxRecDepth 100000 in
theorem c_X7_counted_w (l : Launch) (E : En) (base aw : Nat) (S : Mm) (mc : Nat) (lc : Nat → Nat) (hI : IM S mc lc) (i : Nat) (hi : i < mc) (g : Nat) (hg : g < 16) (p2 p3 : Int32) (hx : ¬ okN 2 p3) : Cn l E base aw yX7_counted cX7_counted 6 (some Jvm.ClassFile.FieldType.int) 2 0 0 noF S [vr (2, 0, 0), vi (nI i), vi (nI g), vi p2, vi p3] (fun r S' => r = some (vi (-2)) ∧ S' = rfM S 2) := by
  have hM := hI.1
  have hmc := hI.2.2.1
  refine Cn.of (by decide) (Nat.le_of_ble_eq_true rfl) ?_
  intro X Y hl hE hbase haw hfr C B
  subst hl; subst hE; subst hbase; subst haw
  refine g_aload_n (pc := 0) C dX7_counted_0 rfl ?_
  refine g_iload_n (pc := 1) C dX7_counted_1 rfl ?_
  refine g_callV (pc := 2) C B mX7_112 (c_isM_t _ _ _ _ _ mc lc hI i hi) rfl rfl rfl rfl hM.1 (by decide) ⟨Nat.le_refl _, Nat.le_refl _⟩ (Nat.le_of_ble_eq_true rfl) dX7_counted_2 (fun r S' hP => ?_)
  rw [hP.1, hP.2]
  refine g_if_eq (pc := 5) C 18 dX7_counted_5 (by decide) (fun h5 => absurd h5 (by decide)) (fun _ => ?_)
  refine g_iload_n (pc := 8) C dX7_counted_8 rfl ?_
  refine g_iconst (pc := 9) C 0 dX7_counted_9 (by decide) ?_
  refine g_bipush (pc := 10) C 15 dX7_counted_10 (by decide) ?_
  refine g_callS (pc := 12) C B mX7_108 (c_in_t _ _ _ _ _ _ _ _ (okW_t (n := 15) (by omega) (by decide))) rfl rfl (by decide) ⟨Nat.le_refl _, Nat.le_refl _⟩ (Nat.le_of_ble_eq_true rfl) dX7_counted_12 (fun r S' hP => ?_)
  rw [hP.1, hP.2]
  refine g_if_ne (pc := 15) C 24 dX7_counted_15 (by decide) (fun _ => ?_) (fun h15 => absurd h15 (by decide))
  refine g_iload (pc := 24) C dX7_counted_24 rfl ?_
  refine g_iconst (pc := 26) C 0 dX7_counted_26 (by decide) ?_
  refine g_iconst (pc := 27) C 1 dX7_counted_27 (by decide) ?_
  refine g_callS (pc := 28) C B mX7_108 (c_in_f _ _ _ _ _ _ _ _ (okW_f (n := 1) (by decide) hx)) rfl rfl (by decide) ⟨Nat.le_refl _, Nat.le_refl _⟩ (Nat.le_of_ble_eq_true rfl) dX7_counted_28 (fun r S' hP => ?_)
  rw [hP.1, hP.2]
  refine g_if_ne (pc := 31) C 41 dX7_counted_31 (by decide) (fun h31 => absurd (by decide) h31) (fun _ => ?_)
  refine g_aload_n (pc := 34) C dX7_counted_34 rfl ?_
  refine g_bipush (pc := 35) C (-2) dX7_counted_35 (by decide) ?_
  refine g_callV (pc := 37) C B mX7_116 (c_mrefuse _ _ _ _ _ hM (-2) 2 (by decide) (by decide)) rfl rfl rfl rfl hM.1 (by decide) ⟨Nat.le_refl _, Nat.le_refl _⟩ (Nat.le_of_ble_eq_true rfl) dX7_counted_37 (fun r S' hP => ?_)
  rw [hP.1, hP.2]
  exact g_iret (pc := 40) C B rfl dX7_counted_40 (⟨rfl, rfl⟩)

set_option maxHeartbeats 4000000 in
set_option maxRecDepth 100000 in
theorem c_X7_counted_lo0 (l : Launch) (E : En) (base aw : Nat) (S : Mm) (mc : Nat) (lc : Nat → Nat) (hI : IM S mc lc) (i : Nat) (hi : i < mc) (g : Nat) (hg : g < 16) (p2 : Int32) (hlo : p2 < 0) : Cn l E base aw yX7_counted cX7_counted 6 (some Jvm.ClassFile.FieldType.int) 2 0 0 noF S [vr (2, 0, 0), vi (nI i), vi (nI g), vi p2, vi (nI 0)] (fun r S' => r = some (vi (-4)) ∧ S' = rfM S 4) := by
  have hM := hI.1
  have hmc := hI.2.2.1
  refine Cn.of (by decide) (Nat.le_of_ble_eq_true rfl) ?_
  intro X Y hl hE hbase haw hfr C B
  subst hl; subst hE; subst hbase; subst haw
  refine g_aload_n (pc := 0) C dX7_counted_0 rfl ?_
  refine g_iload_n (pc := 1) C dX7_counted_1 rfl ?_
  refine g_callV (pc := 2) C B mX7_112 (c_isM_t _ _ _ _ _ mc lc hI i hi) rfl rfl rfl rfl hM.1 (by decide) ⟨Nat.le_refl _, Nat.le_refl _⟩ (Nat.le_of_ble_eq_true rfl) dX7_counted_2 (fun r S' hP => ?_)
  rw [hP.1, hP.2]
  refine g_if_eq (pc := 5) C 18 dX7_counted_5 (by decide) (fun h5 => absurd h5 (by decide)) (fun _ => ?_)
  refine g_iload_n (pc := 8) C dX7_counted_8 rfl ?_
  refine g_iconst (pc := 9) C 0 dX7_counted_9 (by decide) ?_
  refine g_bipush (pc := 10) C 15 dX7_counted_10 (by decide) ?_
  refine g_callS (pc := 12) C B mX7_108 (c_in_t _ _ _ _ _ _ _ _ (okW_t (n := 15) (by omega) (by decide))) rfl rfl (by decide) ⟨Nat.le_refl _, Nat.le_refl _⟩ (Nat.le_of_ble_eq_true rfl) dX7_counted_12 (fun r S' hP => ?_)
  rw [hP.1, hP.2]
  refine g_if_ne (pc := 15) C 24 dX7_counted_15 (by decide) (fun _ => ?_) (fun h15 => absurd h15 (by decide))
  refine g_iload (pc := 24) C dX7_counted_24 rfl ?_
  refine g_iconst (pc := 26) C 0 dX7_counted_26 (by decide) ?_
  refine g_iconst (pc := 27) C 1 dX7_counted_27 (by decide) ?_
  refine g_callS (pc := 28) C B mX7_108 (c_in_t _ _ _ _ _ _ _ _ (okW_t (n := 1) (by omega) (by decide))) rfl rfl (by decide) ⟨Nat.le_refl _, Nat.le_refl _⟩ (Nat.le_of_ble_eq_true rfl) dX7_counted_28 (fun r S' hP => ?_)
  rw [hP.1, hP.2]
  refine g_if_ne (pc := 31) C 41 dX7_counted_31 (by decide) (fun _ => ?_) (fun h31 => absurd h31 (by decide))
  refine g_iload_n (pc := 41) C dX7_counted_41 rfl ?_
  refine g_if_ge (pc := 42) C 52 dX7_counted_42 (by decide) (fun h42 => absurd h42 (Int32.not_le.mpr hlo)) (fun _ => ?_)
  refine g_aload_n (pc := 45) C dX7_counted_45 rfl ?_
  refine g_bipush (pc := 46) C (-4) dX7_counted_46 (by decide) ?_
  refine g_callV (pc := 48) C B mX7_116 (c_mrefuse _ _ _ _ _ hM (-4) 4 (by decide) (by decide)) rfl rfl rfl rfl hM.1 (by decide) ⟨Nat.le_refl _, Nat.le_refl _⟩ (Nat.le_of_ble_eq_true rfl) dX7_counted_48 (fun r S' hP => ?_)
  rw [hP.1, hP.2]
  exact g_iret (pc := 51) C B rfl dX7_counted_51 (⟨rfl, rfl⟩)

set_option maxHeartbeats 4000000 in
set_option maxRecDepth 100000 in
theorem c_X7_counted_hi0 (l : Launch) (E : En) (base aw : Nat) (S : Mm) (mc : Nat) (lc : Nat → Nat) (hI : IM S mc lc) (i : Nat) (hi : i < mc) (g : Nat) (hg : g < 16) (p2 : Int32) (hlo : 0 ≤ p2) (hhi : ¬ p2 ≤ 23) : Cn l E base aw yX7_counted cX7_counted 6 (some Jvm.ClassFile.FieldType.int) 2 0 0 noF S [vr (2, 0, 0), vi (nI i), vi (nI g), vi p2, vi (nI 0)] (fun r S' => r = some (vi (-6)) ∧ S' = rfM S 6) := by
  have hM := hI.1
  have hmc := hI.2.2.1
  refine Cn.of (by decide) (Nat.le_of_ble_eq_true rfl) ?_
  intro X Y hl hE hbase haw hfr C B
  subst hl; subst hE; subst hbase; subst haw
  refine g_aload_n (pc := 0) C dX7_counted_0 rfl ?_
  refine g_iload_n (pc := 1) C dX7_counted_1 rfl ?_
  refine g_callV (pc := 2) C B mX7_112 (c_isM_t _ _ _ _ _ mc lc hI i hi) rfl rfl rfl rfl hM.1 (by decide) ⟨Nat.le_refl _, Nat.le_refl _⟩ (Nat.le_of_ble_eq_true rfl) dX7_counted_2 (fun r S' hP => ?_)
  rw [hP.1, hP.2]
  refine g_if_eq (pc := 5) C 18 dX7_counted_5 (by decide) (fun h5 => absurd h5 (by decide)) (fun _ => ?_)
  refine g_iload_n (pc := 8) C dX7_counted_8 rfl ?_
  refine g_iconst (pc := 9) C 0 dX7_counted_9 (by decide) ?_
  refine g_bipush (pc := 10) C 15 dX7_counted_10 (by decide) ?_
  refine g_callS (pc := 12) C B mX7_108 (c_in_t _ _ _ _ _ _ _ _ (okW_t (n := 15) (by omega) (by decide))) rfl rfl (by decide) ⟨Nat.le_refl _, Nat.le_refl _⟩ (Nat.le_of_ble_eq_true rfl) dX7_counted_12 (fun r S' hP => ?_)
  rw [hP.1, hP.2]
  refine g_if_ne (pc := 15) C 24 dX7_counted_15 (by decide) (fun _ => ?_) (fun h15 => absurd h15 (by decide))
  refine g_iload (pc := 24) C dX7_counted_24 rfl ?_
  refine g_iconst (pc := 26) C 0 dX7_counted_26 (by decide) ?_
  refine g_iconst (pc := 27) C 1 dX7_counted_27 (by decide) ?_
  refine g_callS (pc := 28) C B mX7_108 (c_in_t _ _ _ _ _ _ _ _ (okW_t (n := 1) (by omega) (by decide))) rfl rfl (by decide) ⟨Nat.le_refl _, Nat.le_refl _⟩ (Nat.le_of_ble_eq_true rfl) dX7_counted_28 (fun r S' hP => ?_)
  rw [hP.1, hP.2]
  refine g_if_ne (pc := 31) C 41 dX7_counted_31 (by decide) (fun _ => ?_) (fun h31 => absurd h31 (by decide))
  refine g_iload_n (pc := 41) C dX7_counted_41 rfl ?_
  refine g_if_ge (pc := 42) C 52 dX7_counted_42 (by decide) (fun _ => ?_) (fun h42 => absurd hlo h42)
  refine g_iload_n (pc := 52) C dX7_counted_52 rfl ?_
  refine g_bipush (pc := 53) C 23 dX7_counted_53 (by decide) ?_
  refine g_icmp_le (pc := 55) C 65 dX7_counted_55 (by decide) (fun h55 => absurd h55 hhi) (fun _ => ?_)
  refine g_aload_n (pc := 58) C dX7_counted_58 rfl ?_
  refine g_bipush (pc := 59) C (-6) dX7_counted_59 (by decide) ?_
  refine g_callV (pc := 61) C B mX7_116 (c_mrefuse _ _ _ _ _ hM (-6) 6 (by decide) (by decide)) rfl rfl rfl rfl hM.1 (by decide) ⟨Nat.le_refl _, Nat.le_refl _⟩ (Nat.le_of_ble_eq_true rfl) dX7_counted_61 (fun r S' hP => ?_)
  rw [hP.1, hP.2]
  exact g_iret (pc := 64) C B rfl dX7_counted_64 (⟨rfl, rfl⟩)

set_option maxHeartbeats 4000000 in
set_option maxRecDepth 100000 in
theorem c_X7_counted0 (l : Launch) (E : En) (base aw : Nat) (S : Mm) (mc : Nat) (lc : Nat → Nat) (hI : IM S mc lc) (i : Nat) (hi : i < mc) (g : Nat) (hg : g < 16) (t : Nat) (ht : t < 24) : Cn l E base aw yX7_counted cX7_counted 6 (some Jvm.ClassFile.FieldType.int) 2 0 0 noF S [vr (2, 0, 0), vi (nI i), vi (nI g), vi (nI t), vi (nI 0)] (fun r S' => r = some (vi (S.1 (2, 0, 21) (384 * i + 24 * g + t))) ∧ S' = S) := by
  have hM := hI.1
  have hmc := hI.2.2.1
  refine Cn.of (by decide) (Nat.le_of_ble_eq_true rfl) ?_
  intro X Y hl hE hbase haw hfr C B
  subst hl; subst hE; subst hbase; subst haw
  refine g_aload_n (pc := 0) C dX7_counted_0 rfl ?_
  refine g_iload_n (pc := 1) C dX7_counted_1 rfl ?_
  refine g_callV (pc := 2) C B mX7_112 (c_isM_t _ _ _ _ _ mc lc hI i hi) rfl rfl rfl rfl hM.1 (by decide) ⟨Nat.le_refl _, Nat.le_refl _⟩ (Nat.le_of_ble_eq_true rfl) dX7_counted_2 (fun r S' hP => ?_)
  rw [hP.1, hP.2]
  refine g_if_eq (pc := 5) C 18 dX7_counted_5 (by decide) (fun h5 => absurd h5 (by decide)) (fun _ => ?_)
  refine g_iload_n (pc := 8) C dX7_counted_8 rfl ?_
  refine g_iconst (pc := 9) C 0 dX7_counted_9 (by decide) ?_
  refine g_bipush (pc := 10) C 15 dX7_counted_10 (by decide) ?_
  refine g_callS (pc := 12) C B mX7_108 (c_in_t _ _ _ _ _ _ _ _ (okW_t (n := 15) (by omega) (by decide))) rfl rfl (by decide) ⟨Nat.le_refl _, Nat.le_refl _⟩ (Nat.le_of_ble_eq_true rfl) dX7_counted_12 (fun r S' hP => ?_)
  rw [hP.1, hP.2]
  refine g_if_ne (pc := 15) C 24 dX7_counted_15 (by decide) (fun _ => ?_) (fun h15 => absurd h15 (by decide))
  refine g_iload (pc := 24) C dX7_counted_24 rfl ?_
  refine g_iconst (pc := 26) C 0 dX7_counted_26 (by decide) ?_
  refine g_iconst (pc := 27) C 1 dX7_counted_27 (by decide) ?_
  refine g_callS (pc := 28) C B mX7_108 (c_in_t _ _ _ _ _ _ _ _ (okW_t (n := 1) (by omega) (by decide))) rfl rfl (by decide) ⟨Nat.le_refl _, Nat.le_refl _⟩ (Nat.le_of_ble_eq_true rfl) dX7_counted_28 (fun r S' hP => ?_)
  rw [hP.1, hP.2]
  refine g_if_ne (pc := 31) C 41 dX7_counted_31 (by decide) (fun _ => ?_) (fun h31 => absurd h31 (by decide))
  refine g_iload_n (pc := 41) C dX7_counted_41 rfl ?_
  refine g_if_ge (pc := 42) C 52 dX7_counted_42 (by decide) (fun _ => ?_) (fun h42 => absurd (nI_pos' (by omega)) h42)
  refine g_iload_n (pc := 52) C dX7_counted_52 rfl ?_
  refine g_bipush (pc := 53) C 23 dX7_counted_53 (by decide) ?_
  refine g_icmp_le (pc := 55) C 65 dX7_counted_55 (by decide) (fun _ => ?_) (fun h55 => absurd (nI_le (b := 23) (by omega) (by decide)) h55)
  refine g_sipush (pc := 65) C 384 dX7_counted_65 (by decide) ?_
  refine g_iload_n (pc := 68) C dX7_counted_68 rfl ?_
  refine g_imul (pc := 69) C dX7_counted_69 ?_
  refine g_eqi (nI (384 * i)) (pk_mul 384 i) ?_
  refine g_bipush (pc := 70) C 24 dX7_counted_70 (by decide) ?_
  refine g_iload_n (pc := 72) C dX7_counted_72 rfl ?_
  refine g_imul (pc := 73) C dX7_counted_73 ?_
  refine g_eqi (nI (24 * g)) (pk_mul 24 g) ?_
  refine g_iadd (pc := 74) C dX7_counted_74 ?_
  refine g_eqi (nI ((384 * i) + (24 * g))) (nI_add (384 * i) (24 * g)) ?_
  refine g_iload_n (pc := 75) C dX7_counted_75 rfl ?_
  refine g_iadd (pc := 76) C dX7_counted_76 ?_
  refine g_eqi (nI (((384 * i) + (24 * g)) + t)) (nI_add ((384 * i) + (24 * g)) t) ?_
  refine g_istore (pc := 77) C dX7_counted_77 (by decide) ?_
  refine g_iload (pc := 79) C dX7_counted_79 rfl ?_
  refine g_if_ne (pc := 81) C 94 dX7_counted_81 (by decide) (fun h81 => absurd (by decide) h81) (fun _ => ?_)
  refine g_aload_n (pc := 84) C dX7_counted_84 rfl ?_
  refine g_getr (pc := 85) C fX7_68 rfl hM.1 dX7_counted_85 rfl (hM.2 21 rfl).1 ?_
  refine g_iload (pc := 88) C dX7_counted_88 rfl ?_
  refine g_ialdN (pc := 90) C rfl (hM.2 21 rfl).2 (by omega) (by decide) dX7_counted_90 ?_
  refine g_goto (pc := 91) C 101 dX7_counted_91 (by decide) ?_
  exact g_iret (pc := 101) C B rfl dX7_counted_101 (⟨rfl, rfl⟩)

set_option maxHeartbeats 4000000 in
set_option maxRecDepth 100000 in
theorem c_X7_counted_lo1 (l : Launch) (E : En) (base aw : Nat) (S : Mm) (mc : Nat) (lc : Nat → Nat) (hI : IM S mc lc) (i : Nat) (hi : i < mc) (g : Nat) (hg : g < 16) (p2 : Int32) (hlo : p2 < 0) : Cn l E base aw yX7_counted cX7_counted 6 (some Jvm.ClassFile.FieldType.int) 2 0 0 noF S [vr (2, 0, 0), vi (nI i), vi (nI g), vi p2, vi (nI 1)] (fun r S' => r = some (vi (-4)) ∧ S' = rfM S 4) := by
  have hM := hI.1
  have hmc := hI.2.2.1
  refine Cn.of (by decide) (Nat.le_of_ble_eq_true rfl) ?_
  intro X Y hl hE hbase haw hfr C B
  subst hl; subst hE; subst hbase; subst haw
  refine g_aload_n (pc := 0) C dX7_counted_0 rfl ?_
  refine g_iload_n (pc := 1) C dX7_counted_1 rfl ?_
  refine g_callV (pc := 2) C B mX7_112 (c_isM_t _ _ _ _ _ mc lc hI i hi) rfl rfl rfl rfl hM.1 (by decide) ⟨Nat.le_refl _, Nat.le_refl _⟩ (Nat.le_of_ble_eq_true rfl) dX7_counted_2 (fun r S' hP => ?_)
  rw [hP.1, hP.2]
  refine g_if_eq (pc := 5) C 18 dX7_counted_5 (by decide) (fun h5 => absurd h5 (by decide)) (fun _ => ?_)
  refine g_iload_n (pc := 8) C dX7_counted_8 rfl ?_
  refine g_iconst (pc := 9) C 0 dX7_counted_9 (by decide) ?_
  refine g_bipush (pc := 10) C 15 dX7_counted_10 (by decide) ?_
  refine g_callS (pc := 12) C B mX7_108 (c_in_t _ _ _ _ _ _ _ _ (okW_t (n := 15) (by omega) (by decide))) rfl rfl (by decide) ⟨Nat.le_refl _, Nat.le_refl _⟩ (Nat.le_of_ble_eq_true rfl) dX7_counted_12 (fun r S' hP => ?_)
  rw [hP.1, hP.2]
  refine g_if_ne (pc := 15) C 24 dX7_counted_15 (by decide) (fun _ => ?_) (fun h15 => absurd h15 (by decide))
  refine g_iload (pc := 24) C dX7_counted_24 rfl ?_
  refine g_iconst (pc := 26) C 0 dX7_counted_26 (by decide) ?_
  refine g_iconst (pc := 27) C 1 dX7_counted_27 (by decide) ?_
  refine g_callS (pc := 28) C B mX7_108 (c_in_t _ _ _ _ _ _ _ _ (okW_t (n := 1) (by omega) (by decide))) rfl rfl (by decide) ⟨Nat.le_refl _, Nat.le_refl _⟩ (Nat.le_of_ble_eq_true rfl) dX7_counted_28 (fun r S' hP => ?_)
  rw [hP.1, hP.2]
  refine g_if_ne (pc := 31) C 41 dX7_counted_31 (by decide) (fun _ => ?_) (fun h31 => absurd h31 (by decide))
  refine g_iload_n (pc := 41) C dX7_counted_41 rfl ?_
  refine g_if_ge (pc := 42) C 52 dX7_counted_42 (by decide) (fun h42 => absurd h42 (Int32.not_le.mpr hlo)) (fun _ => ?_)
  refine g_aload_n (pc := 45) C dX7_counted_45 rfl ?_
  refine g_bipush (pc := 46) C (-4) dX7_counted_46 (by decide) ?_
  refine g_callV (pc := 48) C B mX7_116 (c_mrefuse _ _ _ _ _ hM (-4) 4 (by decide) (by decide)) rfl rfl rfl rfl hM.1 (by decide) ⟨Nat.le_refl _, Nat.le_refl _⟩ (Nat.le_of_ble_eq_true rfl) dX7_counted_48 (fun r S' hP => ?_)
  rw [hP.1, hP.2]
  exact g_iret (pc := 51) C B rfl dX7_counted_51 (⟨rfl, rfl⟩)

set_option maxHeartbeats 4000000 in
set_option maxRecDepth 100000 in
theorem c_X7_counted_hi1 (l : Launch) (E : En) (base aw : Nat) (S : Mm) (mc : Nat) (lc : Nat → Nat) (hI : IM S mc lc) (i : Nat) (hi : i < mc) (g : Nat) (hg : g < 16) (p2 : Int32) (hlo : 0 ≤ p2) (hhi : ¬ p2 ≤ 23) : Cn l E base aw yX7_counted cX7_counted 6 (some Jvm.ClassFile.FieldType.int) 2 0 0 noF S [vr (2, 0, 0), vi (nI i), vi (nI g), vi p2, vi (nI 1)] (fun r S' => r = some (vi (-6)) ∧ S' = rfM S 6) := by
  have hM := hI.1
  have hmc := hI.2.2.1
  refine Cn.of (by decide) (Nat.le_of_ble_eq_true rfl) ?_
  intro X Y hl hE hbase haw hfr C B
  subst hl; subst hE; subst hbase; subst haw
  refine g_aload_n (pc := 0) C dX7_counted_0 rfl ?_
  refine g_iload_n (pc := 1) C dX7_counted_1 rfl ?_
  refine g_callV (pc := 2) C B mX7_112 (c_isM_t _ _ _ _ _ mc lc hI i hi) rfl rfl rfl rfl hM.1 (by decide) ⟨Nat.le_refl _, Nat.le_refl _⟩ (Nat.le_of_ble_eq_true rfl) dX7_counted_2 (fun r S' hP => ?_)
  rw [hP.1, hP.2]
  refine g_if_eq (pc := 5) C 18 dX7_counted_5 (by decide) (fun h5 => absurd h5 (by decide)) (fun _ => ?_)
  refine g_iload_n (pc := 8) C dX7_counted_8 rfl ?_
  refine g_iconst (pc := 9) C 0 dX7_counted_9 (by decide) ?_
  refine g_bipush (pc := 10) C 15 dX7_counted_10 (by decide) ?_
  refine g_callS (pc := 12) C B mX7_108 (c_in_t _ _ _ _ _ _ _ _ (okW_t (n := 15) (by omega) (by decide))) rfl rfl (by decide) ⟨Nat.le_refl _, Nat.le_refl _⟩ (Nat.le_of_ble_eq_true rfl) dX7_counted_12 (fun r S' hP => ?_)
  rw [hP.1, hP.2]
  refine g_if_ne (pc := 15) C 24 dX7_counted_15 (by decide) (fun _ => ?_) (fun h15 => absurd h15 (by decide))
  refine g_iload (pc := 24) C dX7_counted_24 rfl ?_
  refine g_iconst (pc := 26) C 0 dX7_counted_26 (by decide) ?_
  refine g_iconst (pc := 27) C 1 dX7_counted_27 (by decide) ?_
  refine g_callS (pc := 28) C B mX7_108 (c_in_t _ _ _ _ _ _ _ _ (okW_t (n := 1) (by omega) (by decide))) rfl rfl (by decide) ⟨Nat.le_refl _, Nat.le_refl _⟩ (Nat.le_of_ble_eq_true rfl) dX7_counted_28 (fun r S' hP => ?_)
  rw [hP.1, hP.2]
  refine g_if_ne (pc := 31) C 41 dX7_counted_31 (by decide) (fun _ => ?_) (fun h31 => absurd h31 (by decide))
  refine g_iload_n (pc := 41) C dX7_counted_41 rfl ?_
  refine g_if_ge (pc := 42) C 52 dX7_counted_42 (by decide) (fun _ => ?_) (fun h42 => absurd hlo h42)
  refine g_iload_n (pc := 52) C dX7_counted_52 rfl ?_
  refine g_bipush (pc := 53) C 23 dX7_counted_53 (by decide) ?_
  refine g_icmp_le (pc := 55) C 65 dX7_counted_55 (by decide) (fun h55 => absurd h55 hhi) (fun _ => ?_)
  refine g_aload_n (pc := 58) C dX7_counted_58 rfl ?_
  refine g_bipush (pc := 59) C (-6) dX7_counted_59 (by decide) ?_
  refine g_callV (pc := 61) C B mX7_116 (c_mrefuse _ _ _ _ _ hM (-6) 6 (by decide) (by decide)) rfl rfl rfl rfl hM.1 (by decide) ⟨Nat.le_refl _, Nat.le_refl _⟩ (Nat.le_of_ble_eq_true rfl) dX7_counted_61 (fun r S' hP => ?_)
  rw [hP.1, hP.2]
  exact g_iret (pc := 64) C B rfl dX7_counted_64 (⟨rfl, rfl⟩)

set_option maxHeartbeats 4000000 in
set_option maxRecDepth 100000 in
theorem c_X7_counted1 (l : Launch) (E : En) (base aw : Nat) (S : Mm) (mc : Nat) (lc : Nat → Nat) (hI : IM S mc lc) (i : Nat) (hi : i < mc) (g : Nat) (hg : g < 16) (t : Nat) (ht : t < 24) : Cn l E base aw yX7_counted cX7_counted 6 (some Jvm.ClassFile.FieldType.int) 2 0 0 noF S [vr (2, 0, 0), vi (nI i), vi (nI g), vi (nI t), vi (nI 1)] (fun r S' => r = some (vi (S.1 (2, 0, 22) (384 * i + 24 * g + t))) ∧ S' = S) := by
  have hM := hI.1
  have hmc := hI.2.2.1
  refine Cn.of (by decide) (Nat.le_of_ble_eq_true rfl) ?_
  intro X Y hl hE hbase haw hfr C B
  subst hl; subst hE; subst hbase; subst haw
  refine g_aload_n (pc := 0) C dX7_counted_0 rfl ?_
  refine g_iload_n (pc := 1) C dX7_counted_1 rfl ?_
  refine g_callV (pc := 2) C B mX7_112 (c_isM_t _ _ _ _ _ mc lc hI i hi) rfl rfl rfl rfl hM.1 (by decide) ⟨Nat.le_refl _, Nat.le_refl _⟩ (Nat.le_of_ble_eq_true rfl) dX7_counted_2 (fun r S' hP => ?_)
  rw [hP.1, hP.2]
  refine g_if_eq (pc := 5) C 18 dX7_counted_5 (by decide) (fun h5 => absurd h5 (by decide)) (fun _ => ?_)
  refine g_iload_n (pc := 8) C dX7_counted_8 rfl ?_
  refine g_iconst (pc := 9) C 0 dX7_counted_9 (by decide) ?_
  refine g_bipush (pc := 10) C 15 dX7_counted_10 (by decide) ?_
  refine g_callS (pc := 12) C B mX7_108 (c_in_t _ _ _ _ _ _ _ _ (okW_t (n := 15) (by omega) (by decide))) rfl rfl (by decide) ⟨Nat.le_refl _, Nat.le_refl _⟩ (Nat.le_of_ble_eq_true rfl) dX7_counted_12 (fun r S' hP => ?_)
  rw [hP.1, hP.2]
  refine g_if_ne (pc := 15) C 24 dX7_counted_15 (by decide) (fun _ => ?_) (fun h15 => absurd h15 (by decide))
  refine g_iload (pc := 24) C dX7_counted_24 rfl ?_
  refine g_iconst (pc := 26) C 0 dX7_counted_26 (by decide) ?_
  refine g_iconst (pc := 27) C 1 dX7_counted_27 (by decide) ?_
  refine g_callS (pc := 28) C B mX7_108 (c_in_t _ _ _ _ _ _ _ _ (okW_t (n := 1) (by omega) (by decide))) rfl rfl (by decide) ⟨Nat.le_refl _, Nat.le_refl _⟩ (Nat.le_of_ble_eq_true rfl) dX7_counted_28 (fun r S' hP => ?_)
  rw [hP.1, hP.2]
  refine g_if_ne (pc := 31) C 41 dX7_counted_31 (by decide) (fun _ => ?_) (fun h31 => absurd h31 (by decide))
  refine g_iload_n (pc := 41) C dX7_counted_41 rfl ?_
  refine g_if_ge (pc := 42) C 52 dX7_counted_42 (by decide) (fun _ => ?_) (fun h42 => absurd (nI_pos' (by omega)) h42)
  refine g_iload_n (pc := 52) C dX7_counted_52 rfl ?_
  refine g_bipush (pc := 53) C 23 dX7_counted_53 (by decide) ?_
  refine g_icmp_le (pc := 55) C 65 dX7_counted_55 (by decide) (fun _ => ?_) (fun h55 => absurd (nI_le (b := 23) (by omega) (by decide)) h55)
  refine g_sipush (pc := 65) C 384 dX7_counted_65 (by decide) ?_
  refine g_iload_n (pc := 68) C dX7_counted_68 rfl ?_
  refine g_imul (pc := 69) C dX7_counted_69 ?_
  refine g_eqi (nI (384 * i)) (pk_mul 384 i) ?_
  refine g_bipush (pc := 70) C 24 dX7_counted_70 (by decide) ?_
  refine g_iload_n (pc := 72) C dX7_counted_72 rfl ?_
  refine g_imul (pc := 73) C dX7_counted_73 ?_
  refine g_eqi (nI (24 * g)) (pk_mul 24 g) ?_
  refine g_iadd (pc := 74) C dX7_counted_74 ?_
  refine g_eqi (nI ((384 * i) + (24 * g))) (nI_add (384 * i) (24 * g)) ?_
  refine g_iload_n (pc := 75) C dX7_counted_75 rfl ?_
  refine g_iadd (pc := 76) C dX7_counted_76 ?_
  refine g_eqi (nI (((384 * i) + (24 * g)) + t)) (nI_add ((384 * i) + (24 * g)) t) ?_
  refine g_istore (pc := 77) C dX7_counted_77 (by decide) ?_
  refine g_iload (pc := 79) C dX7_counted_79 rfl ?_
  refine g_if_ne (pc := 81) C 94 dX7_counted_81 (by decide) (fun _ => ?_) (fun h81 => absurd h81 (by decide))
  refine g_aload_n (pc := 94) C dX7_counted_94 rfl ?_
  refine g_getr (pc := 95) C fX7_71 rfl hM.1 dX7_counted_95 rfl (hM.2 22 rfl).1 ?_
  refine g_iload (pc := 98) C dX7_counted_98 rfl ?_
  refine g_ialdN (pc := 100) C rfl (hM.2 22 rfl).2 (by omega) (by decide) dX7_counted_100 ?_
  exact g_iret (pc := 101) C B rfl dX7_counted_101 (⟨rfl, rfl⟩)

set_option maxHeartbeats 4000000 in
set_option maxRecDepth 100000 in
theorem c_X7_loaded_lo (l : Launch) (E : En) (base aw : Nat) (S : Mm) (hM : ShM S) (p0 : Int32) (hlo : ¬ 0 ≤ p0) : Cn l E base aw yX7_loaded cX7_loaded 2 (some Jvm.ClassFile.FieldType.int) 1 0 0 noF S [vr (2, 0, 0), vi p0] (fun r S' => r = some (vi (-4)) ∧ S' = rfM S 4) := by
  refine Cn.of (by decide) (Nat.le_of_ble_eq_true rfl) ?_
  intro X Y hl hE hbase haw hfr C B
  subst hl; subst hE; subst hbase; subst haw
  refine g_iload_n (pc := 0) C dX7_loaded_0 rfl ?_
  refine g_if_ge (pc := 1) C 13 dX7_loaded_1 (by decide) (fun h1 => absurd h1 hlo) (fun _ => ?_)
  refine g_aload_n (pc := 4) C dX7_loaded_4 rfl ?_
  refine g_bipush (pc := 5) C (-4) dX7_loaded_5 (by decide) ?_
  refine g_callV (pc := 7) C B mX7_116 (c_mrefuse _ _ _ _ _ hM (-4) 4 (by decide) (by decide)) rfl rfl rfl rfl hM.1 (by decide) ⟨Nat.le_refl _, Nat.le_refl _⟩ (Nat.le_of_ble_eq_true rfl) dX7_loaded_7 (fun r S' hP => ?_)
  rw [hP.1, hP.2]
  refine g_goto (pc := 10) C 29 dX7_loaded_10 (by decide) ?_
  exact g_iret (pc := 29) C B rfl dX7_loaded_29 (⟨rfl, rfl⟩)

set_option maxHeartbeats 4000000 in
set_option maxRecDepth 100000 in
theorem c_X7_loaded_hi (l : Launch) (E : En) (base aw : Nat) (S : Mm) (hM : ShM S) (p0 : Int32) (hlo : 0 ≤ p0) (hhi : (8 : Int32) ≤ p0) : Cn l E base aw yX7_loaded cX7_loaded 2 (some Jvm.ClassFile.FieldType.int) 1 0 0 noF S [vr (2, 0, 0), vi p0] (fun r S' => r = some (vi 0) ∧ S' = S) := by
  refine Cn.of (by decide) (Nat.le_of_ble_eq_true rfl) ?_
  intro X Y hl hE hbase haw hfr C B
  subst hl; subst hE; subst hbase; subst haw
  refine g_iload_n (pc := 0) C dX7_loaded_0 rfl ?_
  refine g_if_ge (pc := 1) C 13 dX7_loaded_1 (by decide) (fun _ => ?_) (fun h1 => absurd hlo h1)
  refine g_iload_n (pc := 13) C dX7_loaded_13 rfl ?_
  refine g_bipush (pc := 14) C 8 dX7_loaded_14 (by decide) ?_
  refine g_icmp_ge (pc := 16) C 28 dX7_loaded_16 (by decide) (fun _ => ?_) (fun h16 => absurd hhi h16)
  refine g_iconst (pc := 28) C 0 dX7_loaded_28 (by decide) ?_
  exact g_iret (pc := 29) C B rfl dX7_loaded_29 (⟨rfl, rfl⟩)

set_option maxHeartbeats 4000000 in
set_option maxRecDepth 100000 in
theorem c_X7_loaded (l : Launch) (E : En) (base aw : Nat) (S : Mm) (hM : ShM S) (t : Nat) (ht : t < 8) : Cn l E base aw yX7_loaded cX7_loaded 2 (some Jvm.ClassFile.FieldType.int) 1 0 0 noF S [vr (2, 0, 0), vi (nI t)] (fun r S' => r = some (vi (S.1 (2, 0, 29) t)) ∧ S' = S) := by
  refine Cn.of (by decide) (Nat.le_of_ble_eq_true rfl) ?_
  intro X Y hl hE hbase haw hfr C B
  subst hl; subst hE; subst hbase; subst haw
  refine g_iload_n (pc := 0) C dX7_loaded_0 rfl ?_
  refine g_if_ge (pc := 1) C 13 dX7_loaded_1 (by decide) (fun _ => ?_) (fun h1 => absurd (nI_pos' (by omega)) h1)
  refine g_iload_n (pc := 13) C dX7_loaded_13 rfl ?_
  refine g_bipush (pc := 14) C 8 dX7_loaded_14 (by decide) ?_
  refine g_icmp_ge (pc := 16) C 28 dX7_loaded_16 (by decide) (fun h16 => absurd h16 (nI_ge (b := 8) ht (by decide))) (fun _ => ?_)
  refine g_aload_n (pc := 19) C dX7_loaded_19 rfl ?_
  refine g_getr (pc := 20) C fX7_89 rfl hM.1 dX7_loaded_20 rfl (hM.2 29 rfl).1 ?_
  refine g_iload_n (pc := 23) C dX7_loaded_23 rfl ?_
  refine g_ialdN (pc := 24) C rfl (hM.2 29 rfl).2 (by omega) (by decide) dX7_loaded_24 ?_
  refine g_goto (pc := 25) C 29 dX7_loaded_25 (by decide) ?_
  exact g_iret (pc := 29) C B rfl dX7_loaded_29 (⟨rfl, rfl⟩)

set_option maxHeartbeats 4000000 in
set_option maxRecDepth 100000 in
/-- tubeOf of no machine or worth -/
theorem c_X7_tubeOf_b (l : Launch) (E : En) (base aw : Nat) (S : Mm) (mc : Nat) (lc : Nat → Nat) (hI : IM S mc lc) (p0 p1 : Int32) (h : ¬ (okN mc p0 ∧ okN 6 p1)) : Cn l E base aw yX7_tubeOf cX7_tubeOf 3 (some Jvm.ClassFile.FieldType.int) 2 0 0 noF S [vr (2, 0, 0), vi p0, vi p1] (fun r S' => r = some (vi (-1)) ∧ S' = rfM S 1) := by
  have hM := hI.1
  have hmc := hI.2.2.1
  by_cases hm0 : okN mc p0
  ·
    obtain ⟨i, hi, rfl⟩ := hm0
    have hx : ¬ okN 6 p1 := fun q => h ⟨⟨i, hi, rfl⟩, q⟩
    refine Cn.of (by decide) (Nat.le_of_ble_eq_true rfl) ?_
    intro X Y hl hE hbase haw hfr C B
    subst hl; subst hE; subst hbase; subst haw
    refine g_aload_n (pc := 0) C dX7_tubeOf_0 rfl ?_
    refine g_iload_n (pc := 1) C dX7_tubeOf_1 rfl ?_
    refine g_callV (pc := 2) C B mX7_112 (c_isM_t _ _ _ _ _ mc lc hI i hi) rfl rfl rfl rfl hM.1 (by decide) ⟨Nat.le_refl _, Nat.le_refl _⟩ (Nat.le_of_ble_eq_true rfl) dX7_tubeOf_2 (fun r S' hP => ?_)
    rw [hP.1, hP.2]
    refine g_if_eq (pc := 5) C 31 dX7_tubeOf_5 (by decide) (fun h5 => absurd h5 (by decide)) (fun _ => ?_)
    refine g_iload_n (pc := 8) C dX7_tubeOf_8 rfl ?_
    refine g_iconst (pc := 9) C 0 dX7_tubeOf_9 (by decide) ?_
    refine g_iconst (pc := 10) C 5 dX7_tubeOf_10 (by decide) ?_
    refine g_callS (pc := 11) C B mX7_108 (c_in_f _ _ _ _ _ _ _ _ (okW_f (n := 5) (by decide) hx)) rfl rfl (by decide) ⟨Nat.le_refl _, Nat.le_refl _⟩ (Nat.le_of_ble_eq_true rfl) dX7_tubeOf_11 (fun r S' hP => ?_)
    rw [hP.1, hP.2]
    refine g_if_eq (pc := 14) C 31 dX7_tubeOf_14 (by decide) (fun _ => ?_) (fun h14 => absurd (by decide) h14)
    refine g_aload_n (pc := 31) C dX7_tubeOf_31 rfl ?_
    refine g_iconst (pc := 32) C (-1) dX7_tubeOf_32 (by decide) ?_
    refine g_callV (pc := 33) C B mX7_116 (c_mrefuse _ _ _ _ _ hM (-1) 1 (by decide) (by decide)) rfl rfl rfl rfl hM.1 (by decide) ⟨Nat.le_refl _, Nat.le_refl _⟩ (Nat.le_of_ble_eq_true rfl) dX7_tubeOf_33 (fun r S' hP => ?_)
    rw [hP.1, hP.2]
    exact g_iret (pc := 36) C B rfl dX7_tubeOf_36 (⟨rfl, rfl⟩)
  ·
    have hx := hm0
    refine Cn.of (by decide) (Nat.le_of_ble_eq_true rfl) ?_
    intro X Y hl hE hbase haw hfr C B
    subst hl; subst hE; subst hbase; subst haw
    refine g_aload_n (pc := 0) C dX7_tubeOf_0 rfl ?_
    refine g_iload_n (pc := 1) C dX7_tubeOf_1 rfl ?_
    refine g_callV (pc := 2) C B mX7_112 (c_isM_f _ _ _ _ _ mc lc hI p0 hx) rfl rfl rfl rfl hM.1 (by decide) ⟨Nat.le_refl _, Nat.le_refl _⟩ (Nat.le_of_ble_eq_true rfl) dX7_tubeOf_2 (fun r S' hP => ?_)
    rw [hP.1, hP.2]
    refine g_if_eq (pc := 5) C 31 dX7_tubeOf_5 (by decide) (fun _ => ?_) (fun h5 => absurd (by decide) h5)
    refine g_aload_n (pc := 31) C dX7_tubeOf_31 rfl ?_
    refine g_iconst (pc := 32) C (-1) dX7_tubeOf_32 (by decide) ?_
    refine g_callV (pc := 33) C B mX7_116 (c_mrefuse _ _ _ _ _ hM (-1) 1 (by decide) (by decide)) rfl rfl rfl rfl hM.1 (by decide) ⟨Nat.le_refl _, Nat.le_refl _⟩ (Nat.le_of_ble_eq_true rfl) dX7_tubeOf_33 (fun r S' hP => ?_)
    rw [hP.1, hP.2]
    exact g_iret (pc := 36) C B rfl dX7_tubeOf_36 (⟨rfl, rfl⟩)

set_option maxHeartbeats 4000000 in
set_option maxRecDepth 100000 in
theorem c_X7_tubeOf (l : Launch) (E : En) (base aw : Nat) (S : Mm) (mc : Nat) (lc : Nat → Nat) (hI : IM S mc lc) (i : Nat) (hi : i < mc) (w : Nat) (hw : w < 6) : Cn l E base aw yX7_tubeOf cX7_tubeOf 3 (some Jvm.ClassFile.FieldType.int) 2 0 0 noF S [vr (2, 0, 0), vi (nI i), vi (nI w)] (fun r S' => r = some (vi (S.1 (2, 0, 3) (6 * i + w))) ∧ S' = S) := by
  have hM := hI.1
  have hmc := hI.2.2.1
  refine Cn.of (by decide) (Nat.le_of_ble_eq_true rfl) ?_
  intro X Y hl hE hbase haw hfr C B
  subst hl; subst hE; subst hbase; subst haw
  refine g_aload_n (pc := 0) C dX7_tubeOf_0 rfl ?_
  refine g_iload_n (pc := 1) C dX7_tubeOf_1 rfl ?_
  refine g_callV (pc := 2) C B mX7_112 (c_isM_t _ _ _ _ _ mc lc hI i hi) rfl rfl rfl rfl hM.1 (by decide) ⟨Nat.le_refl _, Nat.le_refl _⟩ (Nat.le_of_ble_eq_true rfl) dX7_tubeOf_2 (fun r S' hP => ?_)
  rw [hP.1, hP.2]
  refine g_if_eq (pc := 5) C 31 dX7_tubeOf_5 (by decide) (fun h5 => absurd h5 (by decide)) (fun _ => ?_)
  refine g_iload_n (pc := 8) C dX7_tubeOf_8 rfl ?_
  refine g_iconst (pc := 9) C 0 dX7_tubeOf_9 (by decide) ?_
  refine g_iconst (pc := 10) C 5 dX7_tubeOf_10 (by decide) ?_
  refine g_callS (pc := 11) C B mX7_108 (c_in_t _ _ _ _ _ _ _ _ (okW_t (n := 5) (by omega) (by decide))) rfl rfl (by decide) ⟨Nat.le_refl _, Nat.le_refl _⟩ (Nat.le_of_ble_eq_true rfl) dX7_tubeOf_11 (fun r S' hP => ?_)
  rw [hP.1, hP.2]
  refine g_if_eq (pc := 14) C 31 dX7_tubeOf_14 (by decide) (fun h14 => absurd h14 (by decide)) (fun _ => ?_)
  refine g_aload_n (pc := 17) C dX7_tubeOf_17 rfl ?_
  refine g_getr (pc := 18) C fX7_13 rfl hM.1 dX7_tubeOf_18 rfl (hM.2 3 rfl).1 ?_
  refine g_bipush (pc := 21) C 6 dX7_tubeOf_21 (by decide) ?_
  refine g_iload_n (pc := 23) C dX7_tubeOf_23 rfl ?_
  refine g_imul (pc := 24) C dX7_tubeOf_24 ?_
  refine g_eqi (nI (6 * i)) (pk_mul 6 i) ?_
  refine g_iload_n (pc := 25) C dX7_tubeOf_25 rfl ?_
  refine g_iadd (pc := 26) C dX7_tubeOf_26 ?_
  refine g_eqi (nI ((6 * i) + w)) (nI_add (6 * i) w) ?_
  refine g_ialdN (pc := 27) C rfl (hM.2 3 rfl).2 (by omega) (by decide) dX7_tubeOf_27 ?_
  refine g_goto (pc := 28) C 36 dX7_tubeOf_28 (by decide) ?_
  exact g_iret (pc := 36) C B rfl dX7_tubeOf_36 (⟨rfl, rfl⟩)

set_option maxHeartbeats 4000000 in
set_option maxRecDepth 100000 in
/-- laneOf of no lane -/
theorem c_X7_laneOf_b (l : Launch) (E : En) (base aw : Nat) (S : Mm) (mc : Nat) (lc : Nat → Nat) (hI : IM S mc lc) (p0 p1 p2 : Int32) (h : ¬ (okL mc lc p0 p1)) : Cn l E base aw yX7_laneOf cX7_laneOf 5 (some Jvm.ClassFile.FieldType.int) 3 0 0 noF S [vr (2, 0, 0), vi p0, vi p1, vi p2] (fun r S' => r = some (vi (-1)) ∧ S' = rfM S 1) := by
  have hM := hI.1
  have hmc := hI.2.2.1
  have hx : ¬ okL mc lc p0 p1 := fun q => h q
  refine Cn.of (by decide) (Nat.le_of_ble_eq_true rfl) ?_
  intro X Y hl hE hbase haw hfr C B
  subst hl; subst hE; subst hbase; subst haw
  refine g_aload_n (pc := 0) C dX7_laneOf_0 rfl ?_
  refine g_iload_n (pc := 1) C dX7_laneOf_1 rfl ?_
  refine g_iload_n (pc := 2) C dX7_laneOf_2 rfl ?_
  refine g_callV (pc := 3) C B mX7_123 (c_isL_f _ _ _ _ _ mc lc hI p0 p1 hx) rfl rfl rfl rfl hM.1 (by decide) ⟨Nat.le_refl _, Nat.le_refl _⟩ (Nat.le_of_ble_eq_true rfl) dX7_laneOf_3 (fun r S' hP => ?_)
  rw [hP.1, hP.2]
  refine g_if_ne (pc := 6) C 15 dX7_laneOf_6 (by decide) (fun h6 => absurd (by decide) h6) (fun _ => ?_)
  refine g_aload_n (pc := 9) C dX7_laneOf_9 rfl ?_
  refine g_iconst (pc := 10) C (-1) dX7_laneOf_10 (by decide) ?_
  refine g_callV (pc := 11) C B mX7_116 (c_mrefuse _ _ _ _ _ hM (-1) 1 (by decide) (by decide)) rfl rfl rfl rfl hM.1 (by decide) ⟨Nat.le_refl _, Nat.le_refl _⟩ (Nat.le_of_ble_eq_true rfl) dX7_laneOf_11 (fun r S' hP => ?_)
  rw [hP.1, hP.2]
  exact g_iret (pc := 14) C B rfl dX7_laneOf_14 (⟨rfl, rfl⟩)

set_option maxHeartbeats 4000000 in
set_option maxRecDepth 100000 in
theorem c_X7_laneOf0 (l : Launch) (E : En) (base aw : Nat) (S : Mm) (mc : Nat) (lc : Nat → Nat) (hI : IM S mc lc) (i : Nat) (hi : i < mc) (j : Nat) (hj : j < lc i) : Cn l E base aw yX7_laneOf cX7_laneOf 5 (some Jvm.ClassFile.FieldType.int) 3 0 0 noF S [vr (2, 0, 0), vi (nI i), vi (nI j), vi (nI 0)] (fun r S' => r = some (vi (S.1 (2, 0, 10) (8 * i + j))) ∧ S' = S) := by
  have hM := hI.1
  have hmc := hI.2.2.1
  have hlc := (hI.2.2.2 i (by omega)).2
  refine Cn.of (by decide) (Nat.le_of_ble_eq_true rfl) ?_
  intro X Y hl hE hbase haw hfr C B
  subst hl; subst hE; subst hbase; subst haw
  refine g_aload_n (pc := 0) C dX7_laneOf_0 rfl ?_
  refine g_iload_n (pc := 1) C dX7_laneOf_1 rfl ?_
  refine g_iload_n (pc := 2) C dX7_laneOf_2 rfl ?_
  refine g_callV (pc := 3) C B mX7_123 (c_isL_t _ _ _ _ _ mc lc hI i hi j hj) rfl rfl rfl rfl hM.1 (by decide) ⟨Nat.le_refl _, Nat.le_refl _⟩ (Nat.le_of_ble_eq_true rfl) dX7_laneOf_3 (fun r S' hP => ?_)
  rw [hP.1, hP.2]
  refine g_if_ne (pc := 6) C 15 dX7_laneOf_6 (by decide) (fun _ => ?_) (fun h6 => absurd h6 (by decide))
  refine g_bipush (pc := 15) C 8 dX7_laneOf_15 (by decide) ?_
  refine g_iload_n (pc := 17) C dX7_laneOf_17 rfl ?_
  refine g_imul (pc := 18) C dX7_laneOf_18 ?_
  refine g_eqi (nI (8 * i)) (pk_mul 8 i) ?_
  refine g_iload_n (pc := 19) C dX7_laneOf_19 rfl ?_
  refine g_iadd (pc := 20) C dX7_laneOf_20 ?_
  refine g_eqi (nI ((8 * i) + j)) (nI_add (8 * i) j) ?_
  refine g_istore (pc := 21) C dX7_laneOf_21 (by decide) ?_
  refine g_iload_n (pc := 23) C dX7_laneOf_23 rfl ?_
  refine g_tabIn (pc := 24) (off := 52) C 76 dX7_laneOf_24 (by decide) (by decide) (by decide) (by decide) ?_
  refine g_aload_n (pc := 76) C dX7_laneOf_76 rfl ?_
  refine g_getr (pc := 77) C fX7_35 rfl hM.1 dX7_laneOf_77 rfl (hM.2 10 rfl).1 ?_
  refine g_iload (pc := 80) C dX7_laneOf_80 rfl ?_
  refine g_ialdN (pc := 82) C rfl (hM.2 10 rfl).2 (by omega) (by decide) dX7_laneOf_82 ?_
  exact g_iret (pc := 83) C B rfl dX7_laneOf_83 (⟨rfl, rfl⟩)

set_option maxHeartbeats 4000000 in
set_option maxRecDepth 100000 in
theorem c_X7_laneOf1 (l : Launch) (E : En) (base aw : Nat) (S : Mm) (mc : Nat) (lc : Nat → Nat) (hI : IM S mc lc) (i : Nat) (hi : i < mc) (j : Nat) (hj : j < lc i) : Cn l E base aw yX7_laneOf cX7_laneOf 5 (some Jvm.ClassFile.FieldType.int) 3 0 0 noF S [vr (2, 0, 0), vi (nI i), vi (nI j), vi (nI 1)] (fun r S' => r = some (vi (S.1 (2, 0, 11) (8 * i + j))) ∧ S' = S) := by
  have hM := hI.1
  have hmc := hI.2.2.1
  have hlc := (hI.2.2.2 i (by omega)).2
  refine Cn.of (by decide) (Nat.le_of_ble_eq_true rfl) ?_
  intro X Y hl hE hbase haw hfr C B
  subst hl; subst hE; subst hbase; subst haw
  refine g_aload_n (pc := 0) C dX7_laneOf_0 rfl ?_
  refine g_iload_n (pc := 1) C dX7_laneOf_1 rfl ?_
  refine g_iload_n (pc := 2) C dX7_laneOf_2 rfl ?_
  refine g_callV (pc := 3) C B mX7_123 (c_isL_t _ _ _ _ _ mc lc hI i hi j hj) rfl rfl rfl rfl hM.1 (by decide) ⟨Nat.le_refl _, Nat.le_refl _⟩ (Nat.le_of_ble_eq_true rfl) dX7_laneOf_3 (fun r S' hP => ?_)
  rw [hP.1, hP.2]
  refine g_if_ne (pc := 6) C 15 dX7_laneOf_6 (by decide) (fun _ => ?_) (fun h6 => absurd h6 (by decide))
  refine g_bipush (pc := 15) C 8 dX7_laneOf_15 (by decide) ?_
  refine g_iload_n (pc := 17) C dX7_laneOf_17 rfl ?_
  refine g_imul (pc := 18) C dX7_laneOf_18 ?_
  refine g_eqi (nI (8 * i)) (pk_mul 8 i) ?_
  refine g_iload_n (pc := 19) C dX7_laneOf_19 rfl ?_
  refine g_iadd (pc := 20) C dX7_laneOf_20 ?_
  refine g_eqi (nI ((8 * i) + j)) (nI_add (8 * i) j) ?_
  refine g_istore (pc := 21) C dX7_laneOf_21 (by decide) ?_
  refine g_iload_n (pc := 23) C dX7_laneOf_23 rfl ?_
  refine g_tabIn (pc := 24) (off := 60) C 84 dX7_laneOf_24 (by decide) (by decide) (by decide) (by decide) ?_
  refine g_aload_n (pc := 84) C dX7_laneOf_84 rfl ?_
  refine g_getr (pc := 85) C fX7_38 rfl hM.1 dX7_laneOf_85 rfl (hM.2 11 rfl).1 ?_
  refine g_iload (pc := 88) C dX7_laneOf_88 rfl ?_
  refine g_ialdN (pc := 90) C rfl (hM.2 11 rfl).2 (by omega) (by decide) dX7_laneOf_90 ?_
  exact g_iret (pc := 91) C B rfl dX7_laneOf_91 (⟨rfl, rfl⟩)

set_option maxHeartbeats 4000000 in
set_option maxRecDepth 100000 in
theorem c_X7_laneOf2 (l : Launch) (E : En) (base aw : Nat) (S : Mm) (mc : Nat) (lc : Nat → Nat) (hI : IM S mc lc) (i : Nat) (hi : i < mc) (j : Nat) (hj : j < lc i) : Cn l E base aw yX7_laneOf cX7_laneOf 5 (some Jvm.ClassFile.FieldType.int) 3 0 0 noF S [vr (2, 0, 0), vi (nI i), vi (nI j), vi (nI 2)] (fun r S' => r = some (vi (S.1 (2, 0, 12) (8 * i + j))) ∧ S' = S) := by
  have hM := hI.1
  have hmc := hI.2.2.1
  have hlc := (hI.2.2.2 i (by omega)).2
  refine Cn.of (by decide) (Nat.le_of_ble_eq_true rfl) ?_
  intro X Y hl hE hbase haw hfr C B
  subst hl; subst hE; subst hbase; subst haw
  refine g_aload_n (pc := 0) C dX7_laneOf_0 rfl ?_
  refine g_iload_n (pc := 1) C dX7_laneOf_1 rfl ?_
  refine g_iload_n (pc := 2) C dX7_laneOf_2 rfl ?_
  refine g_callV (pc := 3) C B mX7_123 (c_isL_t _ _ _ _ _ mc lc hI i hi j hj) rfl rfl rfl rfl hM.1 (by decide) ⟨Nat.le_refl _, Nat.le_refl _⟩ (Nat.le_of_ble_eq_true rfl) dX7_laneOf_3 (fun r S' hP => ?_)
  rw [hP.1, hP.2]
  refine g_if_ne (pc := 6) C 15 dX7_laneOf_6 (by decide) (fun _ => ?_) (fun h6 => absurd h6 (by decide))
  refine g_bipush (pc := 15) C 8 dX7_laneOf_15 (by decide) ?_
  refine g_iload_n (pc := 17) C dX7_laneOf_17 rfl ?_
  refine g_imul (pc := 18) C dX7_laneOf_18 ?_
  refine g_eqi (nI (8 * i)) (pk_mul 8 i) ?_
  refine g_iload_n (pc := 19) C dX7_laneOf_19 rfl ?_
  refine g_iadd (pc := 20) C dX7_laneOf_20 ?_
  refine g_eqi (nI ((8 * i) + j)) (nI_add (8 * i) j) ?_
  refine g_istore (pc := 21) C dX7_laneOf_21 (by decide) ?_
  refine g_iload_n (pc := 23) C dX7_laneOf_23 rfl ?_
  refine g_tabIn (pc := 24) (off := 68) C 92 dX7_laneOf_24 (by decide) (by decide) (by decide) (by decide) ?_
  refine g_aload_n (pc := 92) C dX7_laneOf_92 rfl ?_
  refine g_getr (pc := 93) C fX7_41 rfl hM.1 dX7_laneOf_93 rfl (hM.2 12 rfl).1 ?_
  refine g_iload (pc := 96) C dX7_laneOf_96 rfl ?_
  refine g_ialdN (pc := 98) C rfl (hM.2 12 rfl).2 (by omega) (by decide) dX7_laneOf_98 ?_
  exact g_iret (pc := 99) C B rfl dX7_laneOf_99 (⟨rfl, rfl⟩)

set_option maxHeartbeats 4000000 in
set_option maxRecDepth 100000 in
theorem c_X7_laneOf3 (l : Launch) (E : En) (base aw : Nat) (S : Mm) (mc : Nat) (lc : Nat → Nat) (hI : IM S mc lc) (i : Nat) (hi : i < mc) (j : Nat) (hj : j < lc i) : Cn l E base aw yX7_laneOf cX7_laneOf 5 (some Jvm.ClassFile.FieldType.int) 3 0 0 noF S [vr (2, 0, 0), vi (nI i), vi (nI j), vi (nI 3)] (fun r S' => r = some (vi (S.1 (2, 0, 13) (8 * i + j))) ∧ S' = S) := by
  have hM := hI.1
  have hmc := hI.2.2.1
  have hlc := (hI.2.2.2 i (by omega)).2
  refine Cn.of (by decide) (Nat.le_of_ble_eq_true rfl) ?_
  intro X Y hl hE hbase haw hfr C B
  subst hl; subst hE; subst hbase; subst haw
  refine g_aload_n (pc := 0) C dX7_laneOf_0 rfl ?_
  refine g_iload_n (pc := 1) C dX7_laneOf_1 rfl ?_
  refine g_iload_n (pc := 2) C dX7_laneOf_2 rfl ?_
  refine g_callV (pc := 3) C B mX7_123 (c_isL_t _ _ _ _ _ mc lc hI i hi j hj) rfl rfl rfl rfl hM.1 (by decide) ⟨Nat.le_refl _, Nat.le_refl _⟩ (Nat.le_of_ble_eq_true rfl) dX7_laneOf_3 (fun r S' hP => ?_)
  rw [hP.1, hP.2]
  refine g_if_ne (pc := 6) C 15 dX7_laneOf_6 (by decide) (fun _ => ?_) (fun h6 => absurd h6 (by decide))
  refine g_bipush (pc := 15) C 8 dX7_laneOf_15 (by decide) ?_
  refine g_iload_n (pc := 17) C dX7_laneOf_17 rfl ?_
  refine g_imul (pc := 18) C dX7_laneOf_18 ?_
  refine g_eqi (nI (8 * i)) (pk_mul 8 i) ?_
  refine g_iload_n (pc := 19) C dX7_laneOf_19 rfl ?_
  refine g_iadd (pc := 20) C dX7_laneOf_20 ?_
  refine g_eqi (nI ((8 * i) + j)) (nI_add (8 * i) j) ?_
  refine g_istore (pc := 21) C dX7_laneOf_21 (by decide) ?_
  refine g_iload_n (pc := 23) C dX7_laneOf_23 rfl ?_
  refine g_tabIn (pc := 24) (off := 76) C 100 dX7_laneOf_24 (by decide) (by decide) (by decide) (by decide) ?_
  refine g_aload_n (pc := 100) C dX7_laneOf_100 rfl ?_
  refine g_getr (pc := 101) C fX7_44 rfl hM.1 dX7_laneOf_101 rfl (hM.2 13 rfl).1 ?_
  refine g_iload (pc := 104) C dX7_laneOf_104 rfl ?_
  refine g_ialdN (pc := 106) C rfl (hM.2 13 rfl).2 (by omega) (by decide) dX7_laneOf_106 ?_
  exact g_iret (pc := 107) C B rfl dX7_laneOf_107 (⟨rfl, rfl⟩)

set_option maxHeartbeats 4000000 in
set_option maxRecDepth 100000 in
theorem c_X7_laneOf4 (l : Launch) (E : En) (base aw : Nat) (S : Mm) (mc : Nat) (lc : Nat → Nat) (hI : IM S mc lc) (i : Nat) (hi : i < mc) (j : Nat) (hj : j < lc i) : Cn l E base aw yX7_laneOf cX7_laneOf 5 (some Jvm.ClassFile.FieldType.int) 3 0 0 noF S [vr (2, 0, 0), vi (nI i), vi (nI j), vi (nI 4)] (fun r S' => r = some (vi (S.1 (2, 0, 14) (8 * i + j))) ∧ S' = S) := by
  have hM := hI.1
  have hmc := hI.2.2.1
  have hlc := (hI.2.2.2 i (by omega)).2
  refine Cn.of (by decide) (Nat.le_of_ble_eq_true rfl) ?_
  intro X Y hl hE hbase haw hfr C B
  subst hl; subst hE; subst hbase; subst haw
  refine g_aload_n (pc := 0) C dX7_laneOf_0 rfl ?_
  refine g_iload_n (pc := 1) C dX7_laneOf_1 rfl ?_
  refine g_iload_n (pc := 2) C dX7_laneOf_2 rfl ?_
  refine g_callV (pc := 3) C B mX7_123 (c_isL_t _ _ _ _ _ mc lc hI i hi j hj) rfl rfl rfl rfl hM.1 (by decide) ⟨Nat.le_refl _, Nat.le_refl _⟩ (Nat.le_of_ble_eq_true rfl) dX7_laneOf_3 (fun r S' hP => ?_)
  rw [hP.1, hP.2]
  refine g_if_ne (pc := 6) C 15 dX7_laneOf_6 (by decide) (fun _ => ?_) (fun h6 => absurd h6 (by decide))
  refine g_bipush (pc := 15) C 8 dX7_laneOf_15 (by decide) ?_
  refine g_iload_n (pc := 17) C dX7_laneOf_17 rfl ?_
  refine g_imul (pc := 18) C dX7_laneOf_18 ?_
  refine g_eqi (nI (8 * i)) (pk_mul 8 i) ?_
  refine g_iload_n (pc := 19) C dX7_laneOf_19 rfl ?_
  refine g_iadd (pc := 20) C dX7_laneOf_20 ?_
  refine g_eqi (nI ((8 * i) + j)) (nI_add (8 * i) j) ?_
  refine g_istore (pc := 21) C dX7_laneOf_21 (by decide) ?_
  refine g_iload_n (pc := 23) C dX7_laneOf_23 rfl ?_
  refine g_tabIn (pc := 24) (off := 84) C 108 dX7_laneOf_24 (by decide) (by decide) (by decide) (by decide) ?_
  refine g_aload_n (pc := 108) C dX7_laneOf_108 rfl ?_
  refine g_getr (pc := 109) C fX7_47 rfl hM.1 dX7_laneOf_109 rfl (hM.2 14 rfl).1 ?_
  refine g_iload (pc := 112) C dX7_laneOf_112 rfl ?_
  refine g_ialdN (pc := 114) C rfl (hM.2 14 rfl).2 (by omega) (by decide) dX7_laneOf_114 ?_
  exact g_iret (pc := 115) C B rfl dX7_laneOf_115 (⟨rfl, rfl⟩)

def v_X7_laneOf5 (S : Mm) (i : Nat) (j : Nat) : Int32 := if (S.1 (2, 0, 18) ((8 * i) + j)) = 0 then 0 else 1
set_option maxHeartbeats 4000000 in
set_option maxRecDepth 100000 in
theorem c_X7_laneOf5 (l : Launch) (E : En) (base aw : Nat) (S : Mm) (mc : Nat) (lc : Nat → Nat) (hI : IM S mc lc) (i : Nat) (hi : i < mc) (j : Nat) (hj : j < lc i) : Cn l E base aw yX7_laneOf cX7_laneOf 5 (some Jvm.ClassFile.FieldType.int) 3 0 0 noF S [vr (2, 0, 0), vi (nI i), vi (nI j), vi (nI 5)] (fun r S' => r = some (vi (v_X7_laneOf5 S i j)) ∧ S' = S) := by
  have hM := hI.1
  have hmc := hI.2.2.1
  have hlc := (hI.2.2.2 i (by omega)).2
  refine Cn.of (by decide) (Nat.le_of_ble_eq_true rfl) ?_
  intro X Y hl hE hbase haw hfr C B
  subst hl; subst hE; subst hbase; subst haw
  refine g_aload_n (pc := 0) C dX7_laneOf_0 rfl ?_
  refine g_iload_n (pc := 1) C dX7_laneOf_1 rfl ?_
  refine g_iload_n (pc := 2) C dX7_laneOf_2 rfl ?_
  refine g_callV (pc := 3) C B mX7_123 (c_isL_t _ _ _ _ _ mc lc hI i hi j hj) rfl rfl rfl rfl hM.1 (by decide) ⟨Nat.le_refl _, Nat.le_refl _⟩ (Nat.le_of_ble_eq_true rfl) dX7_laneOf_3 (fun r S' hP => ?_)
  rw [hP.1, hP.2]
  refine g_if_ne (pc := 6) C 15 dX7_laneOf_6 (by decide) (fun _ => ?_) (fun h6 => absurd h6 (by decide))
  refine g_bipush (pc := 15) C 8 dX7_laneOf_15 (by decide) ?_
  refine g_iload_n (pc := 17) C dX7_laneOf_17 rfl ?_
  refine g_imul (pc := 18) C dX7_laneOf_18 ?_
  refine g_eqi (nI (8 * i)) (pk_mul 8 i) ?_
  refine g_iload_n (pc := 19) C dX7_laneOf_19 rfl ?_
  refine g_iadd (pc := 20) C dX7_laneOf_20 ?_
  refine g_eqi (nI ((8 * i) + j)) (nI_add (8 * i) j) ?_
  refine g_istore (pc := 21) C dX7_laneOf_21 (by decide) ?_
  refine g_iload_n (pc := 23) C dX7_laneOf_23 rfl ?_
  refine g_tabIn (pc := 24) (off := 92) C 116 dX7_laneOf_24 (by decide) (by decide) (by decide) (by decide) ?_
  refine g_aload_n (pc := 116) C dX7_laneOf_116 rfl ?_
  refine g_getr (pc := 117) C fX7_59 rfl hM.1 dX7_laneOf_117 rfl (hM.2 18 rfl).1 ?_
  refine g_iload (pc := 120) C dX7_laneOf_120 rfl ?_
  refine g_baldN (pc := 122) C rfl (hM.2 18 rfl).2 (by omega) (by decide) dX7_laneOf_122 ?_
  refine g_if_eq (pc := 123) C 130 dX7_laneOf_123 (by decide) (fun h123 => ?_) (fun h123 => ?_)
  ·
    refine g_iconst (pc := 130) C 0 dX7_laneOf_130 (by decide) ?_
    exact g_iret (pc := 131) C B rfl dX7_laneOf_131 (⟨by show some (vi _) = some (vi (v_X7_laneOf5 S i j)); unfold v_X7_laneOf5; rw [if_pos h123], rfl⟩)
  ·
    refine g_iconst (pc := 126) C 1 dX7_laneOf_126 (by decide) ?_
    refine g_goto (pc := 127) C 131 dX7_laneOf_127 (by decide) ?_
    exact g_iret (pc := 131) C B rfl dX7_laneOf_131 (⟨by show some (vi _) = some (vi (v_X7_laneOf5 S i j)); unfold v_X7_laneOf5; rw [if_neg h123], rfl⟩)

set_option maxHeartbeats 4000000 in
set_option maxRecDepth 100000 in
theorem c_X7_laneOf6 (l : Launch) (E : En) (base aw : Nat) (S : Mm) (mc : Nat) (lc : Nat → Nat) (hI : IM S mc lc) (i : Nat) (hi : i < mc) (j : Nat) (hj : j < lc i) : Cn l E base aw yX7_laneOf cX7_laneOf 5 (some Jvm.ClassFile.FieldType.int) 3 0 0 noF S [vr (2, 0, 0), vi (nI i), vi (nI j), vi (nI 6)] (fun r S' => r = some (vi (S.1 (2, 0, 17) (8 * i + j))) ∧ S' = S) := by
  have hM := hI.1
  have hmc := hI.2.2.1
  have hlc := (hI.2.2.2 i (by omega)).2
  refine Cn.of (by decide) (Nat.le_of_ble_eq_true rfl) ?_
  intro X Y hl hE hbase haw hfr C B
  subst hl; subst hE; subst hbase; subst haw
  refine g_aload_n (pc := 0) C dX7_laneOf_0 rfl ?_
  refine g_iload_n (pc := 1) C dX7_laneOf_1 rfl ?_
  refine g_iload_n (pc := 2) C dX7_laneOf_2 rfl ?_
  refine g_callV (pc := 3) C B mX7_123 (c_isL_t _ _ _ _ _ mc lc hI i hi j hj) rfl rfl rfl rfl hM.1 (by decide) ⟨Nat.le_refl _, Nat.le_refl _⟩ (Nat.le_of_ble_eq_true rfl) dX7_laneOf_3 (fun r S' hP => ?_)
  rw [hP.1, hP.2]
  refine g_if_ne (pc := 6) C 15 dX7_laneOf_6 (by decide) (fun _ => ?_) (fun h6 => absurd h6 (by decide))
  refine g_bipush (pc := 15) C 8 dX7_laneOf_15 (by decide) ?_
  refine g_iload_n (pc := 17) C dX7_laneOf_17 rfl ?_
  refine g_imul (pc := 18) C dX7_laneOf_18 ?_
  refine g_eqi (nI (8 * i)) (pk_mul 8 i) ?_
  refine g_iload_n (pc := 19) C dX7_laneOf_19 rfl ?_
  refine g_iadd (pc := 20) C dX7_laneOf_20 ?_
  refine g_eqi (nI ((8 * i) + j)) (nI_add (8 * i) j) ?_
  refine g_istore (pc := 21) C dX7_laneOf_21 (by decide) ?_
  refine g_iload_n (pc := 23) C dX7_laneOf_23 rfl ?_
  refine g_tabIn (pc := 24) (off := 108) C 132 dX7_laneOf_24 (by decide) (by decide) (by decide) (by decide) ?_
  refine g_aload_n (pc := 132) C dX7_laneOf_132 rfl ?_
  refine g_getr (pc := 133) C fX7_56 rfl hM.1 dX7_laneOf_133 rfl (hM.2 17 rfl).1 ?_
  refine g_iload (pc := 136) C dX7_laneOf_136 rfl ?_
  refine g_ialdN (pc := 138) C rfl (hM.2 17 rfl).2 (by omega) (by decide) dX7_laneOf_138 ?_
  exact g_iret (pc := 139) C B rfl dX7_laneOf_139 (⟨rfl, rfl⟩)

def v_X7_laneOf7 (S : Mm) (i : Nat) (j : Nat) : Int32 := if (S.1 (2, 0, 19) ((8 * i) + j)) = 0 then 0 else 1
set_option maxHeartbeats 4000000 in
set_option maxRecDepth 100000 in
theorem c_X7_laneOf7 (l : Launch) (E : En) (base aw : Nat) (S : Mm) (mc : Nat) (lc : Nat → Nat) (hI : IM S mc lc) (i : Nat) (hi : i < mc) (j : Nat) (hj : j < lc i) : Cn l E base aw yX7_laneOf cX7_laneOf 5 (some Jvm.ClassFile.FieldType.int) 3 0 0 noF S [vr (2, 0, 0), vi (nI i), vi (nI j), vi (nI 7)] (fun r S' => r = some (vi (v_X7_laneOf7 S i j)) ∧ S' = S) := by
  have hM := hI.1
  have hmc := hI.2.2.1
  have hlc := (hI.2.2.2 i (by omega)).2
  refine Cn.of (by decide) (Nat.le_of_ble_eq_true rfl) ?_
  intro X Y hl hE hbase haw hfr C B
  subst hl; subst hE; subst hbase; subst haw
  refine g_aload_n (pc := 0) C dX7_laneOf_0 rfl ?_
  refine g_iload_n (pc := 1) C dX7_laneOf_1 rfl ?_
  refine g_iload_n (pc := 2) C dX7_laneOf_2 rfl ?_
  refine g_callV (pc := 3) C B mX7_123 (c_isL_t _ _ _ _ _ mc lc hI i hi j hj) rfl rfl rfl rfl hM.1 (by decide) ⟨Nat.le_refl _, Nat.le_refl _⟩ (Nat.le_of_ble_eq_true rfl) dX7_laneOf_3 (fun r S' hP => ?_)
  rw [hP.1, hP.2]
  refine g_if_ne (pc := 6) C 15 dX7_laneOf_6 (by decide) (fun _ => ?_) (fun h6 => absurd h6 (by decide))
  refine g_bipush (pc := 15) C 8 dX7_laneOf_15 (by decide) ?_
  refine g_iload_n (pc := 17) C dX7_laneOf_17 rfl ?_
  refine g_imul (pc := 18) C dX7_laneOf_18 ?_
  refine g_eqi (nI (8 * i)) (pk_mul 8 i) ?_
  refine g_iload_n (pc := 19) C dX7_laneOf_19 rfl ?_
  refine g_iadd (pc := 20) C dX7_laneOf_20 ?_
  refine g_eqi (nI ((8 * i) + j)) (nI_add (8 * i) j) ?_
  refine g_istore (pc := 21) C dX7_laneOf_21 (by decide) ?_
  refine g_iload_n (pc := 23) C dX7_laneOf_23 rfl ?_
  refine g_tabIn (pc := 24) (off := 116) C 140 dX7_laneOf_24 (by decide) (by decide) (by decide) (by decide) ?_
  refine g_aload_n (pc := 140) C dX7_laneOf_140 rfl ?_
  refine g_getr (pc := 141) C fX7_62 rfl hM.1 dX7_laneOf_141 rfl (hM.2 19 rfl).1 ?_
  refine g_iload (pc := 144) C dX7_laneOf_144 rfl ?_
  refine g_baldN (pc := 146) C rfl (hM.2 19 rfl).2 (by omega) (by decide) dX7_laneOf_146 ?_
  refine g_if_eq (pc := 147) C 154 dX7_laneOf_147 (by decide) (fun h147 => ?_) (fun h147 => ?_)
  ·
    refine g_iconst (pc := 154) C 0 dX7_laneOf_154 (by decide) ?_
    exact g_iret (pc := 155) C B rfl dX7_laneOf_155 (⟨by show some (vi _) = some (vi (v_X7_laneOf7 S i j)); unfold v_X7_laneOf7; rw [if_pos h147], rfl⟩)
  ·
    refine g_iconst (pc := 150) C 1 dX7_laneOf_150 (by decide) ?_
    refine g_goto (pc := 151) C 155 dX7_laneOf_151 (by decide) ?_
    exact g_iret (pc := 155) C B rfl dX7_laneOf_155 (⟨by show some (vi _) = some (vi (v_X7_laneOf7 S i j)); unfold v_X7_laneOf7; rw [if_neg h147], rfl⟩)

def v_X7_laneOf8 (S : Mm) (i : Nat) (j : Nat) : Int32 := if (v_X7_sells S i j) = 0 then 0 else 1
set_option maxHeartbeats 4000000 in
set_option maxRecDepth 100000 in
theorem c_X7_laneOf8 (l : Launch) (E : En) (base aw : Nat) (S : Mm) (mc : Nat) (lc : Nat → Nat) (hI : IM S mc lc) (i : Nat) (hi : i < mc) (j : Nat) (hj : j < lc i) : Cn l E base aw yX7_laneOf cX7_laneOf 5 (some Jvm.ClassFile.FieldType.int) 3 0 0 noF S [vr (2, 0, 0), vi (nI i), vi (nI j), vi (nI 8)] (fun r S' => r = some (vi (v_X7_laneOf8 S i j)) ∧ S' = S) := by
  have hM := hI.1
  have hmc := hI.2.2.1
  have hlc := (hI.2.2.2 i (by omega)).2
  refine Cn.of (by decide) (Nat.le_of_ble_eq_true rfl) ?_
  intro X Y hl hE hbase haw hfr C B
  subst hl; subst hE; subst hbase; subst haw
  refine g_aload_n (pc := 0) C dX7_laneOf_0 rfl ?_
  refine g_iload_n (pc := 1) C dX7_laneOf_1 rfl ?_
  refine g_iload_n (pc := 2) C dX7_laneOf_2 rfl ?_
  refine g_callV (pc := 3) C B mX7_123 (c_isL_t _ _ _ _ _ mc lc hI i hi j hj) rfl rfl rfl rfl hM.1 (by decide) ⟨Nat.le_refl _, Nat.le_refl _⟩ (Nat.le_of_ble_eq_true rfl) dX7_laneOf_3 (fun r S' hP => ?_)
  rw [hP.1, hP.2]
  refine g_if_ne (pc := 6) C 15 dX7_laneOf_6 (by decide) (fun _ => ?_) (fun h6 => absurd h6 (by decide))
  refine g_bipush (pc := 15) C 8 dX7_laneOf_15 (by decide) ?_
  refine g_iload_n (pc := 17) C dX7_laneOf_17 rfl ?_
  refine g_imul (pc := 18) C dX7_laneOf_18 ?_
  refine g_eqi (nI (8 * i)) (pk_mul 8 i) ?_
  refine g_iload_n (pc := 19) C dX7_laneOf_19 rfl ?_
  refine g_iadd (pc := 20) C dX7_laneOf_20 ?_
  refine g_eqi (nI ((8 * i) + j)) (nI_add (8 * i) j) ?_
  refine g_istore (pc := 21) C dX7_laneOf_21 (by decide) ?_
  refine g_iload_n (pc := 23) C dX7_laneOf_23 rfl ?_
  refine g_tabIn (pc := 24) (off := 132) C 156 dX7_laneOf_24 (by decide) (by decide) (by decide) (by decide) ?_
  refine g_aload_n (pc := 156) C dX7_laneOf_156 rfl ?_
  refine g_iload_n (pc := 157) C dX7_laneOf_157 rfl ?_
  refine g_iload_n (pc := 158) C dX7_laneOf_158 rfl ?_
  refine g_callV (pc := 159) C B mX7_147 (c_X7_sells _ _ _ _ _ mc lc hI i hi j hj) rfl rfl rfl rfl hM.1 (by decide) ⟨Nat.le_refl _, Nat.le_refl _⟩ (Nat.le_of_ble_eq_true rfl) dX7_laneOf_159 (fun r S' hP => ?_)
  rw [hP.1, hP.2]
  refine g_if_eq (pc := 162) C 169 dX7_laneOf_162 (by decide) (fun h162 => ?_) (fun h162 => ?_)
  ·
    refine g_iconst (pc := 169) C 0 dX7_laneOf_169 (by decide) ?_
    exact g_iret (pc := 170) C B rfl dX7_laneOf_170 (⟨by show some (vi _) = some (vi (v_X7_laneOf8 S i j)); unfold v_X7_laneOf8; rw [if_pos h162], rfl⟩)
  ·
    refine g_iconst (pc := 165) C 1 dX7_laneOf_165 (by decide) ?_
    refine g_goto (pc := 166) C 170 dX7_laneOf_166 (by decide) ?_
    exact g_iret (pc := 170) C B rfl dX7_laneOf_170 (⟨by show some (vi _) = some (vi (v_X7_laneOf8 S i j)); unfold v_X7_laneOf8; rw [if_neg h162], rfl⟩)

set_option maxHeartbeats 4000000 in
set_option maxRecDepth 100000 in
theorem c_X7_laneOf_w (l : Launch) (E : En) (base aw : Nat) (S : Mm) (mc : Nat) (lc : Nat → Nat) (hI : IM S mc lc) (i : Nat) (hi : i < mc) (j : Nat) (hj : j < lc i) (p2 : Int32) (hx : ¬ okN 9 p2) : Cn l E base aw yX7_laneOf cX7_laneOf 5 (some Jvm.ClassFile.FieldType.int) 3 0 0 noF S [vr (2, 0, 0), vi (nI i), vi (nI j), vi p2] (fun r S' => r = some (vi (-2)) ∧ S' = rfM S 2) := by
  have hM := hI.1
  have hmc := hI.2.2.1
  have hlc := (hI.2.2.2 i (by omega)).2
  refine Cn.of (by decide) (Nat.le_of_ble_eq_true rfl) ?_
  intro X Y hl hE hbase haw hfr C B
  subst hl; subst hE; subst hbase; subst haw
  refine g_aload_n (pc := 0) C dX7_laneOf_0 rfl ?_
  refine g_iload_n (pc := 1) C dX7_laneOf_1 rfl ?_
  refine g_iload_n (pc := 2) C dX7_laneOf_2 rfl ?_
  refine g_callV (pc := 3) C B mX7_123 (c_isL_t _ _ _ _ _ mc lc hI i hi j hj) rfl rfl rfl rfl hM.1 (by decide) ⟨Nat.le_refl _, Nat.le_refl _⟩ (Nat.le_of_ble_eq_true rfl) dX7_laneOf_3 (fun r S' hP => ?_)
  rw [hP.1, hP.2]
  refine g_if_ne (pc := 6) C 15 dX7_laneOf_6 (by decide) (fun _ => ?_) (fun h6 => absurd h6 (by decide))
  refine g_bipush (pc := 15) C 8 dX7_laneOf_15 (by decide) ?_
  refine g_iload_n (pc := 17) C dX7_laneOf_17 rfl ?_
  refine g_imul (pc := 18) C dX7_laneOf_18 ?_
  refine g_eqi (nI (8 * i)) (pk_mul 8 i) ?_
  refine g_iload_n (pc := 19) C dX7_laneOf_19 rfl ?_
  refine g_iadd (pc := 20) C dX7_laneOf_20 ?_
  refine g_eqi (nI ((8 * i) + j)) (nI_add (8 * i) j) ?_
  refine g_istore (pc := 21) C dX7_laneOf_21 (by decide) ?_
  refine g_iload_n (pc := 23) C dX7_laneOf_23 rfl ?_
  refine g_tabOut (pc := 24) C 171 dX7_laneOf_24 (tab_out (n := 8) (by decide) hx) (by decide) ?_
  refine g_aload_n (pc := 171) C dX7_laneOf_171 rfl ?_
  refine g_bipush (pc := 172) C (-2) dX7_laneOf_172 (by decide) ?_
  refine g_callV (pc := 174) C B mX7_116 (c_mrefuse _ _ _ _ _ hM (-2) 2 (by decide) (by decide)) rfl rfl rfl rfl hM.1 (by decide) ⟨Nat.le_refl _, Nat.le_refl _⟩ (Nat.le_of_ble_eq_true rfl) dX7_laneOf_174 (fun r S' hP => ?_)
  rw [hP.1, hP.2]
  exact g_iret (pc := 177) C B rfl dX7_laneOf_177 (⟨rfl, rfl⟩)

set_option maxHeartbeats 4000000 in
set_option maxRecDepth 100000 in
/-- lane of no machine or good -/
theorem c_X7_lane_b (l : Launch) (E : En) (base aw : Nat) (S : Mm) (mc : Nat) (lc : Nat → Nat) (hI : IM S mc lc) (p0 p1 p2 p3 p4 p5 : Int32) (h : ¬ (okN mc p0 ∧ okN 16 p1)) : Cn l E base aw yX7_lane cX7_lane 8 (some Jvm.ClassFile.FieldType.int) 2 0 0 noF S [vr (2, 0, 0), vi p0, vi p1, vi p2, vi p3, vi p4, vi p5] (fun r S' => r = some (vi (-1)) ∧ S' = rfM S 1) := by
  have hM := hI.1
  have hmc := hI.2.2.1
  by_cases hm0 : okN mc p0
  ·
    obtain ⟨i, hi, rfl⟩ := hm0
    have hx : ¬ okN 16 p1 := fun q => h ⟨⟨i, hi, rfl⟩, q⟩
    refine Cn.of (by decide) (Nat.le_of_ble_eq_true rfl) ?_
    intro X Y hl hE hbase haw hfr C B
    subst hl; subst hE; subst hbase; subst haw
    refine g_aload_n (pc := 0) C dX7_lane_0 rfl ?_
    refine g_iload_n (pc := 1) C dX7_lane_1 rfl ?_
    refine g_callV (pc := 2) C B mX7_112 (c_isM_t _ _ _ _ _ mc lc hI i hi) rfl rfl rfl rfl hM.1 (by decide) ⟨Nat.le_refl _, Nat.le_refl _⟩ (Nat.le_of_ble_eq_true rfl) dX7_lane_2 (fun r S' hP => ?_)
    rw [hP.1, hP.2]
    refine g_if_eq (pc := 5) C 18 dX7_lane_5 (by decide) (fun h5 => absurd h5 (by decide)) (fun _ => ?_)
    refine g_iload_n (pc := 8) C dX7_lane_8 rfl ?_
    refine g_iconst (pc := 9) C 0 dX7_lane_9 (by decide) ?_
    refine g_bipush (pc := 10) C 15 dX7_lane_10 (by decide) ?_
    refine g_callS (pc := 12) C B mX7_108 (c_in_f _ _ _ _ _ _ _ _ (okW_f (n := 15) (by decide) hx)) rfl rfl (by decide) ⟨Nat.le_refl _, Nat.le_refl _⟩ (Nat.le_of_ble_eq_true rfl) dX7_lane_12 (fun r S' hP => ?_)
    rw [hP.1, hP.2]
    refine g_if_ne (pc := 15) C 24 dX7_lane_15 (by decide) (fun h15 => absurd (by decide) h15) (fun _ => ?_)
    refine g_aload_n (pc := 18) C dX7_lane_18 rfl ?_
    refine g_iconst (pc := 19) C (-1) dX7_lane_19 (by decide) ?_
    refine g_callV (pc := 20) C B mX7_116 (c_mrefuse _ _ _ _ _ hM (-1) 1 (by decide) (by decide)) rfl rfl rfl rfl hM.1 (by decide) ⟨Nat.le_refl _, Nat.le_refl _⟩ (Nat.le_of_ble_eq_true rfl) dX7_lane_20 (fun r S' hP => ?_)
    rw [hP.1, hP.2]
    exact g_iret (pc := 23) C B rfl dX7_lane_23 (⟨rfl, rfl⟩)
  ·
    have hx := hm0
    refine Cn.of (by decide) (Nat.le_of_ble_eq_true rfl) ?_
    intro X Y hl hE hbase haw hfr C B
    subst hl; subst hE; subst hbase; subst haw
    refine g_aload_n (pc := 0) C dX7_lane_0 rfl ?_
    refine g_iload_n (pc := 1) C dX7_lane_1 rfl ?_
    refine g_callV (pc := 2) C B mX7_112 (c_isM_f _ _ _ _ _ mc lc hI p0 hx) rfl rfl rfl rfl hM.1 (by decide) ⟨Nat.le_refl _, Nat.le_refl _⟩ (Nat.le_of_ble_eq_true rfl) dX7_lane_2 (fun r S' hP => ?_)
    rw [hP.1, hP.2]
    refine g_if_eq (pc := 5) C 18 dX7_lane_5 (by decide) (fun _ => ?_) (fun h5 => absurd (by decide) h5)
    refine g_aload_n (pc := 18) C dX7_lane_18 rfl ?_
    refine g_iconst (pc := 19) C (-1) dX7_lane_19 (by decide) ?_
    refine g_callV (pc := 20) C B mX7_116 (c_mrefuse _ _ _ _ _ hM (-1) 1 (by decide) (by decide)) rfl rfl rfl rfl hM.1 (by decide) ⟨Nat.le_refl _, Nat.le_refl _⟩ (Nat.le_of_ble_eq_true rfl) dX7_lane_20 (fun r S' hP => ?_)
    rw [hP.1, hP.2]
    exact g_iret (pc := 23) C B rfl dX7_lane_23 (⟨rfl, rfl⟩)

set_option maxHeartbeats 4000000 in
set_option maxRecDepth 100000 in
theorem c_X7_lane_k (l : Launch) (E : En) (base aw : Nat) (S : Mm) (mc : Nat) (lc : Nat → Nat) (hI : IM S mc lc) (i : Nat) (hi : i < mc) (g : Nat) (hg : g < 16) (p2 p3 p4 p5 : Int32) (hx : ¬ okN 4 p4) : Cn l E base aw yX7_lane cX7_lane 8 (some Jvm.ClassFile.FieldType.int) 2 0 0 noF S [vr (2, 0, 0), vi (nI i), vi (nI g), vi p2, vi p3, vi p4, vi p5] (fun r S' => r = some (vi (-2)) ∧ S' = rfM S 2) := by
  have hM := hI.1
  have hmc := hI.2.2.1
  refine Cn.of (by decide) (Nat.le_of_ble_eq_true rfl) ?_
  intro X Y hl hE hbase haw hfr C B
  subst hl; subst hE; subst hbase; subst haw
  refine g_aload_n (pc := 0) C dX7_lane_0 rfl ?_
  refine g_iload_n (pc := 1) C dX7_lane_1 rfl ?_
  refine g_callV (pc := 2) C B mX7_112 (c_isM_t _ _ _ _ _ mc lc hI i hi) rfl rfl rfl rfl hM.1 (by decide) ⟨Nat.le_refl _, Nat.le_refl _⟩ (Nat.le_of_ble_eq_true rfl) dX7_lane_2 (fun r S' hP => ?_)
  rw [hP.1, hP.2]
  refine g_if_eq (pc := 5) C 18 dX7_lane_5 (by decide) (fun h5 => absurd h5 (by decide)) (fun _ => ?_)
  refine g_iload_n (pc := 8) C dX7_lane_8 rfl ?_
  refine g_iconst (pc := 9) C 0 dX7_lane_9 (by decide) ?_
  refine g_bipush (pc := 10) C 15 dX7_lane_10 (by decide) ?_
  refine g_callS (pc := 12) C B mX7_108 (c_in_t _ _ _ _ _ _ _ _ (okW_t (n := 15) (by omega) (by decide))) rfl rfl (by decide) ⟨Nat.le_refl _, Nat.le_refl _⟩ (Nat.le_of_ble_eq_true rfl) dX7_lane_12 (fun r S' hP => ?_)
  rw [hP.1, hP.2]
  refine g_if_ne (pc := 15) C 24 dX7_lane_15 (by decide) (fun _ => ?_) (fun h15 => absurd h15 (by decide))
  refine g_iload (pc := 24) C dX7_lane_24 rfl ?_
  refine g_iconst (pc := 26) C 0 dX7_lane_26 (by decide) ?_
  refine g_iconst (pc := 27) C 3 dX7_lane_27 (by decide) ?_
  refine g_callS (pc := 28) C B mX7_108 (c_in_f _ _ _ _ _ _ _ _ (okW_f (n := 3) (by decide) hx)) rfl rfl (by decide) ⟨Nat.le_refl _, Nat.le_refl _⟩ (Nat.le_of_ble_eq_true rfl) dX7_lane_28 (fun r S' hP => ?_)
  rw [hP.1, hP.2]
  refine g_if_ne (pc := 31) C 41 dX7_lane_31 (by decide) (fun h31 => absurd (by decide) h31) (fun _ => ?_)
  refine g_aload_n (pc := 34) C dX7_lane_34 rfl ?_
  refine g_bipush (pc := 35) C (-2) dX7_lane_35 (by decide) ?_
  refine g_callV (pc := 37) C B mX7_116 (c_mrefuse _ _ _ _ _ hM (-2) 2 (by decide) (by decide)) rfl rfl rfl rfl hM.1 (by decide) ⟨Nat.le_refl _, Nat.le_refl _⟩ (Nat.le_of_ble_eq_true rfl) dX7_lane_37 (fun r S' hP => ?_)
  rw [hP.1, hP.2]
  exact g_iret (pc := 40) C B rfl dX7_lane_40 (⟨rfl, rfl⟩)

def t_X7_lane (S : Mm) (lc : Nat → Nat) (i : Nat) (g : Nat) (p2 : Int32) (p3 : Int32) (p5 : Int32) (k : Nat) : Option AV × Mm := if (blw p2) = 0 then (if p3 < 1 then (some (vi ((-4))), rfM S 4) else (if (nI k) = 2 then (if 0 ≤ p5 then (if 5000 < p2 then (some (vi ((-6))), rfM S 6) else (if 20 < p3 then (some (vi ((-6))), rfM S 6) else (if (nI k) = 2 then (if 48 < p5 then (some (vi ((-6))), rfM S 6) else (if (nI (lc i)) = 8 then (some (vi ((-6))), rfM S 6) else (some (vi (((wI (wI (wI (wI (wI (wI S (2, 0, 2) i (nI ((lc i) + 1))) (2, 0, 10) ((8 * i) + (lc i)) (nI g)) (2, 0, 11) ((8 * i) + (lc i)) p2) (2, 0, 12) ((8 * i) + (lc i)) p3) (2, 0, 14) ((8 * i) + (lc i)) (nI k)) (2, 0, 15) ((8 * i) + (lc i)) p5).1 (2, 0, 2) i) - 1)), wI (wI (wI (wI (wI (wI S (2, 0, 2) i (nI ((lc i) + 1))) (2, 0, 10) ((8 * i) + (lc i)) (nI g)) (2, 0, 11) ((8 * i) + (lc i)) p2) (2, 0, 12) ((8 * i) + (lc i)) p3) (2, 0, 14) ((8 * i) + (lc i)) (nI k)) (2, 0, 15) ((8 * i) + (lc i)) p5))) else (if (nI (lc i)) = 8 then (some (vi ((-6))), rfM S 6) else (some (vi (((wI (wI (wI (wI (wI (wI S (2, 0, 2) i (nI ((lc i) + 1))) (2, 0, 10) ((8 * i) + (lc i)) (nI g)) (2, 0, 11) ((8 * i) + (lc i)) p2) (2, 0, 12) ((8 * i) + (lc i)) p3) (2, 0, 14) ((8 * i) + (lc i)) (nI k)) (2, 0, 15) ((8 * i) + (lc i)) p5).1 (2, 0, 2) i) - 1)), wI (wI (wI (wI (wI (wI S (2, 0, 2) i (nI ((lc i) + 1))) (2, 0, 10) ((8 * i) + (lc i)) (nI g)) (2, 0, 11) ((8 * i) + (lc i)) p2) (2, 0, 12) ((8 * i) + (lc i)) p3) (2, 0, 14) ((8 * i) + (lc i)) (nI k)) (2, 0, 15) ((8 * i) + (lc i)) p5))))) else (some (vi ((-4))), rfM S 4)) else (if 5000 < p2 then (some (vi ((-6))), rfM S 6) else (if 20 < p3 then (some (vi ((-6))), rfM S 6) else (if (nI k) = 2 then (if 48 < p5 then (some (vi ((-6))), rfM S 6) else (if (nI (lc i)) = 8 then (some (vi ((-6))), rfM S 6) else (some (vi (((wI (wI (wI (wI (wI (wI S (2, 0, 2) i (nI ((lc i) + 1))) (2, 0, 10) ((8 * i) + (lc i)) (nI g)) (2, 0, 11) ((8 * i) + (lc i)) p2) (2, 0, 12) ((8 * i) + (lc i)) p3) (2, 0, 14) ((8 * i) + (lc i)) (nI k)) (2, 0, 15) ((8 * i) + (lc i)) p5).1 (2, 0, 2) i) - 1)), wI (wI (wI (wI (wI (wI S (2, 0, 2) i (nI ((lc i) + 1))) (2, 0, 10) ((8 * i) + (lc i)) (nI g)) (2, 0, 11) ((8 * i) + (lc i)) p2) (2, 0, 12) ((8 * i) + (lc i)) p3) (2, 0, 14) ((8 * i) + (lc i)) (nI k)) (2, 0, 15) ((8 * i) + (lc i)) p5))) else (if (nI (lc i)) = 8 then (some (vi ((-6))), rfM S 6) else (some (vi (((wI (wI (wI (wI (wI (wI S (2, 0, 2) i (nI ((lc i) + 1))) (2, 0, 10) ((8 * i) + (lc i)) (nI g)) (2, 0, 11) ((8 * i) + (lc i)) p2) (2, 0, 12) ((8 * i) + (lc i)) p3) (2, 0, 14) ((8 * i) + (lc i)) (nI k)) (2, 0, 15) ((8 * i) + (lc i)) p5).1 (2, 0, 2) i) - 1)), wI (wI (wI (wI (wI (wI S (2, 0, 2) i (nI ((lc i) + 1))) (2, 0, 10) ((8 * i) + (lc i)) (nI g)) (2, 0, 11) ((8 * i) + (lc i)) p2) (2, 0, 12) ((8 * i) + (lc i)) p3) (2, 0, 14) ((8 * i) + (lc i)) (nI k)) (2, 0, 15) ((8 * i) + (lc i)) p5))))))) else (some (vi ((-4))), rfM S 4)
set_option maxHeartbeats 4000000 in
set_option maxRecDepth 100000 in
/-- lane(i, g, ..) -/
theorem c_X7_lane (l : Launch) (E : En) (base aw : Nat) (S : Mm) (mc : Nat) (lc : Nat → Nat) (hI : IM S mc lc) (i : Nat) (hi : i < mc) (g : Nat) (hg : g < 16) (p2 p3 p5 : Int32) (k : Nat) (hk : k < 4) : Cn l E base aw yX7_lane cX7_lane 8 (some Jvm.ClassFile.FieldType.int) 2 0 0 noF S [vr (2, 0, 0), vi (nI i), vi (nI g), vi p2, vi p3, vi (nI k), vi p5] (fun r S' => (r, S') = t_X7_lane S lc i g p2 p3 p5 k) := by
  have hM := hI.1
  have hmc := hI.2.2.1
  have hlc := (hI.2.2.2 i (by omega)).2
  refine Cn.of (by decide) (Nat.le_of_ble_eq_true rfl) ?_
  intro X Y hl hE hbase haw hfr C B
  subst hl; subst hE; subst hbase; subst haw
  refine g_aload_n (pc := 0) C dX7_lane_0 rfl ?_
  refine g_iload_n (pc := 1) C dX7_lane_1 rfl ?_
  refine g_callV (pc := 2) C B mX7_112 (c_isM_t _ _ _ _ _ mc lc hI i hi) rfl rfl rfl rfl hM.1 (by decide) ⟨Nat.le_refl _, Nat.le_refl _⟩ (Nat.le_of_ble_eq_true rfl) dX7_lane_2 (fun r S' hP => ?_)
  rw [hP.1, hP.2]
  refine g_if_eq (pc := 5) C 18 dX7_lane_5 (by decide) (fun h5 => absurd h5 (by decide)) (fun _ => ?_)
  refine g_iload_n (pc := 8) C dX7_lane_8 rfl ?_
  refine g_iconst (pc := 9) C 0 dX7_lane_9 (by decide) ?_
  refine g_bipush (pc := 10) C 15 dX7_lane_10 (by decide) ?_
  refine g_callS (pc := 12) C B mX7_108 (c_in_t _ _ _ _ _ _ _ _ (okW_t (n := 15) (by omega) (by decide))) rfl rfl (by decide) ⟨Nat.le_refl _, Nat.le_refl _⟩ (Nat.le_of_ble_eq_true rfl) dX7_lane_12 (fun r S' hP => ?_)
  rw [hP.1, hP.2]
  refine g_if_ne (pc := 15) C 24 dX7_lane_15 (by decide) (fun _ => ?_) (fun h15 => absurd h15 (by decide))
  refine g_iload (pc := 24) C dX7_lane_24 rfl ?_
  refine g_iconst (pc := 26) C 0 dX7_lane_26 (by decide) ?_
  refine g_iconst (pc := 27) C 3 dX7_lane_27 (by decide) ?_
  refine g_callS (pc := 28) C B mX7_108 (c_in_t _ _ _ _ _ _ _ _ (okW_t (n := 3) (by omega) (by decide))) rfl rfl (by decide) ⟨Nat.le_refl _, Nat.le_refl _⟩ (Nat.le_of_ble_eq_true rfl) dX7_lane_28 (fun r S' hP => ?_)
  rw [hP.1, hP.2]
  refine g_if_ne (pc := 31) C 41 dX7_lane_31 (by decide) (fun _ => ?_) (fun h31 => absurd h31 (by decide))
  refine g_iload_n (pc := 41) C dX7_lane_41 rfl ?_
  refine g_callS (pc := 42) C B mX7_120 (c_mblw _ _ _ _ _ _) rfl rfl (by decide) ⟨Nat.le_refl _, Nat.le_refl _⟩ (Nat.le_of_ble_eq_true rfl) dX7_lane_42 (fun r S' hP => ?_)
  rw [hP.1, hP.2]
  refine g_if_ne (pc := 45) C 65 dX7_lane_45 (by decide) (fun h45 => ?_) (fun h45 => ?_)
  ·
    refine g_aload_n (pc := 65) C dX7_lane_65 rfl ?_
    refine g_bipush (pc := 66) C (-4) dX7_lane_66 (by decide) ?_
    refine g_callV (pc := 68) C B mX7_116 (c_mrefuse _ _ _ _ _ hM (-4) 4 (by decide) (by decide)) rfl rfl rfl rfl hM.1 (by decide) ⟨Nat.le_refl _, Nat.le_refl _⟩ (Nat.le_of_ble_eq_true rfl) dX7_lane_68 (fun r S' hP => ?_)
    rw [hP.1, hP.2]
    exact g_iret (pc := 71) C B rfl dX7_lane_71 (by show (_, _) = t_X7_lane S lc i g p2 p3 p5 k; unfold t_X7_lane; rw [if_neg h45])
  ·
    refine g_iload (pc := 48) C dX7_lane_48 rfl ?_
    refine g_iconst (pc := 50) C 1 dX7_lane_50 (by decide) ?_
    refine g_icmp_lt (pc := 51) C 65 dX7_lane_51 (by decide) (fun h51 => ?_) (fun h51 => ?_)
    ·
      refine g_aload_n (pc := 65) C dX7_lane_65 rfl ?_
      refine g_bipush (pc := 66) C (-4) dX7_lane_66 (by decide) ?_
      refine g_callV (pc := 68) C B mX7_116 (c_mrefuse _ _ _ _ _ hM (-4) 4 (by decide) (by decide)) rfl rfl rfl rfl hM.1 (by decide) ⟨Nat.le_refl _, Nat.le_refl _⟩ (Nat.le_of_ble_eq_true rfl) dX7_lane_68 (fun r S' hP => ?_)
      rw [hP.1, hP.2]
      exact g_iret (pc := 71) C B rfl dX7_lane_71 (by show (_, _) = t_X7_lane S lc i g p2 p3 p5 k; unfold t_X7_lane; rw [if_pos h45, if_pos h51])
    ·
      refine g_iload (pc := 54) C dX7_lane_54 rfl ?_
      refine g_iconst (pc := 56) C 2 dX7_lane_56 (by decide) ?_
      refine g_icmp_ne (pc := 57) C 72 dX7_lane_57 (by decide) (fun h57 => ?_) (fun h57 => ?_)
      ·
        refine g_iload_n (pc := 72) C dX7_lane_72 rfl ?_
        refine g_sipush (pc := 73) C 5000 dX7_lane_73 (by decide) ?_
        refine g_icmp_gt (pc := 76) C 110 dX7_lane_76 (by decide) (fun h76 => ?_) (fun h76 => ?_)
        ·
          refine g_aload_n (pc := 110) C dX7_lane_110 rfl ?_
          refine g_bipush (pc := 111) C (-6) dX7_lane_111 (by decide) ?_
          refine g_callV (pc := 113) C B mX7_116 (c_mrefuse _ _ _ _ _ hM (-6) 6 (by decide) (by decide)) rfl rfl rfl rfl hM.1 (by decide) ⟨Nat.le_refl _, Nat.le_refl _⟩ (Nat.le_of_ble_eq_true rfl) dX7_lane_113 (fun r S' hP => ?_)
          rw [hP.1, hP.2]
          exact g_iret (pc := 116) C B rfl dX7_lane_116 (by show (_, _) = t_X7_lane S lc i g p2 p3 p5 k; unfold t_X7_lane; rw [if_pos h45, if_neg h51, if_neg h57, if_pos h76])
        ·
          refine g_iload (pc := 79) C dX7_lane_79 rfl ?_
          refine g_bipush (pc := 81) C 20 dX7_lane_81 (by decide) ?_
          refine g_icmp_gt (pc := 83) C 110 dX7_lane_83 (by decide) (fun h83 => ?_) (fun h83 => ?_)
          ·
            refine g_aload_n (pc := 110) C dX7_lane_110 rfl ?_
            refine g_bipush (pc := 111) C (-6) dX7_lane_111 (by decide) ?_
            refine g_callV (pc := 113) C B mX7_116 (c_mrefuse _ _ _ _ _ hM (-6) 6 (by decide) (by decide)) rfl rfl rfl rfl hM.1 (by decide) ⟨Nat.le_refl _, Nat.le_refl _⟩ (Nat.le_of_ble_eq_true rfl) dX7_lane_113 (fun r S' hP => ?_)
            rw [hP.1, hP.2]
            exact g_iret (pc := 116) C B rfl dX7_lane_116 (by show (_, _) = t_X7_lane S lc i g p2 p3 p5 k; unfold t_X7_lane; rw [if_pos h45, if_neg h51, if_neg h57, if_neg h76, if_pos h83])
          ·
            refine g_iload (pc := 86) C dX7_lane_86 rfl ?_
            refine g_iconst (pc := 88) C 2 dX7_lane_88 (by decide) ?_
            refine g_icmp_ne (pc := 89) C 99 dX7_lane_89 (by decide) (fun h89 => ?_) (fun h89 => ?_)
            ·
              refine g_aload_n (pc := 99) C dX7_lane_99 rfl ?_
              refine g_getr (pc := 100) C fX7_7 rfl hM.1 dX7_lane_100 rfl (hM.2 2 rfl).1 ?_
              refine g_iload_n (pc := 103) C dX7_lane_103 rfl ?_
              refine g_ialdN (pc := 104) C rfl (hM.2 2 rfl).2 (by omega) (by decide) dX7_lane_104 ?_
              refine g_eqi (nI (lc i)) (hI.2.2.2 i (by omega)).1 ?_
              refine g_bipush (pc := 105) C 8 dX7_lane_105 (by decide) ?_
              refine g_icmp_ne (pc := 107) C 117 dX7_lane_107 (by decide) (fun h107 => ?_) (fun h107 => ?_)
              ·
                have h8 : lc i < 8 := by have q : ¬ lc i = 8 := fun z => h107 (by rw [z]; rfl); omega
                refine g_bipush (pc := 117) C 8 dX7_lane_117 (by decide) ?_
                refine g_iload_n (pc := 119) C dX7_lane_119 rfl ?_
                refine g_imul (pc := 120) C dX7_lane_120 ?_
                refine g_eqi (nI (8 * i)) (pk_mul 8 i) ?_
                refine g_aload_n (pc := 121) C dX7_lane_121 rfl ?_
                refine g_getr (pc := 122) C fX7_7 rfl hM.1 dX7_lane_122 rfl (hM.2 2 rfl).1 ?_
                refine g_iload_n (pc := 125) C dX7_lane_125 rfl ?_
                refine g_ialdN (pc := 126) C rfl (hM.2 2 rfl).2 (by omega) (by decide) dX7_lane_126 ?_
                refine g_eqi (nI (lc i)) (hI.2.2.2 i (by omega)).1 ?_
                refine g_iadd (pc := 127) C dX7_lane_127 ?_
                refine g_eqi (nI ((8 * i) + (lc i))) (nI_add (8 * i) (lc i)) ?_
                refine g_istore (pc := 128) C dX7_lane_128 (by decide) ?_
                refine g_aload_n (pc := 130) C dX7_lane_130 rfl ?_
                refine g_getr (pc := 131) C fX7_7 rfl hM.1 dX7_lane_131 rfl (hM.2 2 rfl).1 ?_
                refine g_iload_n (pc := 134) C dX7_lane_134 rfl ?_
                refine g_dup2 (pc := 135) C dX7_lane_135 ?_
                refine g_ialdN (pc := 136) C rfl (hM.2 2 rfl).2 (by omega) (by decide) dX7_lane_136 ?_
                refine g_eqi (nI (lc i)) (hI.2.2.2 i (by omega)).1 ?_
                refine g_iconst (pc := 137) C 1 dX7_lane_137 (by decide) ?_
                refine g_iadd (pc := 138) C dX7_lane_138 ?_
                refine g_eqi (nI ((lc i) + 1)) (nI_add (lc i) 1) ?_
                refine g_iastN (pc := 139) C rfl (hM.2 2 rfl).2 (by omega) (by decide) dX7_lane_139 ?_
                refine g_aload_n (pc := 140) C dX7_lane_140 rfl ?_
                refine g_getr (pc := 141) C fX7_35 rfl hM.1 dX7_lane_141 rfl (hM.2 10 rfl).1 ?_
                refine g_iload (pc := 144) C dX7_lane_144 rfl ?_
                refine g_iload_n (pc := 146) C dX7_lane_146 rfl ?_
                refine g_iastN (pc := 147) C rfl (hM.2 10 rfl).2 (by omega) (by decide) dX7_lane_147 ?_
                refine g_aload_n (pc := 148) C dX7_lane_148 rfl ?_
                refine g_getr (pc := 149) C fX7_38 rfl hM.1 dX7_lane_149 rfl (hM.2 11 rfl).1 ?_
                refine g_iload (pc := 152) C dX7_lane_152 rfl ?_
                refine g_iload_n (pc := 154) C dX7_lane_154 rfl ?_
                refine g_iastN (pc := 155) C rfl (hM.2 11 rfl).2 (by omega) (by decide) dX7_lane_155 ?_
                refine g_aload_n (pc := 156) C dX7_lane_156 rfl ?_
                refine g_getr (pc := 157) C fX7_41 rfl hM.1 dX7_lane_157 rfl (hM.2 12 rfl).1 ?_
                refine g_iload (pc := 160) C dX7_lane_160 rfl ?_
                refine g_iload (pc := 162) C dX7_lane_162 rfl ?_
                refine g_iastN (pc := 164) C rfl (hM.2 12 rfl).2 (by omega) (by decide) dX7_lane_164 ?_
                refine g_aload_n (pc := 165) C dX7_lane_165 rfl ?_
                refine g_getr (pc := 166) C fX7_47 rfl hM.1 dX7_lane_166 rfl (hM.2 14 rfl).1 ?_
                refine g_iload (pc := 169) C dX7_lane_169 rfl ?_
                refine g_iload (pc := 171) C dX7_lane_171 rfl ?_
                refine g_iastN (pc := 173) C rfl (hM.2 14 rfl).2 (by omega) (by decide) dX7_lane_173 ?_
                refine g_aload_n (pc := 174) C dX7_lane_174 rfl ?_
                refine g_getr (pc := 175) C fX7_50 rfl hM.1 dX7_lane_175 rfl (hM.2 15 rfl).1 ?_
                refine g_iload (pc := 178) C dX7_lane_178 rfl ?_
                refine g_iload (pc := 180) C dX7_lane_180 rfl ?_
                refine g_iastN (pc := 182) C rfl (hM.2 15 rfl).2 (by omega) (by decide) dX7_lane_182 ?_
                refine g_aload_n (pc := 183) C dX7_lane_183 rfl ?_
                refine g_getr (pc := 184) C fX7_7 rfl hM.1 dX7_lane_184 rfl (hM.2 2 rfl).1 ?_
                refine g_iload_n (pc := 187) C dX7_lane_187 rfl ?_
                refine g_ialdN (pc := 188) C rfl (hM.2 2 rfl).2 (by omega) (by decide) dX7_lane_188 ?_
                refine g_iconst (pc := 189) C 1 dX7_lane_189 (by decide) ?_
                refine g_isub (pc := 190) C dX7_lane_190 ?_
                exact g_iret (pc := 191) C B rfl dX7_lane_191 (by show (_, _) = t_X7_lane S lc i g p2 p3 p5 k; unfold t_X7_lane; rw [if_pos h45, if_neg h51, if_neg h57, if_neg h76, if_neg h83, if_neg h89, if_neg h107])
              ·
                refine g_aload_n (pc := 110) C dX7_lane_110 rfl ?_
                refine g_bipush (pc := 111) C (-6) dX7_lane_111 (by decide) ?_
                refine g_callV (pc := 113) C B mX7_116 (c_mrefuse _ _ _ _ _ hM (-6) 6 (by decide) (by decide)) rfl rfl rfl rfl hM.1 (by decide) ⟨Nat.le_refl _, Nat.le_refl _⟩ (Nat.le_of_ble_eq_true rfl) dX7_lane_113 (fun r S' hP => ?_)
                rw [hP.1, hP.2]
                exact g_iret (pc := 116) C B rfl dX7_lane_116 (by show (_, _) = t_X7_lane S lc i g p2 p3 p5 k; unfold t_X7_lane; rw [if_pos h45, if_neg h51, if_neg h57, if_neg h76, if_neg h83, if_neg h89, if_pos h107])
            ·
              refine g_iload (pc := 92) C dX7_lane_92 rfl ?_
              refine g_bipush (pc := 94) C 48 dX7_lane_94 (by decide) ?_
              refine g_icmp_gt (pc := 96) C 110 dX7_lane_96 (by decide) (fun h96 => ?_) (fun h96 => ?_)
              ·
                refine g_aload_n (pc := 110) C dX7_lane_110 rfl ?_
                refine g_bipush (pc := 111) C (-6) dX7_lane_111 (by decide) ?_
                refine g_callV (pc := 113) C B mX7_116 (c_mrefuse _ _ _ _ _ hM (-6) 6 (by decide) (by decide)) rfl rfl rfl rfl hM.1 (by decide) ⟨Nat.le_refl _, Nat.le_refl _⟩ (Nat.le_of_ble_eq_true rfl) dX7_lane_113 (fun r S' hP => ?_)
                rw [hP.1, hP.2]
                exact g_iret (pc := 116) C B rfl dX7_lane_116 (by show (_, _) = t_X7_lane S lc i g p2 p3 p5 k; unfold t_X7_lane; rw [if_pos h45, if_neg h51, if_neg h57, if_neg h76, if_neg h83, if_pos h89, if_pos h96])
              ·
                refine g_aload_n (pc := 99) C dX7_lane_99 rfl ?_
                refine g_getr (pc := 100) C fX7_7 rfl hM.1 dX7_lane_100 rfl (hM.2 2 rfl).1 ?_
                refine g_iload_n (pc := 103) C dX7_lane_103 rfl ?_
                refine g_ialdN (pc := 104) C rfl (hM.2 2 rfl).2 (by omega) (by decide) dX7_lane_104 ?_
                refine g_eqi (nI (lc i)) (hI.2.2.2 i (by omega)).1 ?_
                refine g_bipush (pc := 105) C 8 dX7_lane_105 (by decide) ?_
                refine g_icmp_ne (pc := 107) C 117 dX7_lane_107 (by decide) (fun h107 => ?_) (fun h107 => ?_)
                ·
                  have h8 : lc i < 8 := by have q : ¬ lc i = 8 := fun z => h107 (by rw [z]; rfl); omega
                  refine g_bipush (pc := 117) C 8 dX7_lane_117 (by decide) ?_
                  refine g_iload_n (pc := 119) C dX7_lane_119 rfl ?_
                  refine g_imul (pc := 120) C dX7_lane_120 ?_
                  refine g_eqi (nI (8 * i)) (pk_mul 8 i) ?_
                  refine g_aload_n (pc := 121) C dX7_lane_121 rfl ?_
                  refine g_getr (pc := 122) C fX7_7 rfl hM.1 dX7_lane_122 rfl (hM.2 2 rfl).1 ?_
                  refine g_iload_n (pc := 125) C dX7_lane_125 rfl ?_
                  refine g_ialdN (pc := 126) C rfl (hM.2 2 rfl).2 (by omega) (by decide) dX7_lane_126 ?_
                  refine g_eqi (nI (lc i)) (hI.2.2.2 i (by omega)).1 ?_
                  refine g_iadd (pc := 127) C dX7_lane_127 ?_
                  refine g_eqi (nI ((8 * i) + (lc i))) (nI_add (8 * i) (lc i)) ?_
                  refine g_istore (pc := 128) C dX7_lane_128 (by decide) ?_
                  refine g_aload_n (pc := 130) C dX7_lane_130 rfl ?_
                  refine g_getr (pc := 131) C fX7_7 rfl hM.1 dX7_lane_131 rfl (hM.2 2 rfl).1 ?_
                  refine g_iload_n (pc := 134) C dX7_lane_134 rfl ?_
                  refine g_dup2 (pc := 135) C dX7_lane_135 ?_
                  refine g_ialdN (pc := 136) C rfl (hM.2 2 rfl).2 (by omega) (by decide) dX7_lane_136 ?_
                  refine g_eqi (nI (lc i)) (hI.2.2.2 i (by omega)).1 ?_
                  refine g_iconst (pc := 137) C 1 dX7_lane_137 (by decide) ?_
                  refine g_iadd (pc := 138) C dX7_lane_138 ?_
                  refine g_eqi (nI ((lc i) + 1)) (nI_add (lc i) 1) ?_
                  refine g_iastN (pc := 139) C rfl (hM.2 2 rfl).2 (by omega) (by decide) dX7_lane_139 ?_
                  refine g_aload_n (pc := 140) C dX7_lane_140 rfl ?_
                  refine g_getr (pc := 141) C fX7_35 rfl hM.1 dX7_lane_141 rfl (hM.2 10 rfl).1 ?_
                  refine g_iload (pc := 144) C dX7_lane_144 rfl ?_
                  refine g_iload_n (pc := 146) C dX7_lane_146 rfl ?_
                  refine g_iastN (pc := 147) C rfl (hM.2 10 rfl).2 (by omega) (by decide) dX7_lane_147 ?_
                  refine g_aload_n (pc := 148) C dX7_lane_148 rfl ?_
                  refine g_getr (pc := 149) C fX7_38 rfl hM.1 dX7_lane_149 rfl (hM.2 11 rfl).1 ?_
                  refine g_iload (pc := 152) C dX7_lane_152 rfl ?_
                  refine g_iload_n (pc := 154) C dX7_lane_154 rfl ?_
                  refine g_iastN (pc := 155) C rfl (hM.2 11 rfl).2 (by omega) (by decide) dX7_lane_155 ?_
                  refine g_aload_n (pc := 156) C dX7_lane_156 rfl ?_
                  refine g_getr (pc := 157) C fX7_41 rfl hM.1 dX7_lane_157 rfl (hM.2 12 rfl).1 ?_
                  refine g_iload (pc := 160) C dX7_lane_160 rfl ?_
                  refine g_iload (pc := 162) C dX7_lane_162 rfl ?_
                  refine g_iastN (pc := 164) C rfl (hM.2 12 rfl).2 (by omega) (by decide) dX7_lane_164 ?_
                  refine g_aload_n (pc := 165) C dX7_lane_165 rfl ?_
                  refine g_getr (pc := 166) C fX7_47 rfl hM.1 dX7_lane_166 rfl (hM.2 14 rfl).1 ?_
                  refine g_iload (pc := 169) C dX7_lane_169 rfl ?_
                  refine g_iload (pc := 171) C dX7_lane_171 rfl ?_
                  refine g_iastN (pc := 173) C rfl (hM.2 14 rfl).2 (by omega) (by decide) dX7_lane_173 ?_
                  refine g_aload_n (pc := 174) C dX7_lane_174 rfl ?_
                  refine g_getr (pc := 175) C fX7_50 rfl hM.1 dX7_lane_175 rfl (hM.2 15 rfl).1 ?_
                  refine g_iload (pc := 178) C dX7_lane_178 rfl ?_
                  refine g_iload (pc := 180) C dX7_lane_180 rfl ?_
                  refine g_iastN (pc := 182) C rfl (hM.2 15 rfl).2 (by omega) (by decide) dX7_lane_182 ?_
                  refine g_aload_n (pc := 183) C dX7_lane_183 rfl ?_
                  refine g_getr (pc := 184) C fX7_7 rfl hM.1 dX7_lane_184 rfl (hM.2 2 rfl).1 ?_
                  refine g_iload_n (pc := 187) C dX7_lane_187 rfl ?_
                  refine g_ialdN (pc := 188) C rfl (hM.2 2 rfl).2 (by omega) (by decide) dX7_lane_188 ?_
                  refine g_iconst (pc := 189) C 1 dX7_lane_189 (by decide) ?_
                  refine g_isub (pc := 190) C dX7_lane_190 ?_
                  exact g_iret (pc := 191) C B rfl dX7_lane_191 (by show (_, _) = t_X7_lane S lc i g p2 p3 p5 k; unfold t_X7_lane; rw [if_pos h45, if_neg h51, if_neg h57, if_neg h76, if_neg h83, if_pos h89, if_neg h96, if_neg h107])
                ·
                  refine g_aload_n (pc := 110) C dX7_lane_110 rfl ?_
                  refine g_bipush (pc := 111) C (-6) dX7_lane_111 (by decide) ?_
                  refine g_callV (pc := 113) C B mX7_116 (c_mrefuse _ _ _ _ _ hM (-6) 6 (by decide) (by decide)) rfl rfl rfl rfl hM.1 (by decide) ⟨Nat.le_refl _, Nat.le_refl _⟩ (Nat.le_of_ble_eq_true rfl) dX7_lane_113 (fun r S' hP => ?_)
                  rw [hP.1, hP.2]
                  exact g_iret (pc := 116) C B rfl dX7_lane_116 (by show (_, _) = t_X7_lane S lc i g p2 p3 p5 k; unfold t_X7_lane; rw [if_pos h45, if_neg h51, if_neg h57, if_neg h76, if_neg h83, if_pos h89, if_neg h96, if_pos h107])
      ·
        refine g_iload (pc := 60) C dX7_lane_60 rfl ?_
        refine g_if_ge (pc := 62) C 72 dX7_lane_62 (by decide) (fun h62 => ?_) (fun h62 => ?_)
        ·
          refine g_iload_n (pc := 72) C dX7_lane_72 rfl ?_
          refine g_sipush (pc := 73) C 5000 dX7_lane_73 (by decide) ?_
          refine g_icmp_gt (pc := 76) C 110 dX7_lane_76 (by decide) (fun h76 => ?_) (fun h76 => ?_)
          ·
            refine g_aload_n (pc := 110) C dX7_lane_110 rfl ?_
            refine g_bipush (pc := 111) C (-6) dX7_lane_111 (by decide) ?_
            refine g_callV (pc := 113) C B mX7_116 (c_mrefuse _ _ _ _ _ hM (-6) 6 (by decide) (by decide)) rfl rfl rfl rfl hM.1 (by decide) ⟨Nat.le_refl _, Nat.le_refl _⟩ (Nat.le_of_ble_eq_true rfl) dX7_lane_113 (fun r S' hP => ?_)
            rw [hP.1, hP.2]
            exact g_iret (pc := 116) C B rfl dX7_lane_116 (by show (_, _) = t_X7_lane S lc i g p2 p3 p5 k; unfold t_X7_lane; rw [if_pos h45, if_neg h51, if_pos h57, if_pos h62, if_pos h76])
          ·
            refine g_iload (pc := 79) C dX7_lane_79 rfl ?_
            refine g_bipush (pc := 81) C 20 dX7_lane_81 (by decide) ?_
            refine g_icmp_gt (pc := 83) C 110 dX7_lane_83 (by decide) (fun h83 => ?_) (fun h83 => ?_)
            ·
              refine g_aload_n (pc := 110) C dX7_lane_110 rfl ?_
              refine g_bipush (pc := 111) C (-6) dX7_lane_111 (by decide) ?_
              refine g_callV (pc := 113) C B mX7_116 (c_mrefuse _ _ _ _ _ hM (-6) 6 (by decide) (by decide)) rfl rfl rfl rfl hM.1 (by decide) ⟨Nat.le_refl _, Nat.le_refl _⟩ (Nat.le_of_ble_eq_true rfl) dX7_lane_113 (fun r S' hP => ?_)
              rw [hP.1, hP.2]
              exact g_iret (pc := 116) C B rfl dX7_lane_116 (by show (_, _) = t_X7_lane S lc i g p2 p3 p5 k; unfold t_X7_lane; rw [if_pos h45, if_neg h51, if_pos h57, if_pos h62, if_neg h76, if_pos h83])
            ·
              refine g_iload (pc := 86) C dX7_lane_86 rfl ?_
              refine g_iconst (pc := 88) C 2 dX7_lane_88 (by decide) ?_
              refine g_icmp_ne (pc := 89) C 99 dX7_lane_89 (by decide) (fun h89 => ?_) (fun h89 => ?_)
              ·
                refine g_aload_n (pc := 99) C dX7_lane_99 rfl ?_
                refine g_getr (pc := 100) C fX7_7 rfl hM.1 dX7_lane_100 rfl (hM.2 2 rfl).1 ?_
                refine g_iload_n (pc := 103) C dX7_lane_103 rfl ?_
                refine g_ialdN (pc := 104) C rfl (hM.2 2 rfl).2 (by omega) (by decide) dX7_lane_104 ?_
                refine g_eqi (nI (lc i)) (hI.2.2.2 i (by omega)).1 ?_
                refine g_bipush (pc := 105) C 8 dX7_lane_105 (by decide) ?_
                refine g_icmp_ne (pc := 107) C 117 dX7_lane_107 (by decide) (fun h107 => ?_) (fun h107 => ?_)
                ·
                  have h8 : lc i < 8 := by have q : ¬ lc i = 8 := fun z => h107 (by rw [z]; rfl); omega
                  refine g_bipush (pc := 117) C 8 dX7_lane_117 (by decide) ?_
                  refine g_iload_n (pc := 119) C dX7_lane_119 rfl ?_
                  refine g_imul (pc := 120) C dX7_lane_120 ?_
                  refine g_eqi (nI (8 * i)) (pk_mul 8 i) ?_
                  refine g_aload_n (pc := 121) C dX7_lane_121 rfl ?_
                  refine g_getr (pc := 122) C fX7_7 rfl hM.1 dX7_lane_122 rfl (hM.2 2 rfl).1 ?_
                  refine g_iload_n (pc := 125) C dX7_lane_125 rfl ?_
                  refine g_ialdN (pc := 126) C rfl (hM.2 2 rfl).2 (by omega) (by decide) dX7_lane_126 ?_
                  refine g_eqi (nI (lc i)) (hI.2.2.2 i (by omega)).1 ?_
                  refine g_iadd (pc := 127) C dX7_lane_127 ?_
                  refine g_eqi (nI ((8 * i) + (lc i))) (nI_add (8 * i) (lc i)) ?_
                  refine g_istore (pc := 128) C dX7_lane_128 (by decide) ?_
                  refine g_aload_n (pc := 130) C dX7_lane_130 rfl ?_
                  refine g_getr (pc := 131) C fX7_7 rfl hM.1 dX7_lane_131 rfl (hM.2 2 rfl).1 ?_
                  refine g_iload_n (pc := 134) C dX7_lane_134 rfl ?_
                  refine g_dup2 (pc := 135) C dX7_lane_135 ?_
                  refine g_ialdN (pc := 136) C rfl (hM.2 2 rfl).2 (by omega) (by decide) dX7_lane_136 ?_
                  refine g_eqi (nI (lc i)) (hI.2.2.2 i (by omega)).1 ?_
                  refine g_iconst (pc := 137) C 1 dX7_lane_137 (by decide) ?_
                  refine g_iadd (pc := 138) C dX7_lane_138 ?_
                  refine g_eqi (nI ((lc i) + 1)) (nI_add (lc i) 1) ?_
                  refine g_iastN (pc := 139) C rfl (hM.2 2 rfl).2 (by omega) (by decide) dX7_lane_139 ?_
                  refine g_aload_n (pc := 140) C dX7_lane_140 rfl ?_
                  refine g_getr (pc := 141) C fX7_35 rfl hM.1 dX7_lane_141 rfl (hM.2 10 rfl).1 ?_
                  refine g_iload (pc := 144) C dX7_lane_144 rfl ?_
                  refine g_iload_n (pc := 146) C dX7_lane_146 rfl ?_
                  refine g_iastN (pc := 147) C rfl (hM.2 10 rfl).2 (by omega) (by decide) dX7_lane_147 ?_
                  refine g_aload_n (pc := 148) C dX7_lane_148 rfl ?_
                  refine g_getr (pc := 149) C fX7_38 rfl hM.1 dX7_lane_149 rfl (hM.2 11 rfl).1 ?_
                  refine g_iload (pc := 152) C dX7_lane_152 rfl ?_
                  refine g_iload_n (pc := 154) C dX7_lane_154 rfl ?_
                  refine g_iastN (pc := 155) C rfl (hM.2 11 rfl).2 (by omega) (by decide) dX7_lane_155 ?_
                  refine g_aload_n (pc := 156) C dX7_lane_156 rfl ?_
                  refine g_getr (pc := 157) C fX7_41 rfl hM.1 dX7_lane_157 rfl (hM.2 12 rfl).1 ?_
                  refine g_iload (pc := 160) C dX7_lane_160 rfl ?_
                  refine g_iload (pc := 162) C dX7_lane_162 rfl ?_
                  refine g_iastN (pc := 164) C rfl (hM.2 12 rfl).2 (by omega) (by decide) dX7_lane_164 ?_
                  refine g_aload_n (pc := 165) C dX7_lane_165 rfl ?_
                  refine g_getr (pc := 166) C fX7_47 rfl hM.1 dX7_lane_166 rfl (hM.2 14 rfl).1 ?_
                  refine g_iload (pc := 169) C dX7_lane_169 rfl ?_
                  refine g_iload (pc := 171) C dX7_lane_171 rfl ?_
                  refine g_iastN (pc := 173) C rfl (hM.2 14 rfl).2 (by omega) (by decide) dX7_lane_173 ?_
                  refine g_aload_n (pc := 174) C dX7_lane_174 rfl ?_
                  refine g_getr (pc := 175) C fX7_50 rfl hM.1 dX7_lane_175 rfl (hM.2 15 rfl).1 ?_
                  refine g_iload (pc := 178) C dX7_lane_178 rfl ?_
                  refine g_iload (pc := 180) C dX7_lane_180 rfl ?_
                  refine g_iastN (pc := 182) C rfl (hM.2 15 rfl).2 (by omega) (by decide) dX7_lane_182 ?_
                  refine g_aload_n (pc := 183) C dX7_lane_183 rfl ?_
                  refine g_getr (pc := 184) C fX7_7 rfl hM.1 dX7_lane_184 rfl (hM.2 2 rfl).1 ?_
                  refine g_iload_n (pc := 187) C dX7_lane_187 rfl ?_
                  refine g_ialdN (pc := 188) C rfl (hM.2 2 rfl).2 (by omega) (by decide) dX7_lane_188 ?_
                  refine g_iconst (pc := 189) C 1 dX7_lane_189 (by decide) ?_
                  refine g_isub (pc := 190) C dX7_lane_190 ?_
                  exact g_iret (pc := 191) C B rfl dX7_lane_191 (by show (_, _) = t_X7_lane S lc i g p2 p3 p5 k; unfold t_X7_lane; rw [if_pos h45, if_neg h51, if_pos h57, if_pos h62, if_neg h76, if_neg h83, if_neg h89, if_neg h107])
                ·
                  refine g_aload_n (pc := 110) C dX7_lane_110 rfl ?_
                  refine g_bipush (pc := 111) C (-6) dX7_lane_111 (by decide) ?_
                  refine g_callV (pc := 113) C B mX7_116 (c_mrefuse _ _ _ _ _ hM (-6) 6 (by decide) (by decide)) rfl rfl rfl rfl hM.1 (by decide) ⟨Nat.le_refl _, Nat.le_refl _⟩ (Nat.le_of_ble_eq_true rfl) dX7_lane_113 (fun r S' hP => ?_)
                  rw [hP.1, hP.2]
                  exact g_iret (pc := 116) C B rfl dX7_lane_116 (by show (_, _) = t_X7_lane S lc i g p2 p3 p5 k; unfold t_X7_lane; rw [if_pos h45, if_neg h51, if_pos h57, if_pos h62, if_neg h76, if_neg h83, if_neg h89, if_pos h107])
              ·
                refine g_iload (pc := 92) C dX7_lane_92 rfl ?_
                refine g_bipush (pc := 94) C 48 dX7_lane_94 (by decide) ?_
                refine g_icmp_gt (pc := 96) C 110 dX7_lane_96 (by decide) (fun h96 => ?_) (fun h96 => ?_)
                ·
                  refine g_aload_n (pc := 110) C dX7_lane_110 rfl ?_
                  refine g_bipush (pc := 111) C (-6) dX7_lane_111 (by decide) ?_
                  refine g_callV (pc := 113) C B mX7_116 (c_mrefuse _ _ _ _ _ hM (-6) 6 (by decide) (by decide)) rfl rfl rfl rfl hM.1 (by decide) ⟨Nat.le_refl _, Nat.le_refl _⟩ (Nat.le_of_ble_eq_true rfl) dX7_lane_113 (fun r S' hP => ?_)
                  rw [hP.1, hP.2]
                  exact g_iret (pc := 116) C B rfl dX7_lane_116 (by show (_, _) = t_X7_lane S lc i g p2 p3 p5 k; unfold t_X7_lane; rw [if_pos h45, if_neg h51, if_pos h57, if_pos h62, if_neg h76, if_neg h83, if_pos h89, if_pos h96])
                ·
                  refine g_aload_n (pc := 99) C dX7_lane_99 rfl ?_
                  refine g_getr (pc := 100) C fX7_7 rfl hM.1 dX7_lane_100 rfl (hM.2 2 rfl).1 ?_
                  refine g_iload_n (pc := 103) C dX7_lane_103 rfl ?_
                  refine g_ialdN (pc := 104) C rfl (hM.2 2 rfl).2 (by omega) (by decide) dX7_lane_104 ?_
                  refine g_eqi (nI (lc i)) (hI.2.2.2 i (by omega)).1 ?_
                  refine g_bipush (pc := 105) C 8 dX7_lane_105 (by decide) ?_
                  refine g_icmp_ne (pc := 107) C 117 dX7_lane_107 (by decide) (fun h107 => ?_) (fun h107 => ?_)
                  ·
                    have h8 : lc i < 8 := by have q : ¬ lc i = 8 := fun z => h107 (by rw [z]; rfl); omega
                    refine g_bipush (pc := 117) C 8 dX7_lane_117 (by decide) ?_
                    refine g_iload_n (pc := 119) C dX7_lane_119 rfl ?_
                    refine g_imul (pc := 120) C dX7_lane_120 ?_
                    refine g_eqi (nI (8 * i)) (pk_mul 8 i) ?_
                    refine g_aload_n (pc := 121) C dX7_lane_121 rfl ?_
                    refine g_getr (pc := 122) C fX7_7 rfl hM.1 dX7_lane_122 rfl (hM.2 2 rfl).1 ?_
                    refine g_iload_n (pc := 125) C dX7_lane_125 rfl ?_
                    refine g_ialdN (pc := 126) C rfl (hM.2 2 rfl).2 (by omega) (by decide) dX7_lane_126 ?_
                    refine g_eqi (nI (lc i)) (hI.2.2.2 i (by omega)).1 ?_
                    refine g_iadd (pc := 127) C dX7_lane_127 ?_
                    refine g_eqi (nI ((8 * i) + (lc i))) (nI_add (8 * i) (lc i)) ?_
                    refine g_istore (pc := 128) C dX7_lane_128 (by decide) ?_
                    refine g_aload_n (pc := 130) C dX7_lane_130 rfl ?_
                    refine g_getr (pc := 131) C fX7_7 rfl hM.1 dX7_lane_131 rfl (hM.2 2 rfl).1 ?_
                    refine g_iload_n (pc := 134) C dX7_lane_134 rfl ?_
                    refine g_dup2 (pc := 135) C dX7_lane_135 ?_
                    refine g_ialdN (pc := 136) C rfl (hM.2 2 rfl).2 (by omega) (by decide) dX7_lane_136 ?_
                    refine g_eqi (nI (lc i)) (hI.2.2.2 i (by omega)).1 ?_
                    refine g_iconst (pc := 137) C 1 dX7_lane_137 (by decide) ?_
                    refine g_iadd (pc := 138) C dX7_lane_138 ?_
                    refine g_eqi (nI ((lc i) + 1)) (nI_add (lc i) 1) ?_
                    refine g_iastN (pc := 139) C rfl (hM.2 2 rfl).2 (by omega) (by decide) dX7_lane_139 ?_
                    refine g_aload_n (pc := 140) C dX7_lane_140 rfl ?_
                    refine g_getr (pc := 141) C fX7_35 rfl hM.1 dX7_lane_141 rfl (hM.2 10 rfl).1 ?_
                    refine g_iload (pc := 144) C dX7_lane_144 rfl ?_
                    refine g_iload_n (pc := 146) C dX7_lane_146 rfl ?_
                    refine g_iastN (pc := 147) C rfl (hM.2 10 rfl).2 (by omega) (by decide) dX7_lane_147 ?_
                    refine g_aload_n (pc := 148) C dX7_lane_148 rfl ?_
                    refine g_getr (pc := 149) C fX7_38 rfl hM.1 dX7_lane_149 rfl (hM.2 11 rfl).1 ?_
                    refine g_iload (pc := 152) C dX7_lane_152 rfl ?_
                    refine g_iload_n (pc := 154) C dX7_lane_154 rfl ?_
                    refine g_iastN (pc := 155) C rfl (hM.2 11 rfl).2 (by omega) (by decide) dX7_lane_155 ?_
                    refine g_aload_n (pc := 156) C dX7_lane_156 rfl ?_
                    refine g_getr (pc := 157) C fX7_41 rfl hM.1 dX7_lane_157 rfl (hM.2 12 rfl).1 ?_
                    refine g_iload (pc := 160) C dX7_lane_160 rfl ?_
                    refine g_iload (pc := 162) C dX7_lane_162 rfl ?_
                    refine g_iastN (pc := 164) C rfl (hM.2 12 rfl).2 (by omega) (by decide) dX7_lane_164 ?_
                    refine g_aload_n (pc := 165) C dX7_lane_165 rfl ?_
                    refine g_getr (pc := 166) C fX7_47 rfl hM.1 dX7_lane_166 rfl (hM.2 14 rfl).1 ?_
                    refine g_iload (pc := 169) C dX7_lane_169 rfl ?_
                    refine g_iload (pc := 171) C dX7_lane_171 rfl ?_
                    refine g_iastN (pc := 173) C rfl (hM.2 14 rfl).2 (by omega) (by decide) dX7_lane_173 ?_
                    refine g_aload_n (pc := 174) C dX7_lane_174 rfl ?_
                    refine g_getr (pc := 175) C fX7_50 rfl hM.1 dX7_lane_175 rfl (hM.2 15 rfl).1 ?_
                    refine g_iload (pc := 178) C dX7_lane_178 rfl ?_
                    refine g_iload (pc := 180) C dX7_lane_180 rfl ?_
                    refine g_iastN (pc := 182) C rfl (hM.2 15 rfl).2 (by omega) (by decide) dX7_lane_182 ?_
                    refine g_aload_n (pc := 183) C dX7_lane_183 rfl ?_
                    refine g_getr (pc := 184) C fX7_7 rfl hM.1 dX7_lane_184 rfl (hM.2 2 rfl).1 ?_
                    refine g_iload_n (pc := 187) C dX7_lane_187 rfl ?_
                    refine g_ialdN (pc := 188) C rfl (hM.2 2 rfl).2 (by omega) (by decide) dX7_lane_188 ?_
                    refine g_iconst (pc := 189) C 1 dX7_lane_189 (by decide) ?_
                    refine g_isub (pc := 190) C dX7_lane_190 ?_
                    exact g_iret (pc := 191) C B rfl dX7_lane_191 (by show (_, _) = t_X7_lane S lc i g p2 p3 p5 k; unfold t_X7_lane; rw [if_pos h45, if_neg h51, if_pos h57, if_pos h62, if_neg h76, if_neg h83, if_pos h89, if_neg h96, if_neg h107])
                  ·
                    refine g_aload_n (pc := 110) C dX7_lane_110 rfl ?_
                    refine g_bipush (pc := 111) C (-6) dX7_lane_111 (by decide) ?_
                    refine g_callV (pc := 113) C B mX7_116 (c_mrefuse _ _ _ _ _ hM (-6) 6 (by decide) (by decide)) rfl rfl rfl rfl hM.1 (by decide) ⟨Nat.le_refl _, Nat.le_refl _⟩ (Nat.le_of_ble_eq_true rfl) dX7_lane_113 (fun r S' hP => ?_)
                    rw [hP.1, hP.2]
                    exact g_iret (pc := 116) C B rfl dX7_lane_116 (by show (_, _) = t_X7_lane S lc i g p2 p3 p5 k; unfold t_X7_lane; rw [if_pos h45, if_neg h51, if_pos h57, if_pos h62, if_neg h76, if_neg h83, if_pos h89, if_neg h96, if_pos h107])
        ·
          refine g_aload_n (pc := 65) C dX7_lane_65 rfl ?_
          refine g_bipush (pc := 66) C (-4) dX7_lane_66 (by decide) ?_
          refine g_callV (pc := 68) C B mX7_116 (c_mrefuse _ _ _ _ _ hM (-4) 4 (by decide) (by decide)) rfl rfl rfl rfl hM.1 (by decide) ⟨Nat.le_refl _, Nat.le_refl _⟩ (Nat.le_of_ble_eq_true rfl) dX7_lane_68 (fun r S' hP => ?_)
          rw [hP.1, hP.2]
          exact g_iret (pc := 71) C B rfl dX7_lane_71 (by show (_, _) = t_X7_lane S lc i g p2 p3 p5 k; unfold t_X7_lane; rw [if_pos h45, if_neg h51, if_pos h57, if_neg h62])
end
section
/-! what the model's loops do -/
theorem ShM.same {S T : Mm} (h : T.2 = S.2) (hM : ShM S) : ShM T := by unfold ShM at *; rw [h]; exact hM
theorem IM.same {S T : Mm} {mc : Nat} {lc : Nat → Nat} (h : T.2 = S.2) (h1 : T.1 (2, 0, 0) 1 = S.1 (2, 0, 0) 1) (h2 : ∀ i, T.1 (2, 0, 2) i = S.1 (2, 0, 2) i) (hI : IM S mc lc) : IM T mc lc :=
  ⟨hI.1.same h, by unfold CtM; rw [h1]; exact ⟨hI.2.1, hI.2.2.1, fun i hi => by rw [h2]; exact hI.2.2.2 i hi⟩⟩
/-- allBack's loop -/
def abM (S : Mm) (i : Nat) : Nat → Mm
  | 0 => S
  | w + 1 => wI (wI (abM S i w) (2, 0, 7) (6 * i + w) ((abM S i w).1 (2, 0, 7) (6 * i + w) + (abM S i w).1 (2, 0, 5) (6 * i + w))) (2, 0, 5) (6 * i + w) 0
theorem abM_2 (S : Mm) (i : Nat) : ∀ w, (abM S i w).2 = S.2
  | 0 => rfl
  | w + 1 => abM_2 S i w
/-- collect's loop -/
def coM (S : Mm) (i : Nat) : Nat → Mm
  | 0 => S
  | w + 1 => wI (wI (coM S i w) (2, 0, 7) (6 * i + w) ((coM S i w).1 (2, 0, 7) (6 * i + w) + (coM S i w).1 (2, 0, 4) (6 * i + w))) (2, 0, 4) (6 * i + w) 0
theorem coM_2 (S : Mm) (i : Nat) : ∀ w, (coM S i w).2 = S.2
  | 0 => rfl
  | w + 1 => coM_2 S i w
/-- check's loops -/
def gsM (S : Mm) (i : Nat) : Nat → Int32
  | 0 => S.1 (2, 0, 25) i + S.1 (2, 0, 24) i + S.1 (2, 0, 23) i
  | j + 1 => gsM S i j + S.1 (2, 0, 13) (8 * i + j)
def ckM (S : Mm) (i : Nat) (b : Int32) : Nat → Int32
  | 0 => b
  | w + 1 => if ckM S i b w = 0 then 0 else if S.1 (2, 0, 6) (6 * i + w) = S.1 (2, 0, 3) (6 * i + w) + S.1 (2, 0, 4) (6 * i + w) + S.1 (2, 0, 5) (6 * i + w) + S.1 (2, 0, 7) (6 * i + w) then 1 else 0
/-- foretell's -/
def fsM (S : Mm) (i g h : Nat) : Nat → Int32
  | 0 => 0
  | k + 1 => fsM S i g h k + v_X7_rate S i g (h + k)
/-- when's -/
def stM (S : Mm) (i : Nat) (g : Int32) : Nat → Int32
  | 0 => 0
  | k + 1 => stM S i g k + (if S.1 (2, 0, 10) (8 * i + k) = g then S.1 (2, 0, 13) (8 * i + k) else 0)
def whM (S : Mm) (i g h : Nat) (all : Int32) : Nat → Nat → Int32 → Int32
  | 0, _, _ => -9
  | f + 1, c, s => if s + v_X7_rate S i g (h + c - 1) < 1000 * all then whM S i g h all f (c + 1) (s + v_X7_rate S i g (h + c - 1)) else nI c
end
section
set_option maxHeartbeats 4000000 in
set_option maxRecDepth 100000 in
theorem lp_worthIn {X : Xt} {Y : Yt} {P : Option AV → Mm → Prop} {nm : String}  (C : Cx X Y cX7_worthIn 5 RX7) (B : Bx X Y nm (some Jvm.ClassFile.FieldType.int) 1 0 0 P) {S : Mm} {i f : Nat} (hi : i < 6) (hf : S.2.2 (2, 0, f) = true) (hk : kd (2, 0, f) = (1, 36)) (K : G X Y 0 0 S 36 [(0, vr (2, 0, 0)), (1, vr (2, 0, f)), (2, vi (nI i)), (3, vi (wsum (fun w => S.1 (2, 0, f) (6 * i + w)) 6)), (4, vi (nI 6))] []) : ∀ n w, w + n = 6 → G X Y 0 0 S 5 [(0, vr (2, 0, 0)), (1, vr (2, 0, f)), (2, vi (nI i)), (3, vi (wsum (fun w => S.1 (2, 0, f) (6 * i + w)) w)), (4, vi (nI w))] [] := by
  intro n
  induction n with
  | zero =>
    intro w hw
    have e : 6 = w := by omega
    subst e
    refine g_iload (pc := 5) C dX7_worthIn_5 rfl ?_
    refine g_bipush (pc := 7) C 6 dX7_worthIn_7 (by decide) ?_
    refine g_icmp_ge (pc := 9) C 36 dX7_worthIn_9 (by decide) (fun _ => ?_) (fun h9 => absurd ((nI_leI (a := 6) (b := 6) (by omega) (by omega)).mpr (by omega)) h9)
    exact K
  | succ n ih =>
    intro w hw
    refine g_iload (pc := 5) C dX7_worthIn_5 rfl ?_
    refine g_bipush (pc := 7) C 6 dX7_worthIn_7 (by decide) ?_
    refine g_icmp_ge (pc := 9) C 36 dX7_worthIn_9 (by decide) (fun h9 => absurd h9 (fun q => absurd ((nI_leI (a := 6) (b := w) (by omega) (by omega)).mp q) (by omega))) (fun _ => ?_)
    refine g_iload_n (pc := 12) C dX7_worthIn_12 rfl ?_
    refine g_aload_n (pc := 13) C dX7_worthIn_13 rfl ?_
    refine g_bipush (pc := 14) C 6 dX7_worthIn_14 (by decide) ?_
    refine g_iload_n (pc := 16) C dX7_worthIn_16 rfl ?_
    refine g_imul (pc := 17) C dX7_worthIn_17 ?_
    refine g_eqi (nI (6 * i)) (pk_mul 6 i) ?_
    refine g_iload (pc := 18) C dX7_worthIn_18 rfl ?_
    refine g_iadd (pc := 20) C dX7_worthIn_20 ?_
    refine g_eqi (nI ((6 * i) + w)) (nI_add (6 * i) w) ?_
    refine g_ialdN (pc := 21) C hk hf (by omega) (by decide) dX7_worthIn_21 ?_
    refine g_iload (pc := 22) C dX7_worthIn_22 rfl ?_
    refine g_callS (pc := 24) C B mX7_130 (c_mworth _ _ _ _ _ w (by omega)) rfl rfl (by decide) ⟨Nat.le_refl _, Nat.le_refl _⟩ (Nat.le_of_ble_eq_true rfl) dX7_worthIn_24 (fun r S' hP => ?_)
    rw [hP.1, hP.2]
    refine g_imul (pc := 27) C dX7_worthIn_27 ?_
    refine g_iadd (pc := 28) C dX7_worthIn_28 ?_
    refine g_istore_n (pc := 29) C dX7_worthIn_29 (by decide) ?_
    refine g_iincN (pc := 30) C 1 dX7_worthIn_30 rfl (by decide) (by decide) ?_
    refine g_goto (pc := 33) C 5 dX7_worthIn_33 (by decide) ?_
    exact g_subR (ih (w + 1) (by omega)) ⟨rfl, rfl, rfl, rfl, rfl, trivial⟩
set_option maxHeartbeats 4000000 in
set_option maxRecDepth 100000 in
/-- worthIn(row f, i) -/
theorem c_worthIn (l : Launch) (E : En) (base aw : Nat) (S : Mm) (i f : Nat) (hi : i < 6) (hf : S.2.2 (2, 0, f) = true) (hk : kd (2, 0, f) = (1, 36)) : Cn l E base aw yX7_worthIn cX7_worthIn 5 (some Jvm.ClassFile.FieldType.int) 1 0 0 noF S [vr (2, 0, 0), vr (2, 0, f), vi (nI i)] (fun r S' => r = some (vi (wsum (fun w => S.1 (2, 0, f) (6 * i + w)) 6)) ∧ S' = S) := by
  refine Cn.of (by decide) (Nat.le_of_ble_eq_true rfl) ?_
  intro X Y hl hE hbase haw hfr C B
  subst hl; subst hE; subst hbase; subst haw
  refine g_iconst (pc := 0) C 0 dX7_worthIn_0 (by decide) ?_
  refine g_istore_n (pc := 1) C dX7_worthIn_1 (by decide) ?_
  refine g_iconst (pc := 2) C 0 dX7_worthIn_2 (by decide) ?_
  refine g_istore (pc := 3) C dX7_worthIn_3 (by decide) ?_
  refine g_subR (lp_worthIn C B hi hf hk ?_ 6 0 rfl) ⟨rfl, rfl, rfl, rfl, rfl, trivial⟩
  refine g_iload_n (pc := 36) C dX7_worthIn_36 rfl ?_
  exact g_iret (pc := 37) C B rfl dX7_worthIn_37 (⟨rfl, rfl⟩)

set_option maxHeartbeats 4000000 in
set_option maxRecDepth 100000 in
theorem lp_coinsIn {X : Xt} {Y : Yt} {P : Option AV → Mm → Prop} {nm : String}  (C : Cx X Y cX7_coinsIn 4 RX7) (B : Bx X Y nm (some Jvm.ClassFile.FieldType.int) 0 0 0 P) {S : Mm} {i : Nat} (hM : ShM S) (hi : i < 6) (K : G X Y 0 0 S 30 [(0, vr (2, 0, 0)), (1, vi (nI i)), (2, vi (csum (fun w => S.1 (2, 0, 5) (6 * i + w)) 6)), (3, vi (nI 6))] []) : ∀ n w, w + n = 6 → G X Y 0 0 S 4 [(0, vr (2, 0, 0)), (1, vi (nI i)), (2, vi (csum (fun w => S.1 (2, 0, 5) (6 * i + w)) w)), (3, vi (nI w))] [] := by
  intro n
  induction n with
  | zero =>
    intro w hw
    have e : 6 = w := by omega
    subst e
    refine g_iload_n (pc := 4) C dX7_coinsIn_4 rfl ?_
    refine g_bipush (pc := 5) C 6 dX7_coinsIn_5 (by decide) ?_
    refine g_icmp_ge (pc := 7) C 30 dX7_coinsIn_7 (by decide) (fun _ => ?_) (fun h7 => absurd ((nI_leI (a := 6) (b := 6) (by omega) (by omega)).mpr (by omega)) h7)
    exact K
  | succ n ih =>
    intro w hw
    refine g_iload_n (pc := 4) C dX7_coinsIn_4 rfl ?_
    refine g_bipush (pc := 5) C 6 dX7_coinsIn_5 (by decide) ?_
    refine g_icmp_ge (pc := 7) C 30 dX7_coinsIn_7 (by decide) (fun h7 => absurd h7 (fun q => absurd ((nI_leI (a := 6) (b := w) (by omega) (by omega)).mp q) (by omega))) (fun _ => ?_)
    refine g_iload_n (pc := 10) C dX7_coinsIn_10 rfl ?_
    refine g_aload_n (pc := 11) C dX7_coinsIn_11 rfl ?_
    refine g_getr (pc := 12) C fX7_19 rfl hM.1 dX7_coinsIn_12 rfl (hM.2 5 rfl).1 ?_
    refine g_bipush (pc := 15) C 6 dX7_coinsIn_15 (by decide) ?_
    refine g_iload_n (pc := 17) C dX7_coinsIn_17 rfl ?_
    refine g_imul (pc := 18) C dX7_coinsIn_18 ?_
    refine g_eqi (nI (6 * i)) (pk_mul 6 i) ?_
    refine g_iload_n (pc := 19) C dX7_coinsIn_19 rfl ?_
    refine g_iadd (pc := 20) C dX7_coinsIn_20 ?_
    refine g_eqi (nI ((6 * i) + w)) (nI_add (6 * i) w) ?_
    refine g_ialdN (pc := 21) C rfl (hM.2 5 rfl).2 (by omega) (by decide) dX7_coinsIn_21 ?_
    refine g_iadd (pc := 22) C dX7_coinsIn_22 ?_
    refine g_istore_n (pc := 23) C dX7_coinsIn_23 (by decide) ?_
    refine g_iincN (pc := 24) C 1 dX7_coinsIn_24 rfl (by decide) (by decide) ?_
    refine g_goto (pc := 27) C 4 dX7_coinsIn_27 (by decide) ?_
    exact g_subR (ih (w + 1) (by omega)) ⟨rfl, rfl, rfl, rfl, trivial⟩
set_option maxHeartbeats 4000000 in
set_option maxRecDepth 100000 in
/-- coinsIn(i) -/
theorem c_coinsIn (l : Launch) (E : En) (base aw : Nat) (S : Mm) (i : Nat) (hM : ShM S) (hi : i < 6) : Cn l E base aw yX7_coinsIn cX7_coinsIn 4 (some Jvm.ClassFile.FieldType.int) 0 0 0 noF S [vr (2, 0, 0), vi (nI i)] (fun r S' => r = some (vi (csum (fun w => S.1 (2, 0, 5) (6 * i + w)) 6)) ∧ S' = S) := by
  refine Cn.of (by decide) (Nat.le_of_ble_eq_true rfl) ?_
  intro X Y hl hE hbase haw hfr C B
  subst hl; subst hE; subst hbase; subst haw
  refine g_iconst (pc := 0) C 0 dX7_coinsIn_0 (by decide) ?_
  refine g_istore_n (pc := 1) C dX7_coinsIn_1 (by decide) ?_
  refine g_iconst (pc := 2) C 0 dX7_coinsIn_2 (by decide) ?_
  refine g_istore_n (pc := 3) C dX7_coinsIn_3 (by decide) ?_
  refine g_subR (lp_coinsIn C B hM hi ?_ 6 0 rfl) ⟨rfl, rfl, rfl, rfl, trivial⟩
  refine g_iload_n (pc := 30) C dX7_coinsIn_30 rfl ?_
  exact g_iret (pc := 31) C B rfl dX7_coinsIn_31 (⟨rfl, rfl⟩)

set_option maxHeartbeats 4000000 in
set_option maxRecDepth 100000 in
theorem lp_allBack {X : Xt} {Y : Yt} {P : Option AV → Mm → Prop} {nm : String}  (C : Cx X Y cX7_allBack 4 RX7) (B : Bx X Y nm (some Jvm.ClassFile.FieldType.int) 2 0 0 P) {S : Mm} {i : Nat} {x2 : Int32} (hM0 : ShM S) (hi : i < 6) (K : G X Y 0 0 (abM S i 6) 61 [(0, vr (2, 0, 0)), (1, vi (nI i)), (2, vi (x2)), (3, vi (nI 6))] []) : ∀ n w, w + n = 6 → G X Y 0 0 (abM S i w) 12 [(0, vr (2, 0, 0)), (1, vi (nI i)), (2, vi (x2)), (3, vi (nI w))] [] := by
  intro n
  induction n with
  | zero =>
    intro w hw
    have e : 6 = w := by omega
    subst e
    have hM : ShM (abM S i 6) := hM0.same (abM_2 S i 6)
    refine g_iload_n (pc := 12) C dX7_allBack_12 rfl ?_
    refine g_bipush (pc := 13) C 6 dX7_allBack_13 (by decide) ?_
    refine g_icmp_ge (pc := 15) C 61 dX7_allBack_15 (by decide) (fun _ => ?_) (fun h15 => absurd ((nI_leI (a := 6) (b := 6) (by omega) (by omega)).mpr (by omega)) h15)
    exact K
  | succ n ih =>
    intro w hw
    have hM : ShM (abM S i w) := hM0.same (abM_2 S i w)
    refine g_iload_n (pc := 12) C dX7_allBack_12 rfl ?_
    refine g_bipush (pc := 13) C 6 dX7_allBack_13 (by decide) ?_
    refine g_icmp_ge (pc := 15) C 61 dX7_allBack_15 (by decide) (fun h15 => absurd h15 (fun q => absurd ((nI_leI (a := 6) (b := w) (by omega) (by omega)).mp q) (by omega))) (fun _ => ?_)
    refine g_aload_n (pc := 18) C dX7_allBack_18 rfl ?_
    refine g_getr (pc := 19) C fX7_25 rfl hM.1 dX7_allBack_19 rfl (hM.2 7 rfl).1 ?_
    refine g_bipush (pc := 22) C 6 dX7_allBack_22 (by decide) ?_
    refine g_iload_n (pc := 24) C dX7_allBack_24 rfl ?_
    refine g_imul (pc := 25) C dX7_allBack_25 ?_
    refine g_eqi (nI (6 * i)) (pk_mul 6 i) ?_
    refine g_iload_n (pc := 26) C dX7_allBack_26 rfl ?_
    refine g_iadd (pc := 27) C dX7_allBack_27 ?_
    refine g_eqi (nI ((6 * i) + w)) (nI_add (6 * i) w) ?_
    refine g_dup2 (pc := 28) C dX7_allBack_28 ?_
    refine g_ialdN (pc := 29) C rfl (hM.2 7 rfl).2 (by omega) (by decide) dX7_allBack_29 ?_
    refine g_aload_n (pc := 30) C dX7_allBack_30 rfl ?_
    refine g_getr (pc := 31) C fX7_19 rfl hM.1 dX7_allBack_31 rfl (hM.2 5 rfl).1 ?_
    refine g_bipush (pc := 34) C 6 dX7_allBack_34 (by decide) ?_
    refine g_iload_n (pc := 36) C dX7_allBack_36 rfl ?_
    refine g_imul (pc := 37) C dX7_allBack_37 ?_
    refine g_eqi (nI (6 * i)) (pk_mul 6 i) ?_
    refine g_iload_n (pc := 38) C dX7_allBack_38 rfl ?_
    refine g_iadd (pc := 39) C dX7_allBack_39 ?_
    refine g_eqi (nI ((6 * i) + w)) (nI_add (6 * i) w) ?_
    refine g_ialdN (pc := 40) C rfl (hM.2 5 rfl).2 (by omega) (by decide) dX7_allBack_40 ?_
    refine g_iadd (pc := 41) C dX7_allBack_41 ?_
    refine g_iastN (pc := 42) C rfl (hM.2 7 rfl).2 (by omega) (by decide) dX7_allBack_42 ?_
    refine g_aload_n (pc := 43) C dX7_allBack_43 rfl ?_
    refine g_getr (pc := 44) C fX7_19 rfl hM.1 dX7_allBack_44 rfl (hM.2 5 rfl).1 ?_
    refine g_bipush (pc := 47) C 6 dX7_allBack_47 (by decide) ?_
    refine g_iload_n (pc := 49) C dX7_allBack_49 rfl ?_
    refine g_imul (pc := 50) C dX7_allBack_50 ?_
    refine g_eqi (nI (6 * i)) (pk_mul 6 i) ?_
    refine g_iload_n (pc := 51) C dX7_allBack_51 rfl ?_
    refine g_iadd (pc := 52) C dX7_allBack_52 ?_
    refine g_eqi (nI ((6 * i) + w)) (nI_add (6 * i) w) ?_
    refine g_iconst (pc := 53) C 0 dX7_allBack_53 (by decide) ?_
    refine g_iastN (pc := 54) C rfl (hM.2 5 rfl).2 (by omega) (by decide) dX7_allBack_54 ?_
    refine g_iincN (pc := 55) C 1 dX7_allBack_55 rfl (by decide) (by decide) ?_
    refine g_goto (pc := 58) C 12 dX7_allBack_58 (by decide) ?_
    exact g_subR (ih (w + 1) (by omega)) ⟨rfl, rfl, rfl, rfl, trivial⟩
set_option maxHeartbeats 4000000 in
set_option maxRecDepth 100000 in
/-- allBack(i) -/
theorem c_allBack (l : Launch) (E : En) (base aw : Nat) (S : Mm) (i : Nat) (hM : ShM S) (hi : i < 6) : Cn l E base aw yX7_allBack cX7_allBack 4 (some Jvm.ClassFile.FieldType.int) 2 0 0 noF S [vr (2, 0, 0), vi (nI i)] (fun r S' => r = some (vi (wsum (fun w => S.1 (2, 0, 5) (6 * i + w)) 6)) ∧ S' = abM S i 6) := by
  refine Cn.of (by decide) (Nat.le_of_ble_eq_true rfl) ?_
  intro X Y hl hE hbase haw hfr C B
  subst hl; subst hE; subst hbase; subst haw
  refine g_aload_n (pc := 0) C dX7_allBack_0 rfl ?_
  refine g_aload_n (pc := 1) C dX7_allBack_1 rfl ?_
  refine g_getr (pc := 2) C fX7_19 rfl hM.1 dX7_allBack_2 rfl (hM.2 5 rfl).1 ?_
  refine g_iload_n (pc := 5) C dX7_allBack_5 rfl ?_
  refine g_callV (pc := 6) C B mX7_136 (c_worthIn _ _ _ _ _ i 5 (by omega) (hM.2 5 rfl).2 rfl) rfl rfl rfl rfl hM.1 (by decide) ⟨Nat.le_refl _, Nat.le_refl _⟩ (Nat.le_of_ble_eq_true rfl) dX7_allBack_6 (fun r S' hP => ?_)
  rw [hP.1, hP.2]
  refine g_istore_n (pc := 9) C dX7_allBack_9 (by decide) ?_
  refine g_iconst (pc := 10) C 0 dX7_allBack_10 (by decide) ?_
  refine g_istore_n (pc := 11) C dX7_allBack_11 (by decide) ?_
  refine g_subR (lp_allBack C B hM hi ?_ 6 0 rfl) ⟨rfl, rfl, rfl, rfl, trivial⟩
  refine g_iload_n (pc := 61) C dX7_allBack_61 rfl ?_
  exact g_iret (pc := 62) C B rfl dX7_allBack_62 (⟨rfl, rfl⟩)

set_option maxHeartbeats 4000000 in
set_option maxRecDepth 100000 in
/-- insert of no machine or worth -/
theorem c_X7_insert_b (l : Launch) (E : En) (base aw : Nat) (S : Mm) (mc : Nat) (lc : Nat → Nat) (hI : IM S mc lc) (p0 p1 : Int32) (h : ¬ (okN mc p0 ∧ okN 6 p1)) : Cn l E base aw yX7_insert cX7_insert 3 (some Jvm.ClassFile.FieldType.int) 2 0 0 noF S [vr (2, 0, 0), vi p0, vi p1] (fun r S' => r = some (vi (-1)) ∧ S' = rfM S 1) := by
  have hM := hI.1
  have hmc := hI.2.2.1
  by_cases hm0 : okN mc p0
  ·
    obtain ⟨i, hi, rfl⟩ := hm0
    have hx : ¬ okN 6 p1 := fun q => h ⟨⟨i, hi, rfl⟩, q⟩
    refine Cn.of (by decide) (Nat.le_of_ble_eq_true rfl) ?_
    intro X Y hl hE hbase haw hfr C B
    subst hl; subst hE; subst hbase; subst haw
    refine g_aload_n (pc := 0) C dX7_insert_0 rfl ?_
    refine g_iload_n (pc := 1) C dX7_insert_1 rfl ?_
    refine g_callV (pc := 2) C B mX7_112 (c_isM_t _ _ _ _ _ mc lc hI i hi) rfl rfl rfl rfl hM.1 (by decide) ⟨Nat.le_refl _, Nat.le_refl _⟩ (Nat.le_of_ble_eq_true rfl) dX7_insert_2 (fun r S' hP => ?_)
    rw [hP.1, hP.2]
    refine g_if_eq (pc := 5) C 17 dX7_insert_5 (by decide) (fun h5 => absurd h5 (by decide)) (fun _ => ?_)
    refine g_iload_n (pc := 8) C dX7_insert_8 rfl ?_
    refine g_iconst (pc := 9) C 0 dX7_insert_9 (by decide) ?_
    refine g_iconst (pc := 10) C 5 dX7_insert_10 (by decide) ?_
    refine g_callS (pc := 11) C B mX7_108 (c_in_f _ _ _ _ _ _ _ _ (okW_f (n := 5) (by decide) hx)) rfl rfl (by decide) ⟨Nat.le_refl _, Nat.le_refl _⟩ (Nat.le_of_ble_eq_true rfl) dX7_insert_11 (fun r S' hP => ?_)
    rw [hP.1, hP.2]
    refine g_if_ne (pc := 14) C 23 dX7_insert_14 (by decide) (fun h14 => absurd (by decide) h14) (fun _ => ?_)
    refine g_aload_n (pc := 17) C dX7_insert_17 rfl ?_
    refine g_iconst (pc := 18) C (-1) dX7_insert_18 (by decide) ?_
    refine g_callV (pc := 19) C B mX7_116 (c_mrefuse _ _ _ _ _ hM (-1) 1 (by decide) (by decide)) rfl rfl rfl rfl hM.1 (by decide) ⟨Nat.le_refl _, Nat.le_refl _⟩ (Nat.le_of_ble_eq_true rfl) dX7_insert_19 (fun r S' hP => ?_)
    rw [hP.1, hP.2]
    exact g_iret (pc := 22) C B rfl dX7_insert_22 (⟨rfl, rfl⟩)
  ·
    have hx := hm0
    refine Cn.of (by decide) (Nat.le_of_ble_eq_true rfl) ?_
    intro X Y hl hE hbase haw hfr C B
    subst hl; subst hE; subst hbase; subst haw
    refine g_aload_n (pc := 0) C dX7_insert_0 rfl ?_
    refine g_iload_n (pc := 1) C dX7_insert_1 rfl ?_
    refine g_callV (pc := 2) C B mX7_112 (c_isM_f _ _ _ _ _ mc lc hI p0 hx) rfl rfl rfl rfl hM.1 (by decide) ⟨Nat.le_refl _, Nat.le_refl _⟩ (Nat.le_of_ble_eq_true rfl) dX7_insert_2 (fun r S' hP => ?_)
    rw [hP.1, hP.2]
    refine g_if_eq (pc := 5) C 17 dX7_insert_5 (by decide) (fun _ => ?_) (fun h5 => absurd (by decide) h5)
    refine g_aload_n (pc := 17) C dX7_insert_17 rfl ?_
    refine g_iconst (pc := 18) C (-1) dX7_insert_18 (by decide) ?_
    refine g_callV (pc := 19) C B mX7_116 (c_mrefuse _ _ _ _ _ hM (-1) 1 (by decide) (by decide)) rfl rfl rfl rfl hM.1 (by decide) ⟨Nat.le_refl _, Nat.le_refl _⟩ (Nat.le_of_ble_eq_true rfl) dX7_insert_19 (fun r S' hP => ?_)
    rw [hP.1, hP.2]
    exact g_iret (pc := 22) C B rfl dX7_insert_22 (⟨rfl, rfl⟩)

def t_X7_insert (S : Mm) (i : Nat) (w : Nat) : Option AV × Mm := if (csum (fun z => S.1 (2, 0, 5) (6 * i + z)) 6) = 20 then (some (vi ((-6))), rfM S 6) else (some (vi (wsum (fun z => (wI (wI S (2, 0, 5) ((6 * i) + w) ((S.1 (2, 0, 5) ((6 * i) + w)) + 1)) (2, 0, 6) ((6 * i) + w) (((wI S (2, 0, 5) ((6 * i) + w) ((S.1 (2, 0, 5) ((6 * i) + w)) + 1)).1 (2, 0, 6) ((6 * i) + w)) + 1)).1 (2, 0, 5) (6 * i + z)) 6)), wI (wI S (2, 0, 5) ((6 * i) + w) ((S.1 (2, 0, 5) ((6 * i) + w)) + 1)) (2, 0, 6) ((6 * i) + w) (((wI S (2, 0, 5) ((6 * i) + w) ((S.1 (2, 0, 5) ((6 * i) + w)) + 1)).1 (2, 0, 6) ((6 * i) + w)) + 1))
set_option maxHeartbeats 4000000 in
set_option maxRecDepth 100000 in
/-- insert(i, w) -/
theorem c_X7_insert (l : Launch) (E : En) (base aw : Nat) (S : Mm) (mc : Nat) (lc : Nat → Nat) (hI : IM S mc lc) (i : Nat) (hi : i < mc) (w : Nat) (hw : w < 6) : Cn l E base aw yX7_insert cX7_insert 3 (some Jvm.ClassFile.FieldType.int) 2 0 0 noF S [vr (2, 0, 0), vi (nI i), vi (nI w)] (fun r S' => (r, S') = t_X7_insert S i w) := by
  have hM := hI.1
  have hmc := hI.2.2.1
  refine Cn.of (by decide) (Nat.le_of_ble_eq_true rfl) ?_
  intro X Y hl hE hbase haw hfr C B
  subst hl; subst hE; subst hbase; subst haw
  refine g_aload_n (pc := 0) C dX7_insert_0 rfl ?_
  refine g_iload_n (pc := 1) C dX7_insert_1 rfl ?_
  refine g_callV (pc := 2) C B mX7_112 (c_isM_t _ _ _ _ _ mc lc hI i hi) rfl rfl rfl rfl hM.1 (by decide) ⟨Nat.le_refl _, Nat.le_refl _⟩ (Nat.le_of_ble_eq_true rfl) dX7_insert_2 (fun r S' hP => ?_)
  rw [hP.1, hP.2]
  refine g_if_eq (pc := 5) C 17 dX7_insert_5 (by decide) (fun h5 => absurd h5 (by decide)) (fun _ => ?_)
  refine g_iload_n (pc := 8) C dX7_insert_8 rfl ?_
  refine g_iconst (pc := 9) C 0 dX7_insert_9 (by decide) ?_
  refine g_iconst (pc := 10) C 5 dX7_insert_10 (by decide) ?_
  refine g_callS (pc := 11) C B mX7_108 (c_in_t _ _ _ _ _ _ _ _ (okW_t (n := 5) (by omega) (by decide))) rfl rfl (by decide) ⟨Nat.le_refl _, Nat.le_refl _⟩ (Nat.le_of_ble_eq_true rfl) dX7_insert_11 (fun r S' hP => ?_)
  rw [hP.1, hP.2]
  refine g_if_ne (pc := 14) C 23 dX7_insert_14 (by decide) (fun _ => ?_) (fun h14 => absurd h14 (by decide))
  refine g_aload_n (pc := 23) C dX7_insert_23 rfl ?_
  refine g_iload_n (pc := 24) C dX7_insert_24 rfl ?_
  refine g_callV (pc := 25) C B mX7_133 (c_coinsIn _ _ _ _ _ i hM (by omega)) rfl rfl rfl rfl hM.1 (by decide) ⟨Nat.le_refl _, Nat.le_refl _⟩ (Nat.le_of_ble_eq_true rfl) dX7_insert_25 (fun r S' hP => ?_)
  rw [hP.1, hP.2]
  refine g_bipush (pc := 28) C 20 dX7_insert_28 (by decide) ?_
  refine g_icmp_ne (pc := 30) C 40 dX7_insert_30 (by decide) (fun h30 => ?_) (fun h30 => ?_)
  ·
    refine g_aload_n (pc := 40) C dX7_insert_40 rfl ?_
    refine g_getr (pc := 41) C fX7_19 rfl hM.1 dX7_insert_41 rfl (hM.2 5 rfl).1 ?_
    refine g_bipush (pc := 44) C 6 dX7_insert_44 (by decide) ?_
    refine g_iload_n (pc := 46) C dX7_insert_46 rfl ?_
    refine g_imul (pc := 47) C dX7_insert_47 ?_
    refine g_eqi (nI (6 * i)) (pk_mul 6 i) ?_
    refine g_iload_n (pc := 48) C dX7_insert_48 rfl ?_
    refine g_iadd (pc := 49) C dX7_insert_49 ?_
    refine g_eqi (nI ((6 * i) + w)) (nI_add (6 * i) w) ?_
    refine g_dup2 (pc := 50) C dX7_insert_50 ?_
    refine g_ialdN (pc := 51) C rfl (hM.2 5 rfl).2 (by omega) (by decide) dX7_insert_51 ?_
    refine g_iconst (pc := 52) C 1 dX7_insert_52 (by decide) ?_
    refine g_iadd (pc := 53) C dX7_insert_53 ?_
    refine g_iastN (pc := 54) C rfl (hM.2 5 rfl).2 (by omega) (by decide) dX7_insert_54 ?_
    refine g_aload_n (pc := 55) C dX7_insert_55 rfl ?_
    refine g_getr (pc := 56) C fX7_22 rfl hM.1 dX7_insert_56 rfl (hM.2 6 rfl).1 ?_
    refine g_bipush (pc := 59) C 6 dX7_insert_59 (by decide) ?_
    refine g_iload_n (pc := 61) C dX7_insert_61 rfl ?_
    refine g_imul (pc := 62) C dX7_insert_62 ?_
    refine g_eqi (nI (6 * i)) (pk_mul 6 i) ?_
    refine g_iload_n (pc := 63) C dX7_insert_63 rfl ?_
    refine g_iadd (pc := 64) C dX7_insert_64 ?_
    refine g_eqi (nI ((6 * i) + w)) (nI_add (6 * i) w) ?_
    refine g_dup2 (pc := 65) C dX7_insert_65 ?_
    refine g_ialdN (pc := 66) C rfl (hM.2 6 rfl).2 (by omega) (by decide) dX7_insert_66 ?_
    refine g_iconst (pc := 67) C 1 dX7_insert_67 (by decide) ?_
    refine g_iadd (pc := 68) C dX7_insert_68 ?_
    refine g_iastN (pc := 69) C rfl (hM.2 6 rfl).2 (by omega) (by decide) dX7_insert_69 ?_
    refine g_aload_n (pc := 70) C dX7_insert_70 rfl ?_
    refine g_aload_n (pc := 71) C dX7_insert_71 rfl ?_
    refine g_getr (pc := 72) C fX7_19 rfl hM.1 dX7_insert_72 rfl (hM.2 5 rfl).1 ?_
    refine g_iload_n (pc := 75) C dX7_insert_75 rfl ?_
    refine g_callV (pc := 76) C B mX7_136 (c_worthIn _ _ _ _ _ i 5 (by omega) (hM.2 5 rfl).2 rfl) rfl rfl rfl rfl hM.1 (by decide) ⟨Nat.le_refl _, Nat.le_refl _⟩ (Nat.le_of_ble_eq_true rfl) dX7_insert_76 (fun r S' hP => ?_)
    rw [hP.1, hP.2]
    exact g_iret (pc := 79) C B rfl dX7_insert_79 (by show (_, _) = t_X7_insert S i w; unfold t_X7_insert; rw [if_neg h30])
  ·
    refine g_aload_n (pc := 33) C dX7_insert_33 rfl ?_
    refine g_bipush (pc := 34) C (-6) dX7_insert_34 (by decide) ?_
    refine g_callV (pc := 36) C B mX7_116 (c_mrefuse _ _ _ _ _ hM (-6) 6 (by decide) (by decide)) rfl rfl rfl rfl hM.1 (by decide) ⟨Nat.le_refl _, Nat.le_refl _⟩ (Nat.le_of_ble_eq_true rfl) dX7_insert_36 (fun r S' hP => ?_)
    rw [hP.1, hP.2]
    exact g_iret (pc := 39) C B rfl dX7_insert_39 (by show (_, _) = t_X7_insert S i w; unfold t_X7_insert; rw [if_pos h30])

set_option maxHeartbeats 4000000 in
set_option maxRecDepth 100000 in
/-- back of no machine -/
theorem c_X7_back_b (l : Launch) (E : En) (base aw : Nat) (S : Mm) (mc : Nat) (lc : Nat → Nat) (hI : IM S mc lc) (p0 : Int32) (h : ¬ (okN mc p0)) : Cn l E base aw yX7_back cX7_back 2 (some Jvm.ClassFile.FieldType.int) 3 0 0 noF S [vr (2, 0, 0), vi p0] (fun r S' => r = some (vi (-1)) ∧ S' = rfM S 1) := by
  have hM := hI.1
  have hmc := hI.2.2.1
  have hx : ¬ okN mc p0 := fun q => h q
  refine Cn.of (by decide) (Nat.le_of_ble_eq_true rfl) ?_
  intro X Y hl hE hbase haw hfr C B
  subst hl; subst hE; subst hbase; subst haw
  refine g_aload_n (pc := 0) C dX7_back_0 rfl ?_
  refine g_iload_n (pc := 1) C dX7_back_1 rfl ?_
  refine g_callV (pc := 2) C B mX7_112 (c_isM_f _ _ _ _ _ mc lc hI p0 hx) rfl rfl rfl rfl hM.1 (by decide) ⟨Nat.le_refl _, Nat.le_refl _⟩ (Nat.le_of_ble_eq_true rfl) dX7_back_2 (fun r S' hP => ?_)
  rw [hP.1, hP.2]
  refine g_if_eq (pc := 5) C 16 dX7_back_5 (by decide) (fun _ => ?_) (fun h5 => absurd (by decide) h5)
  refine g_aload_n (pc := 16) C dX7_back_16 rfl ?_
  refine g_iconst (pc := 17) C (-1) dX7_back_17 (by decide) ?_
  refine g_callV (pc := 18) C B mX7_116 (c_mrefuse _ _ _ _ _ hM (-1) 1 (by decide) (by decide)) rfl rfl rfl rfl hM.1 (by decide) ⟨Nat.le_refl _, Nat.le_refl _⟩ (Nat.le_of_ble_eq_true rfl) dX7_back_18 (fun r S' hP => ?_)
  rw [hP.1, hP.2]
  exact g_iret (pc := 21) C B rfl dX7_back_21 (⟨rfl, rfl⟩)

def t_X7_back (S : Mm) (i : Nat) : Option AV × Mm := (some (vi (wsum (fun z => S.1 (2, 0, 5) (6 * i + z)) 6)), abM S i 6)
set_option maxHeartbeats 4000000 in
set_option maxRecDepth 100000 in
/-- back(i) -/
theorem c_X7_back (l : Launch) (E : En) (base aw : Nat) (S : Mm) (mc : Nat) (lc : Nat → Nat) (hI : IM S mc lc) (i : Nat) (hi : i < mc) : Cn l E base aw yX7_back cX7_back 2 (some Jvm.ClassFile.FieldType.int) 3 0 0 noF S [vr (2, 0, 0), vi (nI i)] (fun r S' => (r, S') = t_X7_back S i) := by
  have hM := hI.1
  have hmc := hI.2.2.1
  refine Cn.of (by decide) (Nat.le_of_ble_eq_true rfl) ?_
  intro X Y hl hE hbase haw hfr C B
  subst hl; subst hE; subst hbase; subst haw
  refine g_aload_n (pc := 0) C dX7_back_0 rfl ?_
  refine g_iload_n (pc := 1) C dX7_back_1 rfl ?_
  refine g_callV (pc := 2) C B mX7_112 (c_isM_t _ _ _ _ _ mc lc hI i hi) rfl rfl rfl rfl hM.1 (by decide) ⟨Nat.le_refl _, Nat.le_refl _⟩ (Nat.le_of_ble_eq_true rfl) dX7_back_2 (fun r S' hP => ?_)
  rw [hP.1, hP.2]
  refine g_if_eq (pc := 5) C 16 dX7_back_5 (by decide) (fun h5 => absurd h5 (by decide)) (fun _ => ?_)
  refine g_aload_n (pc := 8) C dX7_back_8 rfl ?_
  refine g_iload_n (pc := 9) C dX7_back_9 rfl ?_
  refine g_callV (pc := 10) C B mX7_140 (c_allBack _ _ _ _ _ i hM (by omega)) rfl rfl rfl rfl hM.1 (by decide) ⟨Nat.le_refl _, Nat.le_refl _⟩ (Nat.le_of_ble_eq_true rfl) dX7_back_10 (fun r S' hP => ?_)
  rw [hP.1, hP.2]
  refine g_goto (pc := 13) C 21 dX7_back_13 (by decide) ?_
  exact g_iret (pc := 21) C B rfl dX7_back_21 (by show (_, _) = t_X7_back S i; unfold t_X7_back; rfl)

set_option maxHeartbeats 4000000 in
set_option maxRecDepth 100000 in
/-- collect of no machine -/
theorem c_X7_collect_b (l : Launch) (E : En) (base aw : Nat) (S : Mm) (mc : Nat) (lc : Nat → Nat) (hI : IM S mc lc) (p0 : Int32) (h : ¬ (okN mc p0)) : Cn l E base aw yX7_collect cX7_collect 4 (some Jvm.ClassFile.FieldType.int) 2 0 0 noF S [vr (2, 0, 0), vi p0] (fun r S' => r = some (vi (-1)) ∧ S' = rfM S 1) := by
  have hM := hI.1
  have hmc := hI.2.2.1
  have hx : ¬ okN mc p0 := fun q => h q
  refine Cn.of (by decide) (Nat.le_of_ble_eq_true rfl) ?_
  intro X Y hl hE hbase haw hfr C B
  subst hl; subst hE; subst hbase; subst haw
  refine g_aload_n (pc := 0) C dX7_collect_0 rfl ?_
  refine g_iload_n (pc := 1) C dX7_collect_1 rfl ?_
  refine g_callV (pc := 2) C B mX7_112 (c_isM_f _ _ _ _ _ mc lc hI p0 hx) rfl rfl rfl rfl hM.1 (by decide) ⟨Nat.le_refl _, Nat.le_refl _⟩ (Nat.le_of_ble_eq_true rfl) dX7_collect_2 (fun r S' hP => ?_)
  rw [hP.1, hP.2]
  refine g_if_ne (pc := 5) C 14 dX7_collect_5 (by decide) (fun h5 => absurd (by decide) h5) (fun _ => ?_)
  refine g_aload_n (pc := 8) C dX7_collect_8 rfl ?_
  refine g_iconst (pc := 9) C (-1) dX7_collect_9 (by decide) ?_
  refine g_callV (pc := 10) C B mX7_116 (c_mrefuse _ _ _ _ _ hM (-1) 1 (by decide) (by decide)) rfl rfl rfl rfl hM.1 (by decide) ⟨Nat.le_refl _, Nat.le_refl _⟩ (Nat.le_of_ble_eq_true rfl) dX7_collect_10 (fun r S' hP => ?_)
  rw [hP.1, hP.2]
  exact g_iret (pc := 13) C B rfl dX7_collect_13 (⟨rfl, rfl⟩)

set_option maxHeartbeats 4000000 in
set_option maxRecDepth 100000 in
theorem lp_collect {X : Xt} {Y : Yt} {P : Option AV → Mm → Prop} {nm : String}  (C : Cx X Y cX7_collect 4 RX7) (B : Bx X Y nm (some Jvm.ClassFile.FieldType.int) 2 0 0 P) {S : Mm} {i : Nat} {x2 : Int32} (hM0 : ShM S) (hi : i < 6) (K : G X Y 0 0 (coM S i 6) 68 [(0, vr (2, 0, 0)), (1, vi (nI i)), (2, vi (x2)), (3, vi (nI (6 * i + 6)))] []) : ∀ n w, w + n = 6 → G X Y 0 0 (coM S i w) 29 [(0, vr (2, 0, 0)), (1, vi (nI i)), (2, vi (x2)), (3, vi (nI (6 * i + w)))] [] := by
  intro n
  induction n with
  | zero =>
    intro w hw
    have e : 6 = w := by omega
    subst e
    have hM : ShM (coM S i 6) := hM0.same (coM_2 S i 6)
    refine g_iload_n (pc := 29) C dX7_collect_29 rfl ?_
    refine g_bipush (pc := 30) C 6 dX7_collect_30 (by decide) ?_
    refine g_iload_n (pc := 32) C dX7_collect_32 rfl ?_
    refine g_imul (pc := 33) C dX7_collect_33 ?_
    refine g_eqi (nI (6 * i)) (pk_mul 6 i) ?_
    refine g_bipush (pc := 34) C 6 dX7_collect_34 (by decide) ?_
    refine g_iadd (pc := 36) C dX7_collect_36 ?_
    refine g_eqi (nI ((6 * i) + 6)) (nI_add (6 * i) 6) ?_
    refine g_icmp_ge (pc := 37) C 68 dX7_collect_37 (by decide) (fun _ => ?_) (fun h37 => absurd ((nI_leI (a := 6 * i + 6) (b := 6 * i + 6) (by omega) (by omega)).mpr (by omega)) h37)
    exact K
  | succ n ih =>
    intro w hw
    have hM : ShM (coM S i w) := hM0.same (coM_2 S i w)
    refine g_iload_n (pc := 29) C dX7_collect_29 rfl ?_
    refine g_bipush (pc := 30) C 6 dX7_collect_30 (by decide) ?_
    refine g_iload_n (pc := 32) C dX7_collect_32 rfl ?_
    refine g_imul (pc := 33) C dX7_collect_33 ?_
    refine g_eqi (nI (6 * i)) (pk_mul 6 i) ?_
    refine g_bipush (pc := 34) C 6 dX7_collect_34 (by decide) ?_
    refine g_iadd (pc := 36) C dX7_collect_36 ?_
    refine g_eqi (nI ((6 * i) + 6)) (nI_add (6 * i) 6) ?_
    refine g_icmp_ge (pc := 37) C 68 dX7_collect_37 (by decide) (fun h37 => absurd h37 (fun q => absurd ((nI_leI (a := 6 * i + 6) (b := 6 * i + w) (by omega) (by omega)).mp q) (by omega))) (fun _ => ?_)
    refine g_aload_n (pc := 40) C dX7_collect_40 rfl ?_
    refine g_getr (pc := 41) C fX7_25 rfl hM.1 dX7_collect_41 rfl (hM.2 7 rfl).1 ?_
    refine g_iload_n (pc := 44) C dX7_collect_44 rfl ?_
    refine g_dup2 (pc := 45) C dX7_collect_45 ?_
    refine g_ialdN (pc := 46) C rfl (hM.2 7 rfl).2 (by omega) (by decide) dX7_collect_46 ?_
    refine g_aload_n (pc := 47) C dX7_collect_47 rfl ?_
    refine g_getr (pc := 48) C fX7_16 rfl hM.1 dX7_collect_48 rfl (hM.2 4 rfl).1 ?_
    refine g_iload_n (pc := 51) C dX7_collect_51 rfl ?_
    refine g_ialdN (pc := 52) C rfl (hM.2 4 rfl).2 (by omega) (by decide) dX7_collect_52 ?_
    refine g_iadd (pc := 53) C dX7_collect_53 ?_
    refine g_iastN (pc := 54) C rfl (hM.2 7 rfl).2 (by omega) (by decide) dX7_collect_54 ?_
    refine g_aload_n (pc := 55) C dX7_collect_55 rfl ?_
    refine g_getr (pc := 56) C fX7_16 rfl hM.1 dX7_collect_56 rfl (hM.2 4 rfl).1 ?_
    refine g_iload_n (pc := 59) C dX7_collect_59 rfl ?_
    refine g_iconst (pc := 60) C 0 dX7_collect_60 (by decide) ?_
    refine g_iastN (pc := 61) C rfl (hM.2 4 rfl).2 (by omega) (by decide) dX7_collect_61 ?_
    refine g_iincN (pc := 62) C 1 dX7_collect_62 rfl (by decide) (by decide) ?_
    refine g_goto (pc := 65) C 29 dX7_collect_65 (by decide) ?_
    exact g_subR (ih (w + 1) (by omega)) ⟨rfl, rfl, rfl, rfl, trivial⟩
def t_X7_collect (S : Mm) (i : Nat) : Option AV × Mm := (some (vi (wsum (fun z => S.1 (2, 0, 4) (6 * i + z)) 6)), coM S i 6)
set_option maxHeartbeats 4000000 in
set_option maxRecDepth 100000 in
/-- collect(i) -/
theorem c_X7_collect (l : Launch) (E : En) (base aw : Nat) (S : Mm) (mc : Nat) (lc : Nat → Nat) (hI : IM S mc lc) (i : Nat) (hi : i < mc) : Cn l E base aw yX7_collect cX7_collect 4 (some Jvm.ClassFile.FieldType.int) 2 0 0 noF S [vr (2, 0, 0), vi (nI i)] (fun r S' => (r, S') = t_X7_collect S i) := by
  have hM := hI.1
  have hmc := hI.2.2.1
  refine Cn.of (by decide) (Nat.le_of_ble_eq_true rfl) ?_
  intro X Y hl hE hbase haw hfr C B
  subst hl; subst hE; subst hbase; subst haw
  refine g_aload_n (pc := 0) C dX7_collect_0 rfl ?_
  refine g_iload_n (pc := 1) C dX7_collect_1 rfl ?_
  refine g_callV (pc := 2) C B mX7_112 (c_isM_t _ _ _ _ _ mc lc hI i hi) rfl rfl rfl rfl hM.1 (by decide) ⟨Nat.le_refl _, Nat.le_refl _⟩ (Nat.le_of_ble_eq_true rfl) dX7_collect_2 (fun r S' hP => ?_)
  rw [hP.1, hP.2]
  refine g_if_ne (pc := 5) C 14 dX7_collect_5 (by decide) (fun _ => ?_) (fun h5 => absurd h5 (by decide))
  refine g_aload_n (pc := 14) C dX7_collect_14 rfl ?_
  refine g_aload_n (pc := 15) C dX7_collect_15 rfl ?_
  refine g_getr (pc := 16) C fX7_16 rfl hM.1 dX7_collect_16 rfl (hM.2 4 rfl).1 ?_
  refine g_iload_n (pc := 19) C dX7_collect_19 rfl ?_
  refine g_callV (pc := 20) C B mX7_136 (c_worthIn _ _ _ _ _ i 4 (by omega) (hM.2 4 rfl).2 rfl) rfl rfl rfl rfl hM.1 (by decide) ⟨Nat.le_refl _, Nat.le_refl _⟩ (Nat.le_of_ble_eq_true rfl) dX7_collect_20 (fun r S' hP => ?_)
  rw [hP.1, hP.2]
  refine g_istore_n (pc := 23) C dX7_collect_23 (by decide) ?_
  refine g_bipush (pc := 24) C 6 dX7_collect_24 (by decide) ?_
  refine g_iload_n (pc := 26) C dX7_collect_26 rfl ?_
  refine g_imul (pc := 27) C dX7_collect_27 ?_
  refine g_eqi (nI (6 * i)) (pk_mul 6 i) ?_
  refine g_istore_n (pc := 28) C dX7_collect_28 (by decide) ?_
  refine g_subR (lp_collect C B hM (by omega) ?_ 6 0 rfl) ⟨rfl, rfl, rfl, rfl, trivial⟩
  refine g_iload_n (pc := 68) C dX7_collect_68 rfl ?_
  exact g_iret (pc := 69) C B rfl dX7_collect_69 (by show (_, _) = t_X7_collect S i; unfold t_X7_collect; rfl)

set_option maxHeartbeats 4000000 in
set_option maxRecDepth 100000 in
theorem c_X7_check_b (l : Launch) (E : En) (base aw : Nat) (S : Mm) (mc : Nat) (lc : Nat → Nat) (hI : IM S mc lc) (p0 : Int32) (hx : ¬ okN mc p0) : Cn l E base aw yX7_check cX7_check 5 (some Jvm.ClassFile.FieldType.boolean) 2 0 0 noF S [vr (2, 0, 0), vi p0] (fun r S' => r = some (vi 0) ∧ S' = S) := by
  have hM := hI.1
  have hmc := hI.2.2.1
  refine Cn.of (by decide) (Nat.le_of_ble_eq_true rfl) ?_
  intro X Y hl hE hbase haw hfr C B
  subst hl; subst hE; subst hbase; subst haw
  refine g_aload_n (pc := 0) C dX7_check_0 rfl ?_
  refine g_iload_n (pc := 1) C dX7_check_1 rfl ?_
  refine g_callV (pc := 2) C B mX7_112 (c_isM_f _ _ _ _ _ mc lc hI p0 hx) rfl rfl rfl rfl hM.1 (by decide) ⟨Nat.le_refl _, Nat.le_refl _⟩ (Nat.le_of_ble_eq_true rfl) dX7_check_2 (fun r S' hP => ?_)
  rw [hP.1, hP.2]
  refine g_if_ne (pc := 5) C 10 dX7_check_5 (by decide) (fun h5 => absurd (by decide) h5) (fun _ => ?_)
  refine g_iconst (pc := 8) C 0 dX7_check_8 (by decide) ?_
  exact g_iret (pc := 9) C B rfl dX7_check_9 (⟨rfl, rfl⟩)

set_option maxHeartbeats 4000000 in
set_option maxRecDepth 100000 in
theorem lp_check1 {X : Xt} {Y : Yt} {P : Option AV → Mm → Prop} {nm : String}  (C : Cx X Y cX7_check 5 RX7) (B : Bx X Y nm (some Jvm.ClassFile.FieldType.boolean) 2 0 0 P) {S : Mm} {i mc : Nat} {lc : Nat → Nat} (hI : IM S mc lc) (hi : i < 6) (K : G X Y 0 0 S 66 [(0, vr (2, 0, 0)), (1, vi (nI i)), (2, vi (gsM S i (lc i))), (3, vi (nI (8 * i + lc i)))] []) : ∀ n w, w + n = lc i → G X Y 0 0 S 36 [(0, vr (2, 0, 0)), (1, vi (nI i)), (2, vi (gsM S i w)), (3, vi (nI (8 * i + w)))] [] := by
  intro n
  induction n with
  | zero =>
    intro w hw
    have e : lc i = w := by omega
    subst e
    have hM := hI.1
    have hlc := (hI.2.2.2 i (by omega)).2
    refine g_iload_n (pc := 36) C dX7_check_36 rfl ?_
    refine g_bipush (pc := 37) C 8 dX7_check_37 (by decide) ?_
    refine g_iload_n (pc := 39) C dX7_check_39 rfl ?_
    refine g_imul (pc := 40) C dX7_check_40 ?_
    refine g_eqi (nI (8 * i)) (pk_mul 8 i) ?_
    refine g_aload_n (pc := 41) C dX7_check_41 rfl ?_
    refine g_getr (pc := 42) C fX7_7 rfl hM.1 dX7_check_42 rfl (hM.2 2 rfl).1 ?_
    refine g_iload_n (pc := 45) C dX7_check_45 rfl ?_
    refine g_ialdN (pc := 46) C rfl (hM.2 2 rfl).2 (by omega) (by decide) dX7_check_46 ?_
    refine g_eqi (nI (lc i)) (hI.2.2.2 i (by omega)).1 ?_
    refine g_iadd (pc := 47) C dX7_check_47 ?_
    refine g_eqi (nI ((8 * i) + (lc i))) (nI_add (8 * i) (lc i)) ?_
    refine g_icmp_ge (pc := 48) C 66 dX7_check_48 (by decide) (fun _ => ?_) (fun h48 => absurd ((nI_leI (a := 8 * i + lc i) (b := 8 * i + lc i) (by omega) (by omega)).mpr (by omega)) h48)
    exact K
  | succ n ih =>
    intro w hw
    have hM := hI.1
    have hlc := (hI.2.2.2 i (by omega)).2
    refine g_iload_n (pc := 36) C dX7_check_36 rfl ?_
    refine g_bipush (pc := 37) C 8 dX7_check_37 (by decide) ?_
    refine g_iload_n (pc := 39) C dX7_check_39 rfl ?_
    refine g_imul (pc := 40) C dX7_check_40 ?_
    refine g_eqi (nI (8 * i)) (pk_mul 8 i) ?_
    refine g_aload_n (pc := 41) C dX7_check_41 rfl ?_
    refine g_getr (pc := 42) C fX7_7 rfl hM.1 dX7_check_42 rfl (hM.2 2 rfl).1 ?_
    refine g_iload_n (pc := 45) C dX7_check_45 rfl ?_
    refine g_ialdN (pc := 46) C rfl (hM.2 2 rfl).2 (by omega) (by decide) dX7_check_46 ?_
    refine g_eqi (nI (lc i)) (hI.2.2.2 i (by omega)).1 ?_
    refine g_iadd (pc := 47) C dX7_check_47 ?_
    refine g_eqi (nI ((8 * i) + (lc i))) (nI_add (8 * i) (lc i)) ?_
    refine g_icmp_ge (pc := 48) C 66 dX7_check_48 (by decide) (fun h48 => absurd h48 (fun q => absurd ((nI_leI (a := 8 * i + lc i) (b := 8 * i + w) (by omega) (by omega)).mp q) (by omega))) (fun _ => ?_)
    refine g_iload_n (pc := 51) C dX7_check_51 rfl ?_
    refine g_aload_n (pc := 52) C dX7_check_52 rfl ?_
    refine g_getr (pc := 53) C fX7_44 rfl hM.1 dX7_check_53 rfl (hM.2 13 rfl).1 ?_
    refine g_iload_n (pc := 56) C dX7_check_56 rfl ?_
    refine g_ialdN (pc := 57) C rfl (hM.2 13 rfl).2 (by omega) (by decide) dX7_check_57 ?_
    refine g_iadd (pc := 58) C dX7_check_58 ?_
    refine g_istore_n (pc := 59) C dX7_check_59 (by decide) ?_
    refine g_iincN (pc := 60) C 1 dX7_check_60 rfl (by decide) (by decide) ?_
    refine g_goto (pc := 63) C 36 dX7_check_63 (by decide) ?_
    exact g_subR (ih (w + 1) (by omega)) ⟨rfl, rfl, rfl, rfl, trivial⟩
set_option maxHeartbeats 4000000 in
set_option maxRecDepth 100000 in
theorem lp_check2 {X : Xt} {Y : Yt} {P : Option AV → Mm → Prop} {nm : String}  (C : Cx X Y cX7_check 5 RX7) (B : Bx X Y nm (some Jvm.ClassFile.FieldType.boolean) 2 0 0 P) {S : Mm} {i : Nat} {b0 : Int32} (hM : ShM S) (hi : i < 6) (K : G X Y 0 0 S 157 [(0, vr (2, 0, 0)), (1, vi (nI i)), (3, vi (ckM S i b0 6)), (4, vi (nI (6 * i + 6)))] []) : ∀ n w, w + n = 6 → G X Y 0 0 S 88 [(0, vr (2, 0, 0)), (1, vi (nI i)), (3, vi (ckM S i b0 w)), (4, vi (nI (6 * i + w)))] [] := by
  intro n
  induction n with
  | zero =>
    intro w hw
    have e : 6 = w := by omega
    subst e
    refine g_iload (pc := 88) C dX7_check_88 rfl ?_
    refine g_bipush (pc := 90) C 6 dX7_check_90 (by decide) ?_
    refine g_iload_n (pc := 92) C dX7_check_92 rfl ?_
    refine g_imul (pc := 93) C dX7_check_93 ?_
    refine g_eqi (nI (6 * i)) (pk_mul 6 i) ?_
    refine g_bipush (pc := 94) C 6 dX7_check_94 (by decide) ?_
    refine g_iadd (pc := 96) C dX7_check_96 ?_
    refine g_eqi (nI ((6 * i) + 6)) (nI_add (6 * i) 6) ?_
    refine g_icmp_ge (pc := 97) C 157 dX7_check_97 (by decide) (fun _ => ?_) (fun h97 => absurd ((nI_leI (a := 6 * i + 6) (b := 6 * i + 6) (by omega) (by omega)).mpr (by omega)) h97)
    exact K
  | succ n ih =>
    intro w hw
    refine g_iload (pc := 88) C dX7_check_88 rfl ?_
    refine g_bipush (pc := 90) C 6 dX7_check_90 (by decide) ?_
    refine g_iload_n (pc := 92) C dX7_check_92 rfl ?_
    refine g_imul (pc := 93) C dX7_check_93 ?_
    refine g_eqi (nI (6 * i)) (pk_mul 6 i) ?_
    refine g_bipush (pc := 94) C 6 dX7_check_94 (by decide) ?_
    refine g_iadd (pc := 96) C dX7_check_96 ?_
    refine g_eqi (nI ((6 * i) + 6)) (nI_add (6 * i) 6) ?_
    refine g_icmp_ge (pc := 97) C 157 dX7_check_97 (by decide) (fun h97 => absurd h97 (fun q => absurd ((nI_leI (a := 6 * i + 6) (b := 6 * i + w) (by omega) (by omega)).mp q) (by omega))) (fun _ => ?_)
    refine g_iload_n (pc := 100) C dX7_check_100 rfl ?_
    refine g_if_eq (pc := 101) C 149 dX7_check_101 (by decide) (fun h101 => ?_) (fun h101 => ?_)
    ·
      refine g_iconst (pc := 149) C 0 dX7_check_149 (by decide) ?_
      refine g_istore_n (pc := 150) C dX7_check_150 (by decide) ?_
      refine g_iincN (pc := 151) C 1 dX7_check_151 rfl (by decide) (by decide) ?_
      refine g_goto (pc := 154) C 88 dX7_check_154 (by decide) ?_
      exact g_subR (ih (w + 1) (by omega)) ⟨rfl, rfl, by show some (vi 0) = some (vi _); simp only [ckM]; rw [if_pos h101], rfl, trivial⟩
    ·
      refine g_aload_n (pc := 104) C dX7_check_104 rfl ?_
      refine g_getr (pc := 105) C fX7_22 rfl hM.1 dX7_check_105 rfl (hM.2 6 rfl).1 ?_
      refine g_iload (pc := 108) C dX7_check_108 rfl ?_
      refine g_ialdN (pc := 110) C rfl (hM.2 6 rfl).2 (by omega) (by decide) dX7_check_110 ?_
      refine g_aload_n (pc := 111) C dX7_check_111 rfl ?_
      refine g_getr (pc := 112) C fX7_13 rfl hM.1 dX7_check_112 rfl (hM.2 3 rfl).1 ?_
      refine g_iload (pc := 115) C dX7_check_115 rfl ?_
      refine g_ialdN (pc := 117) C rfl (hM.2 3 rfl).2 (by omega) (by decide) dX7_check_117 ?_
      refine g_aload_n (pc := 118) C dX7_check_118 rfl ?_
      refine g_getr (pc := 119) C fX7_16 rfl hM.1 dX7_check_119 rfl (hM.2 4 rfl).1 ?_
      refine g_iload (pc := 122) C dX7_check_122 rfl ?_
      refine g_ialdN (pc := 124) C rfl (hM.2 4 rfl).2 (by omega) (by decide) dX7_check_124 ?_
      refine g_iadd (pc := 125) C dX7_check_125 ?_
      refine g_aload_n (pc := 126) C dX7_check_126 rfl ?_
      refine g_getr (pc := 127) C fX7_19 rfl hM.1 dX7_check_127 rfl (hM.2 5 rfl).1 ?_
      refine g_iload (pc := 130) C dX7_check_130 rfl ?_
      refine g_ialdN (pc := 132) C rfl (hM.2 5 rfl).2 (by omega) (by decide) dX7_check_132 ?_
      refine g_iadd (pc := 133) C dX7_check_133 ?_
      refine g_aload_n (pc := 134) C dX7_check_134 rfl ?_
      refine g_getr (pc := 135) C fX7_25 rfl hM.1 dX7_check_135 rfl (hM.2 7 rfl).1 ?_
      refine g_iload (pc := 138) C dX7_check_138 rfl ?_
      refine g_ialdN (pc := 140) C rfl (hM.2 7 rfl).2 (by omega) (by decide) dX7_check_140 ?_
      refine g_iadd (pc := 141) C dX7_check_141 ?_
      refine g_icmp_ne (pc := 142) C 149 dX7_check_142 (by decide) (fun h142 => ?_) (fun h142 => ?_)
      ·
        refine g_iconst (pc := 149) C 0 dX7_check_149 (by decide) ?_
        refine g_istore_n (pc := 150) C dX7_check_150 (by decide) ?_
        refine g_iincN (pc := 151) C 1 dX7_check_151 rfl (by decide) (by decide) ?_
        refine g_goto (pc := 154) C 88 dX7_check_154 (by decide) ?_
        exact g_subR (ih (w + 1) (by omega)) ⟨rfl, rfl, by show some (vi 0) = some (vi _); simp only [ckM]; rw [if_neg h101, if_neg h142], rfl, trivial⟩
      ·
        refine g_iconst (pc := 145) C 1 dX7_check_145 (by decide) ?_
        refine g_goto (pc := 146) C 150 dX7_check_146 (by decide) ?_
        refine g_istore_n (pc := 150) C dX7_check_150 (by decide) ?_
        refine g_iincN (pc := 151) C 1 dX7_check_151 rfl (by decide) (by decide) ?_
        refine g_goto (pc := 154) C 88 dX7_check_154 (by decide) ?_
        exact g_subR (ih (w + 1) (by omega)) ⟨rfl, rfl, by show some (vi 1) = some (vi _); simp only [ckM]; rw [if_neg h101, if_pos h142], rfl, trivial⟩
theorem ckM_z (S : Mm) (i : Nat) (b : Int32) (hb : b = 0 ∨ b = 1) : ∀ w, ckM S i b w = 0 ∨ ckM S i b w = 1
  | 0 => hb
  | w + 1 => by
    simp only [ckM]
    split
    · exact Or.inl rfl
    · split
      · exact Or.inr rfl
      · exact Or.inl rfl
def v_X7_check (S : Mm) (lc : Nat → Nat) (i : Nat) : Int32 := if (gsM S i (lc i)) = (S.1 (2, 0, 26) i) then ckM S i 1 6 else ckM S i 0 6
set_option maxHeartbeats 4000000 in
set_option maxRecDepth 100000 in
/-- check(i) -/
theorem c_X7_check (l : Launch) (E : En) (base aw : Nat) (S : Mm) (mc : Nat) (lc : Nat → Nat) (hI : IM S mc lc) (i : Nat) (hi : i < mc) : Cn l E base aw yX7_check cX7_check 5 (some Jvm.ClassFile.FieldType.boolean) 2 0 0 noF S [vr (2, 0, 0), vi (nI i)] (fun r S' => r = some (vi (v_X7_check S lc i)) ∧ S' = S) := by
  have hM := hI.1
  have hmc := hI.2.2.1
  have hlc := (hI.2.2.2 i (by omega)).2
  refine Cn.of (by decide) (Nat.le_of_ble_eq_true rfl) ?_
  intro X Y hl hE hbase haw hfr C B
  subst hl; subst hE; subst hbase; subst haw
  refine g_aload_n (pc := 0) C dX7_check_0 rfl ?_
  refine g_iload_n (pc := 1) C dX7_check_1 rfl ?_
  refine g_callV (pc := 2) C B mX7_112 (c_isM_t _ _ _ _ _ mc lc hI i hi) rfl rfl rfl rfl hM.1 (by decide) ⟨Nat.le_refl _, Nat.le_refl _⟩ (Nat.le_of_ble_eq_true rfl) dX7_check_2 (fun r S' hP => ?_)
  rw [hP.1, hP.2]
  refine g_if_ne (pc := 5) C 10 dX7_check_5 (by decide) (fun _ => ?_) (fun h5 => absurd h5 (by decide))
  refine g_aload_n (pc := 10) C dX7_check_10 rfl ?_
  refine g_getr (pc := 11) C fX7_80 rfl hM.1 dX7_check_11 rfl (hM.2 25 rfl).1 ?_
  refine g_iload_n (pc := 14) C dX7_check_14 rfl ?_
  refine g_ialdN (pc := 15) C rfl (hM.2 25 rfl).2 (by omega) (by decide) dX7_check_15 ?_
  refine g_aload_n (pc := 16) C dX7_check_16 rfl ?_
  refine g_getr (pc := 17) C fX7_77 rfl hM.1 dX7_check_17 rfl (hM.2 24 rfl).1 ?_
  refine g_iload_n (pc := 20) C dX7_check_20 rfl ?_
  refine g_ialdN (pc := 21) C rfl (hM.2 24 rfl).2 (by omega) (by decide) dX7_check_21 ?_
  refine g_iadd (pc := 22) C dX7_check_22 ?_
  refine g_aload_n (pc := 23) C dX7_check_23 rfl ?_
  refine g_getr (pc := 24) C fX7_74 rfl hM.1 dX7_check_24 rfl (hM.2 23 rfl).1 ?_
  refine g_iload_n (pc := 27) C dX7_check_27 rfl ?_
  refine g_ialdN (pc := 28) C rfl (hM.2 23 rfl).2 (by omega) (by decide) dX7_check_28 ?_
  refine g_iadd (pc := 29) C dX7_check_29 ?_
  refine g_istore_n (pc := 30) C dX7_check_30 (by decide) ?_
  refine g_bipush (pc := 31) C 8 dX7_check_31 (by decide) ?_
  refine g_iload_n (pc := 33) C dX7_check_33 rfl ?_
  refine g_imul (pc := 34) C dX7_check_34 ?_
  refine g_eqi (nI (8 * i)) (pk_mul 8 i) ?_
  refine g_istore_n (pc := 35) C dX7_check_35 (by decide) ?_
  refine g_subR (lp_check1 C B hI (by omega) ?_ (lc i) 0 (by omega)) ⟨rfl, rfl, rfl, rfl, trivial⟩
  refine g_iload_n (pc := 66) C dX7_check_66 rfl ?_
  refine g_aload_n (pc := 67) C dX7_check_67 rfl ?_
  refine g_getr (pc := 68) C fX7_83 rfl hM.1 dX7_check_68 rfl (hM.2 26 rfl).1 ?_
  refine g_iload_n (pc := 71) C dX7_check_71 rfl ?_
  refine g_ialdN (pc := 72) C rfl (hM.2 26 rfl).2 (by omega) (by decide) dX7_check_72 ?_
  refine g_icmp_ne (pc := 73) C 80 dX7_check_73 (by decide) (fun h73 => ?_) (fun h73 => ?_)
  ·
    refine g_iconst (pc := 80) C 0 dX7_check_80 (by decide) ?_
    refine g_istore_n (pc := 81) C dX7_check_81 (by decide) ?_
    refine g_bipush (pc := 82) C 6 dX7_check_82 (by decide) ?_
    refine g_iload_n (pc := 84) C dX7_check_84 rfl ?_
    refine g_imul (pc := 85) C dX7_check_85 ?_
    refine g_eqi (nI (6 * i)) (pk_mul 6 i) ?_
    refine g_istore (pc := 86) C dX7_check_86 (by decide) ?_
    refine g_subR (lp_check2 (b0 := 0) C B hM (by omega) ?_ 6 0 rfl) ⟨rfl, rfl, rfl, rfl, trivial⟩
    refine g_iload_n (pc := 157) C dX7_check_157 rfl ?_
    exact g_iret (pc := 158) C B (by rcases ckM_z S i 0 (by decide) 6 with e | e <;> rw [e] <;> rfl) dX7_check_158 (⟨by show some (vi _) = some (vi (v_X7_check S lc i)); unfold v_X7_check; rw [if_neg h73], rfl⟩)
  ·
    refine g_iconst (pc := 76) C 1 dX7_check_76 (by decide) ?_
    refine g_goto (pc := 77) C 81 dX7_check_77 (by decide) ?_
    refine g_istore_n (pc := 81) C dX7_check_81 (by decide) ?_
    refine g_bipush (pc := 82) C 6 dX7_check_82 (by decide) ?_
    refine g_iload_n (pc := 84) C dX7_check_84 rfl ?_
    refine g_imul (pc := 85) C dX7_check_85 ?_
    refine g_eqi (nI (6 * i)) (pk_mul 6 i) ?_
    refine g_istore (pc := 86) C dX7_check_86 (by decide) ?_
    refine g_subR (lp_check2 (b0 := 1) C B hM (by omega) ?_ 6 0 rfl) ⟨rfl, rfl, rfl, rfl, trivial⟩
    refine g_iload_n (pc := 157) C dX7_check_157 rfl ?_
    exact g_iret (pc := 158) C B (by rcases ckM_z S i 1 (by decide) 6 with e | e <;> rw [e] <;> rfl) dX7_check_158 (⟨by show some (vi _) = some (vi (v_X7_check S lc i)); unfold v_X7_check; rw [if_pos h73], rfl⟩)

set_option maxHeartbeats 4000000 in
set_option maxRecDepth 100000 in
/-- foretell of no machine or good -/
theorem c_X7_foretell_b (l : Launch) (E : En) (base aw : Nat) (S : Mm) (mc : Nat) (lc : Nat → Nat) (hI : IM S mc lc) (p0 p1 p2 : Int32) (h : ¬ (okN mc p0 ∧ okN 16 p1)) : Cn l E base aw yX7_foretell cX7_foretell 6 (some Jvm.ClassFile.FieldType.int) 2 0 0 noF S [vr (2, 0, 0), vi p0, vi p1, vi p2] (fun r S' => r = some (vi (-1)) ∧ S' = rfM S 1) := by
  have hM := hI.1
  have hmc := hI.2.2.1
  by_cases hm0 : okN mc p0
  ·
    obtain ⟨i, hi, rfl⟩ := hm0
    have hx : ¬ okN 16 p1 := fun q => h ⟨⟨i, hi, rfl⟩, q⟩
    refine Cn.of (by decide) (Nat.le_of_ble_eq_true rfl) ?_
    intro X Y hl hE hbase haw hfr C B
    subst hl; subst hE; subst hbase; subst haw
    refine g_aload_n (pc := 0) C dX7_foretell_0 rfl ?_
    refine g_iload_n (pc := 1) C dX7_foretell_1 rfl ?_
    refine g_callV (pc := 2) C B mX7_112 (c_isM_t _ _ _ _ _ mc lc hI i hi) rfl rfl rfl rfl hM.1 (by decide) ⟨Nat.le_refl _, Nat.le_refl _⟩ (Nat.le_of_ble_eq_true rfl) dX7_foretell_2 (fun r S' hP => ?_)
    rw [hP.1, hP.2]
    refine g_if_eq (pc := 5) C 18 dX7_foretell_5 (by decide) (fun h5 => absurd h5 (by decide)) (fun _ => ?_)
    refine g_iload_n (pc := 8) C dX7_foretell_8 rfl ?_
    refine g_iconst (pc := 9) C 0 dX7_foretell_9 (by decide) ?_
    refine g_bipush (pc := 10) C 15 dX7_foretell_10 (by decide) ?_
    refine g_callS (pc := 12) C B mX7_108 (c_in_f _ _ _ _ _ _ _ _ (okW_f (n := 15) (by decide) hx)) rfl rfl (by decide) ⟨Nat.le_refl _, Nat.le_refl _⟩ (Nat.le_of_ble_eq_true rfl) dX7_foretell_12 (fun r S' hP => ?_)
    rw [hP.1, hP.2]
    refine g_if_ne (pc := 15) C 24 dX7_foretell_15 (by decide) (fun h15 => absurd (by decide) h15) (fun _ => ?_)
    refine g_aload_n (pc := 18) C dX7_foretell_18 rfl ?_
    refine g_iconst (pc := 19) C (-1) dX7_foretell_19 (by decide) ?_
    refine g_callV (pc := 20) C B mX7_116 (c_mrefuse _ _ _ _ _ hM (-1) 1 (by decide) (by decide)) rfl rfl rfl rfl hM.1 (by decide) ⟨Nat.le_refl _, Nat.le_refl _⟩ (Nat.le_of_ble_eq_true rfl) dX7_foretell_20 (fun r S' hP => ?_)
    rw [hP.1, hP.2]
    exact g_iret (pc := 23) C B rfl dX7_foretell_23 (⟨rfl, rfl⟩)
  ·
    have hx := hm0
    refine Cn.of (by decide) (Nat.le_of_ble_eq_true rfl) ?_
    intro X Y hl hE hbase haw hfr C B
    subst hl; subst hE; subst hbase; subst haw
    refine g_aload_n (pc := 0) C dX7_foretell_0 rfl ?_
    refine g_iload_n (pc := 1) C dX7_foretell_1 rfl ?_
    refine g_callV (pc := 2) C B mX7_112 (c_isM_f _ _ _ _ _ mc lc hI p0 hx) rfl rfl rfl rfl hM.1 (by decide) ⟨Nat.le_refl _, Nat.le_refl _⟩ (Nat.le_of_ble_eq_true rfl) dX7_foretell_2 (fun r S' hP => ?_)
    rw [hP.1, hP.2]
    refine g_if_eq (pc := 5) C 18 dX7_foretell_5 (by decide) (fun _ => ?_) (fun h5 => absurd (by decide) h5)
    refine g_aload_n (pc := 18) C dX7_foretell_18 rfl ?_
    refine g_iconst (pc := 19) C (-1) dX7_foretell_19 (by decide) ?_
    refine g_callV (pc := 20) C B mX7_116 (c_mrefuse _ _ _ _ _ hM (-1) 1 (by decide) (by decide)) rfl rfl rfl rfl hM.1 (by decide) ⟨Nat.le_refl _, Nat.le_refl _⟩ (Nat.le_of_ble_eq_true rfl) dX7_foretell_20 (fun r S' hP => ?_)
    rw [hP.1, hP.2]
    exact g_iret (pc := 23) C B rfl dX7_foretell_23 (⟨rfl, rfl⟩)

set_option maxHeartbeats 4000000 in
set_option maxRecDepth 100000 in
theorem c_X7_foretell_lo (l : Launch) (E : En) (base aw : Nat) (S : Mm) (mc : Nat) (lc : Nat → Nat) (hI : IM S mc lc) (i : Nat) (hi : i < mc) (g : Nat) (hg : g < 16) (p2 : Int32) (hlo : ¬ 0 ≤ p2) : Cn l E base aw yX7_foretell cX7_foretell 6 (some Jvm.ClassFile.FieldType.int) 2 0 0 noF S [vr (2, 0, 0), vi (nI i), vi (nI g), vi p2] (fun r S' => r = some (vi (-4)) ∧ S' = rfM S 4) := by
  have hM := hI.1
  have hmc := hI.2.2.1
  refine Cn.of (by decide) (Nat.le_of_ble_eq_true rfl) ?_
  intro X Y hl hE hbase haw hfr C B
  subst hl; subst hE; subst hbase; subst haw
  refine g_aload_n (pc := 0) C dX7_foretell_0 rfl ?_
  refine g_iload_n (pc := 1) C dX7_foretell_1 rfl ?_
  refine g_callV (pc := 2) C B mX7_112 (c_isM_t _ _ _ _ _ mc lc hI i hi) rfl rfl rfl rfl hM.1 (by decide) ⟨Nat.le_refl _, Nat.le_refl _⟩ (Nat.le_of_ble_eq_true rfl) dX7_foretell_2 (fun r S' hP => ?_)
  rw [hP.1, hP.2]
  refine g_if_eq (pc := 5) C 18 dX7_foretell_5 (by decide) (fun h5 => absurd h5 (by decide)) (fun _ => ?_)
  refine g_iload_n (pc := 8) C dX7_foretell_8 rfl ?_
  refine g_iconst (pc := 9) C 0 dX7_foretell_9 (by decide) ?_
  refine g_bipush (pc := 10) C 15 dX7_foretell_10 (by decide) ?_
  refine g_callS (pc := 12) C B mX7_108 (c_in_t _ _ _ _ _ _ _ _ (okW_t (n := 15) (by omega) (by decide))) rfl rfl (by decide) ⟨Nat.le_refl _, Nat.le_refl _⟩ (Nat.le_of_ble_eq_true rfl) dX7_foretell_12 (fun r S' hP => ?_)
  rw [hP.1, hP.2]
  refine g_if_ne (pc := 15) C 24 dX7_foretell_15 (by decide) (fun _ => ?_) (fun h15 => absurd h15 (by decide))
  refine g_iload_n (pc := 24) C dX7_foretell_24 rfl ?_
  refine g_if_ge (pc := 25) C 35 dX7_foretell_25 (by decide) (fun h25 => absurd h25 hlo) (fun _ => ?_)
  refine g_aload_n (pc := 28) C dX7_foretell_28 rfl ?_
  refine g_bipush (pc := 29) C (-4) dX7_foretell_29 (by decide) ?_
  refine g_callV (pc := 31) C B mX7_116 (c_mrefuse _ _ _ _ _ hM (-4) 4 (by decide) (by decide)) rfl rfl rfl rfl hM.1 (by decide) ⟨Nat.le_refl _, Nat.le_refl _⟩ (Nat.le_of_ble_eq_true rfl) dX7_foretell_31 (fun r S' hP => ?_)
  rw [hP.1, hP.2]
  exact g_iret (pc := 34) C B rfl dX7_foretell_34 (⟨rfl, rfl⟩)

set_option maxHeartbeats 4000000 in
set_option maxRecDepth 100000 in
theorem c_X7_foretell_hi (l : Launch) (E : En) (base aw : Nat) (S : Mm) (mc : Nat) (lc : Nat → Nat) (hI : IM S mc lc) (i : Nat) (hi : i < mc) (g : Nat) (hg : g < 16) (p2 : Int32) (hlo : 0 ≤ p2) (hhi : ¬ p2 ≤ 240) : Cn l E base aw yX7_foretell cX7_foretell 6 (some Jvm.ClassFile.FieldType.int) 2 0 0 noF S [vr (2, 0, 0), vi (nI i), vi (nI g), vi p2] (fun r S' => r = some (vi (-6)) ∧ S' = rfM S 6) := by
  have hM := hI.1
  have hmc := hI.2.2.1
  refine Cn.of (by decide) (Nat.le_of_ble_eq_true rfl) ?_
  intro X Y hl hE hbase haw hfr C B
  subst hl; subst hE; subst hbase; subst haw
  refine g_aload_n (pc := 0) C dX7_foretell_0 rfl ?_
  refine g_iload_n (pc := 1) C dX7_foretell_1 rfl ?_
  refine g_callV (pc := 2) C B mX7_112 (c_isM_t _ _ _ _ _ mc lc hI i hi) rfl rfl rfl rfl hM.1 (by decide) ⟨Nat.le_refl _, Nat.le_refl _⟩ (Nat.le_of_ble_eq_true rfl) dX7_foretell_2 (fun r S' hP => ?_)
  rw [hP.1, hP.2]
  refine g_if_eq (pc := 5) C 18 dX7_foretell_5 (by decide) (fun h5 => absurd h5 (by decide)) (fun _ => ?_)
  refine g_iload_n (pc := 8) C dX7_foretell_8 rfl ?_
  refine g_iconst (pc := 9) C 0 dX7_foretell_9 (by decide) ?_
  refine g_bipush (pc := 10) C 15 dX7_foretell_10 (by decide) ?_
  refine g_callS (pc := 12) C B mX7_108 (c_in_t _ _ _ _ _ _ _ _ (okW_t (n := 15) (by omega) (by decide))) rfl rfl (by decide) ⟨Nat.le_refl _, Nat.le_refl _⟩ (Nat.le_of_ble_eq_true rfl) dX7_foretell_12 (fun r S' hP => ?_)
  rw [hP.1, hP.2]
  refine g_if_ne (pc := 15) C 24 dX7_foretell_15 (by decide) (fun _ => ?_) (fun h15 => absurd h15 (by decide))
  refine g_iload_n (pc := 24) C dX7_foretell_24 rfl ?_
  refine g_if_ge (pc := 25) C 35 dX7_foretell_25 (by decide) (fun _ => ?_) (fun h25 => absurd hlo h25)
  refine g_iload_n (pc := 35) C dX7_foretell_35 rfl ?_
  refine g_sipush (pc := 36) C 240 dX7_foretell_36 (by decide) ?_
  refine g_icmp_le (pc := 39) C 49 dX7_foretell_39 (by decide) (fun h39 => absurd h39 hhi) (fun _ => ?_)
  refine g_aload_n (pc := 42) C dX7_foretell_42 rfl ?_
  refine g_bipush (pc := 43) C (-6) dX7_foretell_43 (by decide) ?_
  refine g_callV (pc := 45) C B mX7_116 (c_mrefuse _ _ _ _ _ hM (-6) 6 (by decide) (by decide)) rfl rfl rfl rfl hM.1 (by decide) ⟨Nat.le_refl _, Nat.le_refl _⟩ (Nat.le_of_ble_eq_true rfl) dX7_foretell_45 (fun r S' hP => ?_)
  rw [hP.1, hP.2]
  exact g_iret (pc := 48) C B rfl dX7_foretell_48 (⟨rfl, rfl⟩)

set_option maxHeartbeats 4000000 in
set_option maxRecDepth 100000 in
theorem lp_foretell {X : Xt} {Y : Yt} {P : Option AV → Mm → Prop} {nm : String}  (C : Cx X Y cX7_foretell 6 RX7) (B : Bx X Y nm (some Jvm.ClassFile.FieldType.int) 2 0 0 P) {S : Mm} {i g h t mc : Nat} {lc : Nat → Nat} (hI : IM S mc lc) (hi : i < mc) (hg : g < 16) (hh : S.1 (2, 0, 0) 0 = nI h) (hh0 : h ≤ 3000) (ht : t ≤ 240) (K : G X Y 0 0 S 85 [(0, vr (2, 0, 0)), (1, vi (nI i)), (2, vi (nI g)), (3, vi (nI t)), (4, vi (fsM S i g h t)), (5, vi (nI t))] []) : ∀ n w, w + n = t → G X Y 0 0 S 55 [(0, vr (2, 0, 0)), (1, vi (nI i)), (2, vi (nI g)), (3, vi (nI t)), (4, vi (fsM S i g h w)), (5, vi (nI w))] [] := by
  intro n
  induction n with
  | zero =>
    intro w hw
    have e : t = w := by omega
    subst e
    have hM := hI.1
    refine g_iload (pc := 55) C dX7_foretell_55 rfl ?_
    refine g_iload_n (pc := 57) C dX7_foretell_57 rfl ?_
    refine g_icmp_ge (pc := 58) C 85 dX7_foretell_58 (by decide) (fun _ => ?_) (fun h58 => absurd ((nI_leI (a := t) (b := t) (by omega) (by omega)).mpr (by omega)) h58)
    exact K
  | succ n ih =>
    intro w hw
    have hM := hI.1
    refine g_iload (pc := 55) C dX7_foretell_55 rfl ?_
    refine g_iload_n (pc := 57) C dX7_foretell_57 rfl ?_
    refine g_icmp_ge (pc := 58) C 85 dX7_foretell_58 (by decide) (fun h58 => absurd h58 (fun q => absurd ((nI_leI (a := t) (b := w) (by omega) (by omega)).mp q) (by omega))) (fun _ => ?_)
    refine g_iload (pc := 61) C dX7_foretell_61 rfl ?_
    refine g_aload_n (pc := 63) C dX7_foretell_63 rfl ?_
    refine g_iload_n (pc := 64) C dX7_foretell_64 rfl ?_
    refine g_iload_n (pc := 65) C dX7_foretell_65 rfl ?_
    refine g_aload_n (pc := 66) C dX7_foretell_66 rfl ?_
    refine g_geti (pc := 67) C fX7_153 rfl hM.1 dX7_foretell_67 rfl ?_
    refine g_eqi (nI h) hh ?_
    refine g_iload (pc := 70) C dX7_foretell_70 rfl ?_
    refine g_iadd (pc := 72) C dX7_foretell_72 ?_
    refine g_eqi (nI (h + w)) (nI_add h w) ?_
    refine g_callV (pc := 73) C B mX7_159 (c_X7_rate _ _ _ _ _ mc lc hI i hi g hg (h + w) (by omega)) rfl rfl rfl rfl hM.1 (by decide) ⟨Nat.le_refl _, Nat.le_refl _⟩ (Nat.le_of_ble_eq_true rfl) dX7_foretell_73 (fun r S' hP => ?_)
    rw [hP.1, hP.2]
    refine g_iadd (pc := 76) C dX7_foretell_76 ?_
    refine g_istore (pc := 77) C dX7_foretell_77 (by decide) ?_
    refine g_iincN (pc := 79) C 1 dX7_foretell_79 rfl (by decide) (by decide) ?_
    refine g_goto (pc := 82) C 55 dX7_foretell_82 (by decide) ?_
    exact g_subR (ih (w + 1) (by omega)) ⟨rfl, rfl, rfl, rfl, rfl, rfl, trivial⟩
set_option maxHeartbeats 4000000 in
set_option maxRecDepth 100000 in
theorem c_X7_foretell (l : Launch) (E : En) (base aw : Nat) (S : Mm) (mc : Nat) (lc : Nat → Nat) (hI : IM S mc lc) (i : Nat) (hi : i < mc) (g : Nat) (hg : g < 16) (h : Nat) (hh : S.1 (2, 0, 0) 0 = nI h) (hh0 : h ≤ 3000) (t : Nat) (ht : t ≤ 240) : Cn l E base aw yX7_foretell cX7_foretell 6 (some Jvm.ClassFile.FieldType.int) 2 0 0 noF S [vr (2, 0, 0), vi (nI i), vi (nI g), vi (nI t)] (fun r S' => r = some (vi (fsM S i g h t)) ∧ S' = S) := by
  have hM := hI.1
  have hmc := hI.2.2.1
  refine Cn.of (by decide) (Nat.le_of_ble_eq_true rfl) ?_
  intro X Y hl hE hbase haw hfr C B
  subst hl; subst hE; subst hbase; subst haw
  refine g_aload_n (pc := 0) C dX7_foretell_0 rfl ?_
  refine g_iload_n (pc := 1) C dX7_foretell_1 rfl ?_
  refine g_callV (pc := 2) C B mX7_112 (c_isM_t _ _ _ _ _ mc lc hI i hi) rfl rfl rfl rfl hM.1 (by decide) ⟨Nat.le_refl _, Nat.le_refl _⟩ (Nat.le_of_ble_eq_true rfl) dX7_foretell_2 (fun r S' hP => ?_)
  rw [hP.1, hP.2]
  refine g_if_eq (pc := 5) C 18 dX7_foretell_5 (by decide) (fun h5 => absurd h5 (by decide)) (fun _ => ?_)
  refine g_iload_n (pc := 8) C dX7_foretell_8 rfl ?_
  refine g_iconst (pc := 9) C 0 dX7_foretell_9 (by decide) ?_
  refine g_bipush (pc := 10) C 15 dX7_foretell_10 (by decide) ?_
  refine g_callS (pc := 12) C B mX7_108 (c_in_t _ _ _ _ _ _ _ _ (okW_t (n := 15) (by omega) (by decide))) rfl rfl (by decide) ⟨Nat.le_refl _, Nat.le_refl _⟩ (Nat.le_of_ble_eq_true rfl) dX7_foretell_12 (fun r S' hP => ?_)
  rw [hP.1, hP.2]
  refine g_if_ne (pc := 15) C 24 dX7_foretell_15 (by decide) (fun _ => ?_) (fun h15 => absurd h15 (by decide))
  refine g_iload_n (pc := 24) C dX7_foretell_24 rfl ?_
  refine g_if_ge (pc := 25) C 35 dX7_foretell_25 (by decide) (fun _ => ?_) (fun h25 => absurd (nI_pos' (by omega)) h25)
  refine g_iload_n (pc := 35) C dX7_foretell_35 rfl ?_
  refine g_sipush (pc := 36) C 240 dX7_foretell_36 (by decide) ?_
  refine g_icmp_le (pc := 39) C 49 dX7_foretell_39 (by decide) (fun _ => ?_) (fun h39 => absurd (nI_le (b := 240) ht (by decide)) h39)
  refine g_iconst (pc := 49) C 0 dX7_foretell_49 (by decide) ?_
  refine g_istore (pc := 50) C dX7_foretell_50 (by decide) ?_
  refine g_iconst (pc := 52) C 0 dX7_foretell_52 (by decide) ?_
  refine g_istore (pc := 53) C dX7_foretell_53 (by decide) ?_
  refine g_subR (lp_foretell C B hI hi hg hh hh0 ht ?_ t 0 (by omega)) ⟨rfl, rfl, rfl, rfl, rfl, rfl, trivial⟩
  refine g_iload (pc := 85) C dX7_foretell_85 rfl ?_
  exact g_iret (pc := 87) C B rfl dX7_foretell_87 (⟨rfl, rfl⟩)
end
