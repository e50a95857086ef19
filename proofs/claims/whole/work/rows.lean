section
-- ===== PART A: goes FIRST, ahead of the names: the tables' words, and 'selects' of the private methods out of them =====
/-- a private method of a class that the tables say can be made, by its rows of tables_1 -/
def lw_okq (q : MethodName × Nat) : Prop := (q.1.cls ≠ "java/lang/invoke/MethodHandle" ∧ q.1.cls ≠ "java/lang/invoke/VarHandle") ∧ Cond.instantiable q.1.cls q.2 ∈ tables_1 ∧ Cond.privateMethod q.1 ∈ tables_1 ∧ Cond.instanceMethod q.1 ∈ tables_1
theorem lw_p0 : lw_okq (⟨"ShaftWinder$RideFinder", "aimAt", "(II)V"⟩, 5) := ⟨⟨by decide +kernel, by decide +kernel⟩, List.mem_of_getElem? (i := 59) (by decide +kernel), List.mem_of_getElem? (i := 313) (by decide +kernel), List.mem_of_getElem? (i := 314) (by decide +kernel)⟩
theorem lw_p1 : lw_okq (⟨"ShaftWinder$RideFinder", "fillRow", "(I)V"⟩, 5) := ⟨⟨by decide +kernel, by decide +kernel⟩, List.mem_of_getElem? (i := 59) (by decide +kernel), List.mem_of_getElem? (i := 321) (by decide +kernel), List.mem_of_getElem? (i := 322) (by decide +kernel)⟩
theorem lw_p2 : lw_okq (⟨"ShaftWinder$RideFinder", "greatestFrom", "(I)I"⟩, 5) := ⟨⟨by decide +kernel, by decide +kernel⟩, List.mem_of_getElem? (i := 59) (by decide +kernel), List.mem_of_getElem? (i := 325) (by decide +kernel), List.mem_of_getElem? (i := 326) (by decide +kernel)⟩
theorem lw_p3 : lw_okq (⟨"ShaftWinder$RideFinder", "ticksAfter", "(II)I"⟩, 5) := ⟨⟨by decide +kernel, by decide +kernel⟩, List.mem_of_getElem? (i := 59) (by decide +kernel), List.mem_of_getElem? (i := 332) (by decide +kernel), List.mem_of_getElem? (i := 333) (by decide +kernel)⟩
theorem lw_p4 : lw_okq (⟨"ShaftWinder$RideFinder", "farthestOfBest", "(II)I"⟩, 5) := ⟨⟨by decide +kernel, by decide +kernel⟩, List.mem_of_getElem? (i := 59) (by decide +kernel), List.mem_of_getElem? (i := 345) (by decide +kernel), List.mem_of_getElem? (i := 346) (by decide +kernel)⟩
theorem lw_p5 : lw_okq (⟨"ShaftWinder$Winding", "mustBrake", "()Z"⟩, 15) := ⟨⟨by decide +kernel, by decide +kernel⟩, List.mem_of_getElem? (i := 85) (by decide +kernel), List.mem_of_getElem? (i := 385) (by decide +kernel), List.mem_of_getElem? (i := 386) (by decide +kernel)⟩
theorem lw_p6 : lw_okq (⟨"ShaftWinder$Winding", "nextSpeed", "()I"⟩, 15) := ⟨⟨by decide +kernel, by decide +kernel⟩, List.mem_of_getElem? (i := 85) (by decide +kernel), List.mem_of_getElem? (i := 390) (by decide +kernel), List.mem_of_getElem? (i := 391) (by decide +kernel)⟩
theorem lw_p7 : lw_okq (⟨"ShaftWinder$Winding", "rideOn", "()V"⟩, 15) := ⟨⟨by decide +kernel, by decide +kernel⟩, List.mem_of_getElem? (i := 85) (by decide +kernel), List.mem_of_getElem? (i := 405) (by decide +kernel), List.mem_of_getElem? (i := 406) (by decide +kernel)⟩
theorem lw_p8 : lw_okq (⟨"ShaftWinder$Winding", "slowDown", "()V"⟩, 15) := ⟨⟨by decide +kernel, by decide +kernel⟩, List.mem_of_getElem? (i := 85) (by decide +kernel), List.mem_of_getElem? (i := 409) (by decide +kernel), List.mem_of_getElem? (i := 410) (by decide +kernel)⟩
theorem lw_p9 : lw_okq (⟨"ShaftWinder", "finding", "(I)I"⟩, 11) := ⟨⟨by decide +kernel, by decide +kernel⟩, List.mem_of_getElem? (i := 14) (by decide +kernel), List.mem_of_getElem? (i := 545) (by decide +kernel), List.mem_of_getElem? (i := 546) (by decide +kernel)⟩
theorem lw_p10 : lw_okq (⟨"ShaftWinderModel", "isPlace", "(I)Z"⟩, 40) := ⟨⟨by decide +kernel, by decide +kernel⟩, List.mem_of_getElem? (i := 624) (by decide +kernel), List.mem_of_getElem? (i := 762) (by decide +kernel), List.mem_of_getElem? (i := 763) (by decide +kernel)⟩
theorem lw_p11 : lw_okq (⟨"ShaftWinderModel", "lookAtZones", "()V"⟩, 40) := ⟨⟨by decide +kernel, by decide +kernel⟩, List.mem_of_getElem? (i := 624) (by decide +kernel), List.mem_of_getElem? (i := 774) (by decide +kernel), List.mem_of_getElem? (i := 775) (by decide +kernel)⟩
theorem lw_p12 : lw_okq (⟨"ShaftWinderModel", "allowed", "(I)I"⟩, 40) := ⟨⟨by decide +kernel, by decide +kernel⟩, List.mem_of_getElem? (i := 624) (by decide +kernel), List.mem_of_getElem? (i := 778) (by decide +kernel), List.mem_of_getElem? (i := 779) (by decide +kernel)⟩
theorem lw_p13 : lw_okq (⟨"ShaftWinderModel", "isTick", "(II)Z"⟩, 40) := ⟨⟨by decide +kernel, by decide +kernel⟩, List.mem_of_getElem? (i := 624) (by decide +kernel), List.mem_of_getElem? (i := 782) (by decide +kernel), List.mem_of_getElem? (i := 783) (by decide +kernel)⟩
theorem lw_p14 : lw_okq (⟨"ShaftWinderModel", "plans", "(II)I"⟩, 40) := ⟨⟨by decide +kernel, by decide +kernel⟩, List.mem_of_getElem? (i := 624) (by decide +kernel), List.mem_of_getElem? (i := 790) (by decide +kernel), List.mem_of_getElem? (i := 791) (by decide +kernel)⟩
theorem lw_p15 : lw_okq (⟨"ShaftWinderModel", "workBack", "(I)V"⟩, 40) := ⟨⟨by decide +kernel, by decide +kernel⟩, List.mem_of_getElem? (i := 624) (by decide +kernel), List.mem_of_getElem? (i := 794) (by decide +kernel), List.mem_of_getElem? (i := 795) (by decide +kernel)⟩
def lw_privs_1 : List (MethodName × Nat) := [(⟨"ShaftWinder$RideFinder", "aimAt", "(II)V"⟩, 5), (⟨"ShaftWinder$RideFinder", "fillRow", "(I)V"⟩, 5), (⟨"ShaftWinder$RideFinder", "greatestFrom", "(I)I"⟩, 5), (⟨"ShaftWinder$RideFinder", "ticksAfter", "(II)I"⟩, 5), (⟨"ShaftWinder$RideFinder", "farthestOfBest", "(II)I"⟩, 5), (⟨"ShaftWinder$Winding", "mustBrake", "()Z"⟩, 15), (⟨"ShaftWinder$Winding", "nextSpeed", "()I"⟩, 15), (⟨"ShaftWinder$Winding", "rideOn", "()V"⟩, 15), (⟨"ShaftWinder$Winding", "slowDown", "()V"⟩, 15), (⟨"ShaftWinder", "finding", "(I)I"⟩, 11), (⟨"ShaftWinderModel", "isPlace", "(I)Z"⟩, 40), (⟨"ShaftWinderModel", "lookAtZones", "()V"⟩, 40), (⟨"ShaftWinderModel", "allowed", "(I)I"⟩, 40), (⟨"ShaftWinderModel", "isTick", "(II)Z"⟩, 40), (⟨"ShaftWinderModel", "plans", "(II)I"⟩, 40), (⟨"ShaftWinderModel", "workBack", "(I)V"⟩, 40)]
theorem lw_r1 : ∀ q ∈ lw_privs_1, lw_okq q := List.forall_mem_cons.mpr ⟨lw_p0, List.forall_mem_cons.mpr ⟨lw_p1, List.forall_mem_cons.mpr ⟨lw_p2, List.forall_mem_cons.mpr ⟨lw_p3, List.forall_mem_cons.mpr ⟨lw_p4, List.forall_mem_cons.mpr ⟨lw_p5, List.forall_mem_cons.mpr ⟨lw_p6, List.forall_mem_cons.mpr ⟨lw_p7, List.forall_mem_cons.mpr ⟨lw_p8, List.forall_mem_cons.mpr ⟨lw_p9, List.forall_mem_cons.mpr ⟨lw_p10, List.forall_mem_cons.mpr ⟨lw_p11, List.forall_mem_cons.mpr ⟨lw_p12, List.forall_mem_cons.mpr ⟨lw_p13, List.forall_mem_cons.mpr ⟨lw_p14, List.forall_mem_cons.mpr ⟨lw_p15, fun _ h => absurd h List.not_mem_nil⟩⟩⟩⟩⟩⟩⟩⟩⟩⟩⟩⟩⟩⟩⟩⟩
theorem lw_p16 : lw_okq (⟨"ShaftWinderModel", "goes", "(III)Z"⟩, 40) := ⟨⟨by decide +kernel, by decide +kernel⟩, List.mem_of_getElem? (i := 624) (by decide +kernel), List.mem_of_getElem? (i := 798) (by decide +kernel), List.mem_of_getElem? (i := 799) (by decide +kernel)⟩
theorem lw_p17 : lw_okq (⟨"ShaftWinderModel", "opens", "()I"⟩, 40) := ⟨⟨by decide +kernel, by decide +kernel⟩, List.mem_of_getElem? (i := 624) (by decide +kernel), List.mem_of_getElem? (i := 826) (by decide +kernel), List.mem_of_getElem? (i := 827) (by decide +kernel)⟩
theorem lw_p18 : lw_okq (⟨"ShaftWinderModel", "rides", "()V"⟩, 40) := ⟨⟨by decide +kernel, by decide +kernel⟩, List.mem_of_getElem? (i := 624) (by decide +kernel), List.mem_of_getElem? (i := 834) (by decide +kernel), List.mem_of_getElem? (i := 835) (by decide +kernel)⟩
theorem lw_p19 : lw_okq (⟨"ShaftWinderModel", "told", "()I"⟩, 40) := ⟨⟨by decide +kernel, by decide +kernel⟩, List.mem_of_getElem? (i := 624) (by decide +kernel), List.mem_of_getElem? (i := 838) (by decide +kernel), List.mem_of_getElem? (i := 839) (by decide +kernel)⟩
theorem lw_p20 : lw_okq (⟨"ShaftWinderModel", "brakes", "()V"⟩, 40) := ⟨⟨by decide +kernel, by decide +kernel⟩, List.mem_of_getElem? (i := 624) (by decide +kernel), List.mem_of_getElem? (i := 842) (by decide +kernel), List.mem_of_getElem? (i := 843) (by decide +kernel)⟩
theorem lw_p21 : lw_okq (⟨"ShaftWinderModel", "isSlipping", "(III)Z"⟩, 40) := ⟨⟨by decide +kernel, by decide +kernel⟩, List.mem_of_getElem? (i := 624) (by decide +kernel), List.mem_of_getElem? (i := 862) (by decide +kernel), List.mem_of_getElem? (i := 863) (by decide +kernel)⟩
theorem lw_p22 : lw_okq (⟨"ShaftWinderModel", "firstSlip", "(III)I"⟩, 40) := ⟨⟨by decide +kernel, by decide +kernel⟩, List.mem_of_getElem? (i := 624) (by decide +kernel), List.mem_of_getElem? (i := 870) (by decide +kernel), List.mem_of_getElem? (i := 871) (by decide +kernel)⟩
theorem lw_p23 : lw_okq (⟨"ShaftWinderModel", "worstFrom", "(II)I"⟩, 40) := ⟨⟨by decide +kernel, by decide +kernel⟩, List.mem_of_getElem? (i := 624) (by decide +kernel), List.mem_of_getElem? (i := 886) (by decide +kernel), List.mem_of_getElem? (i := 887) (by decide +kernel)⟩
theorem lw_p24 : lw_okq (⟨"ShaftWinderModel", "sumOf", "(II)I"⟩, 40) := ⟨⟨by decide +kernel, by decide +kernel⟩, List.mem_of_getElem? (i := 624) (by decide +kernel), List.mem_of_getElem? (i := 890) (by decide +kernel), List.mem_of_getElem? (i := 891) (by decide +kernel)⟩
theorem lw_p25 : lw_okq (⟨"ShaftWinderModel", "logged", "()I"⟩, 40) := ⟨⟨by decide +kernel, by decide +kernel⟩, List.mem_of_getElem? (i := 624) (by decide +kernel), List.mem_of_getElem? (i := 921) (by decide +kernel), List.mem_of_getElem? (i := 922) (by decide +kernel)⟩
theorem lw_p26 : lw_okq (⟨"ShaftWinderModel", "meets", "(I)I"⟩, 40) := ⟨⟨by decide +kernel, by decide +kernel⟩, List.mem_of_getElem? (i := 624) (by decide +kernel), List.mem_of_getElem? (i := 932) (by decide +kernel), List.mem_of_getElem? (i := 933) (by decide +kernel)⟩
theorem lw_p27 : lw_okq (⟨"ShaftWinderModel", "lacks", "(III)I"⟩, 40) := ⟨⟨by decide +kernel, by decide +kernel⟩, List.mem_of_getElem? (i := 624) (by decide +kernel), List.mem_of_getElem? (i := 944) (by decide +kernel), List.mem_of_getElem? (i := 945) (by decide +kernel)⟩
theorem lw_p28 : lw_okq (⟨"ShaftWinderModel", "lay", "(III)V"⟩, 40) := ⟨⟨by decide +kernel, by decide +kernel⟩, List.mem_of_getElem? (i := 624) (by decide +kernel), List.mem_of_getElem? (i := 948) (by decide +kernel), List.mem_of_getElem? (i := 949) (by decide +kernel)⟩
theorem lw_p29 : lw_okq (⟨"ShaftWinderModel", "fits", "(III)Z"⟩, 40) := ⟨⟨by decide +kernel, by decide +kernel⟩, List.mem_of_getElem? (i := 624) (by decide +kernel), List.mem_of_getElem? (i := 977) (by decide +kernel), List.mem_of_getElem? (i := 978) (by decide +kernel)⟩
def lw_privs_2 : List (MethodName × Nat) := [(⟨"ShaftWinderModel", "goes", "(III)Z"⟩, 40), (⟨"ShaftWinderModel", "opens", "()I"⟩, 40), (⟨"ShaftWinderModel", "rides", "()V"⟩, 40), (⟨"ShaftWinderModel", "told", "()I"⟩, 40), (⟨"ShaftWinderModel", "brakes", "()V"⟩, 40), (⟨"ShaftWinderModel", "isSlipping", "(III)Z"⟩, 40), (⟨"ShaftWinderModel", "firstSlip", "(III)I"⟩, 40), (⟨"ShaftWinderModel", "worstFrom", "(II)I"⟩, 40), (⟨"ShaftWinderModel", "sumOf", "(II)I"⟩, 40), (⟨"ShaftWinderModel", "logged", "()I"⟩, 40), (⟨"ShaftWinderModel", "meets", "(I)I"⟩, 40), (⟨"ShaftWinderModel", "lacks", "(III)I"⟩, 40), (⟨"ShaftWinderModel", "lay", "(III)V"⟩, 40), (⟨"ShaftWinderModel", "fits", "(III)Z"⟩, 40)]
theorem lw_r2 : ∀ q ∈ lw_privs_2, lw_okq q := List.forall_mem_cons.mpr ⟨lw_p16, List.forall_mem_cons.mpr ⟨lw_p17, List.forall_mem_cons.mpr ⟨lw_p18, List.forall_mem_cons.mpr ⟨lw_p19, List.forall_mem_cons.mpr ⟨lw_p20, List.forall_mem_cons.mpr ⟨lw_p21, List.forall_mem_cons.mpr ⟨lw_p22, List.forall_mem_cons.mpr ⟨lw_p23, List.forall_mem_cons.mpr ⟨lw_p24, List.forall_mem_cons.mpr ⟨lw_p25, List.forall_mem_cons.mpr ⟨lw_p26, List.forall_mem_cons.mpr ⟨lw_p27, List.forall_mem_cons.mpr ⟨lw_p28, List.forall_mem_cons.mpr ⟨lw_p29, fun _ h => absurd h List.not_mem_nil⟩⟩⟩⟩⟩⟩⟩⟩⟩⟩⟩⟩⟩⟩
def lw_privs : List (MethodName × Nat) := lw_privs_1 ++ (lw_privs_2)
def lw_tbl : List Cond := k2_sels lw_privs ++ tables_1
theorem lw_privs_ok : ∀ q ∈ lw_privs, lw_okq q := by
  show ∀ q ∈ lw_privs_1 ++ (lw_privs_2), lw_okq q
  exact List.forall_mem_append.mpr ⟨lw_r1, lw_r2⟩
end
section
def RX0 : String := "ShaftWinder$Book"
def TX0 : u_T := fun k => match k with
  | _ => ("ShaftWinder$Book", "wires", "[I", true)
def tyX0 : Nat → FieldType := fun k => match k with
  | _ => .array .int
theorem nmX0 : ∀ a, a < 1 → ∀ b, b < 1 → a ≠ b → (TX0 a).2.1 ≠ (TX0 b).2.1 := by decide +kernel
theorem tyX0_ok : ∀ k, k < 1 → parseFieldDescriptor (TX0 k).2.2.1 = some (tyX0 k) := by decide +kernel
abbrev cX0_init : ByteArray := prog_2_method_1_code
def yX0_init : MethodName := ⟨RX0, "<init>", "()V"⟩
abbrev cX0_addBroken : ByteArray := prog_2_method_2_code
def yX0_addBroken : MethodName := ⟨RX0, "addBroken", "(II)I"⟩
abbrev cX0_wiresIn : ByteArray := prog_2_method_3_code
def yX0_wiresIn : MethodName := ⟨RX0, "wiresIn", "(II)I"⟩
abbrev cX0_firstOfWorst : ByteArray := prog_2_method_4_code
def yX0_firstOfWorst : MethodName := ⟨RX0, "firstOfWorst", "(I)I"⟩
abbrev cX0_cutAway : ByteArray := prog_2_method_5_code
def yX0_cutAway : MethodName := ⟨RX0, "cutAway", "(I)I"⟩
abbrev cX0_fewestToCut : ByteArray := prog_2_method_6_code
def yX0_fewestToCut : MethodName := ⟨RX0, "fewestToCut", "(II)I"⟩
abbrev cX0_take : ByteArray := prog_2_method_7_code
def yX0_take : MethodName := ⟨RX0, "take", "([II)V"⟩
def RX1 : String := "ShaftWinder$RideFinder"
def TX1 : u_T := fun k => match k with
  | 0 => ("ShaftWinder$RideFinder", "shaft", "LShaftWinder$Shaft;", true)
  | 1 => ("ShaftWinder$RideFinder", "left", "[I", true)
  | 2 => ("ShaftWinder$RideFinder", "end", "I", false)
  | 3 => ("ShaftWinder$RideFinder", "way", "I", false)
  | _ => ("ShaftWinder$RideFinder", "farthest", "I", false)
def tyX1 : Nat → FieldType := fun k => match k with
  | 0 => .object "ShaftWinder$Shaft"
  | 1 => .array .int
  | 2 => .int
  | 3 => .int
  | _ => .int
theorem nmX1 : ∀ a, a < 5 → ∀ b, b < 5 → a ≠ b → (TX1 a).2.1 ≠ (TX1 b).2.1 := by decide +kernel
theorem tyX1_ok : ∀ k, k < 5 → parseFieldDescriptor (TX1 k).2.2.1 = some (tyX1 k) := by decide +kernel
abbrev cX1_init : ByteArray := prog_3_method_1_code
def yX1_init : MethodName := ⟨RX1, "<init>", "(LShaftWinder$Shaft;)V"⟩
abbrev cX1_forget : ByteArray := prog_3_method_2_code
def yX1_forget : MethodName := ⟨RX1, "forget", "()V"⟩
abbrev cX1_ticksBetween : ByteArray := prog_3_method_3_code
def yX1_ticksBetween : MethodName := ⟨RX1, "ticksBetween", "(II)I"⟩
abbrev cX1_trace : ByteArray := prog_3_method_4_code
def yX1_trace : MethodName := ⟨RX1, "trace", "(II[I)I"⟩
abbrev cX1_aimAt : ByteArray := prog_3_method_5_code
def yX1_aimAt : MethodName := ⟨RX1, "aimAt", "(II)V"⟩
abbrev cX1_fillRow : ByteArray := prog_3_method_6_code
def yX1_fillRow : MethodName := ⟨RX1, "fillRow", "(I)V"⟩
abbrev cX1_farthestOfBest : ByteArray := prog_3_method_7_code
def yX1_farthestOfBest : MethodName := ⟨RX1, "farthestOfBest", "(II)I"⟩
abbrev cX1_greatestFrom : ByteArray := prog_3_method_8_code
def yX1_greatestFrom : MethodName := ⟨RX1, "greatestFrom", "(I)I"⟩
abbrev cX1_ticksAfter : ByteArray := prog_3_method_9_code
def yX1_ticksAfter : MethodName := ⟨RX1, "ticksAfter", "(II)I"⟩
def RX2 : String := "ShaftWinder$Rope"
def TX2 : u_T := fun k => match k with
  | 0 => ("ShaftWinder$Rope", "shaft", "LShaftWinder$Shaft;", true)
  | 1 => ("ShaftWinder$Rope", "load0", "I", false)
  | 2 => ("ShaftWinder$Rope", "load1", "I", false)
  | 3 => ("ShaftWinder$Rope", "weight", "I", false)
  | _ => ("ShaftWinder$Rope", "kept", "I", false)
def tyX2 : Nat → FieldType := fun k => match k with
  | 0 => .object "ShaftWinder$Shaft"
  | 1 => .int
  | 2 => .int
  | 3 => .int
  | _ => .int
theorem nmX2 : ∀ a, a < 5 → ∀ b, b < 5 → a ≠ b → (TX2 a).2.1 ≠ (TX2 b).2.1 := by decide +kernel
theorem tyX2_ok : ∀ k, k < 5 → parseFieldDescriptor (TX2 k).2.2.1 = some (tyX2 k) := by decide +kernel
abbrev cX2_init : ByteArray := prog_4_method_1_code
def yX2_init : MethodName := ⟨RX2, "<init>", "(LShaftWinder$Shaft;)V"⟩
abbrev cX2_slipsAt : ByteArray := prog_4_method_2_code
def yX2_slipsAt : MethodName := ⟨RX2, "slipsAt", "(III)Z"⟩
abbrev cX2_firstSlip : ByteArray := prog_4_method_3_code
def yX2_firstSlip : MethodName := ⟨RX2, "firstSlip", "(I[II)I"⟩
abbrev cX2_leastRatio : ByteArray := prog_4_method_4_code
def yX2_leastRatio : MethodName := ⟨RX2, "leastRatio", "(I[II)I"⟩
def RX3 : String := "ShaftWinder$Shaft"
def TX3 : u_T := fun k => match k with
  | 0 => ("ShaftWinder$Shaft", "deep", "I", false)
  | 1 => ("ShaftWinder$Shaft", "top", "I", false)
  | 2 => ("ShaftWinder$Shaft", "change", "I", false)
  | 3 => ("ShaftWinder$Shaft", "zones", "I", false)
  | _ => ("ShaftWinder$Shaft", "limits", "[I", true)
def tyX3 : Nat → FieldType := fun k => match k with
  | 0 => .int
  | 1 => .int
  | 2 => .int
  | 3 => .int
  | _ => .array .int
theorem nmX3 : ∀ a, a < 5 → ∀ b, b < 5 → a ≠ b → (TX3 a).2.1 ≠ (TX3 b).2.1 := by decide +kernel
theorem tyX3_ok : ∀ k, k < 5 → parseFieldDescriptor (TX3 k).2.2.1 = some (tyX3 k) := by decide +kernel
abbrev cX3_init : ByteArray := prog_5_method_1_code
def yX3_init : MethodName := ⟨RX3, "<init>", "()V"⟩
abbrev cX3_renew : ByteArray := prog_5_method_2_code
def yX3_renew : MethodName := ⟨RX3, "renew", "(III)V"⟩
abbrev cX3_has : ByteArray := prog_5_method_3_code
def yX3_has : MethodName := ⟨RX3, "has", "(I)Z"⟩
abbrev cX3_addZone : ByteArray := prog_5_method_4_code
def yX3_addZone : MethodName := ⟨RX3, "addZone", "(III)V"⟩
abbrev cX3_limitAt : ByteArray := prog_5_method_5_code
def yX3_limitAt : MethodName := ⟨RX3, "limitAt", "(I)I"⟩
abbrev cX3_greatestSpeed : ByteArray := prog_5_method_6_code
def yX3_greatestSpeed : MethodName := ⟨RX3, "greatestSpeed", "(II)I"⟩
abbrev cX3_allowsTick : ByteArray := prog_5_method_7_code
def yX3_allowsTick : MethodName := ⟨RX3, "allowsTick", "(III)Z"⟩
abbrev cX3_lawfulSpeeds : ByteArray := prog_5_method_8_code
def yX3_lawfulSpeeds : MethodName := ⟨RX3, "lawfulSpeeds", "(I[II)I"⟩
def RX4 : String := "ShaftWinder$Sheet"
def TX4 : u_T := fun k => match k with
  | 0 => ("ShaftWinder$Sheet", "items", "[I", true)
  | 1 => ("ShaftWinder$Sheet", "lost", "Z", false)
  | 2 => ("ShaftWinder$Sheet", "form", "I", false)
  | _ => ("ShaftWinder$Sheet", "size", "I", false)
def tyX4 : Nat → FieldType := fun k => match k with
  | 0 => .array .int
  | 1 => .boolean
  | 2 => .int
  | _ => .int
theorem nmX4 : ∀ a, a < 4 → ∀ b, b < 4 → a ≠ b → (TX4 a).2.1 ≠ (TX4 b).2.1 := by decide +kernel
theorem tyX4_ok : ∀ k, k < 4 → parseFieldDescriptor (TX4 k).2.2.1 = some (tyX4 k) := by decide +kernel
abbrev cX4_init : ByteArray := prog_6_method_1_code
def yX4_init : MethodName := ⟨RX4, "<init>", "()V"⟩
abbrev cX4_renew : ByteArray := prog_6_method_2_code
def yX4_renew : MethodName := ⟨RX4, "renew", "(II)V"⟩
abbrev cX4_hasItems : ByteArray := prog_6_method_3_code
def yX4_hasItems : MethodName := ⟨RX4, "hasItems", "(II)Z"⟩
abbrev cX4_store : ByteArray := prog_6_method_4_code
def yX4_store : MethodName := ⟨RX4, "store", "(II)V"⟩
def RX5 : String := "ShaftWinder$TickLog"
def TX5 : u_T := fun k => match k with
  | 0 => ("ShaftWinder$TickLog", "parts", "[I", true)
  | _ => ("ShaftWinder$TickLog", "noted", "I", false)
def tyX5 : Nat → FieldType := fun k => match k with
  | 0 => .array .int
  | _ => .int
theorem nmX5 : ∀ a, a < 2 → ∀ b, b < 2 → a ≠ b → (TX5 a).2.1 ≠ (TX5 b).2.1 := by decide +kernel
theorem tyX5_ok : ∀ k, k < 2 → parseFieldDescriptor (TX5 k).2.2.1 = some (tyX5 k) := by decide +kernel
abbrev cX5_init : ByteArray := prog_7_method_1_code
def yX5_init : MethodName := ⟨RX5, "<init>", "()V"⟩
abbrev cX5_size : ByteArray := prog_7_method_2_code
def yX5_size : MethodName := ⟨RX5, "size", "()I"⟩
abbrev cX5_note : ByteArray := prog_7_method_3_code
def yX5_note : MethodName := ⟨RX5, "note", "(III)V"⟩
abbrev cX5_latest : ByteArray := prog_7_method_4_code
def yX5_latest : MethodName := ⟨RX5, "latest", "(II)I"⟩
def RX6 : String := "ShaftWinder$Winding"
def TX6 : u_T := fun k => match k with
  | 0 => ("ShaftWinder$Winding", "shaft", "LShaftWinder$Shaft;", true)
  | 1 => ("ShaftWinder$Winding", "past", "LShaftWinder$TickLog;", true)
  | 2 => ("ShaftWinder$Winding", "linkOpen", "[Z", true)
  | 3 => ("ShaftWinder$Winding", "errors", "[I", true)
  | 4 => ("ShaftWinder$Winding", "ride", "[I", true)
  | 5 => ("ShaftWinder$Winding", "length", "I", false)
  | 6 => ("ShaftWinder$Winding", "ridden", "I", false)
  | 7 => ("ShaftWinder$Winding", "place", "I", false)
  | 8 => ("ShaftWinder$Winding", "speed", "I", false)
  | 9 => ("ShaftWinder$Winding", "how", "I", false)
  | 10 => ("ShaftWinder$Winding", "bell", "I", false)
  | 11 => ("ShaftWinder$Winding", "margin", "I", false)
  | 12 => ("ShaftWinder$Winding", "brake", "I", false)
  | 13 => ("ShaftWinder$Winding", "ended", "I", false)
  | _ => ("ShaftWinder$Winding", "braked", "I", false)
def tyX6 : Nat → FieldType := fun k => match k with
  | 0 => .object "ShaftWinder$Shaft"
  | 1 => .object "ShaftWinder$TickLog"
  | 2 => .array .boolean
  | 3 => .array .int
  | 4 => .array .int
  | 5 => .int
  | 6 => .int
  | 7 => .int
  | 8 => .int
  | 9 => .int
  | 10 => .int
  | 11 => .int
  | 12 => .int
  | 13 => .int
  | _ => .int
theorem nmX6 : ∀ a, a < 15 → ∀ b, b < 15 → a ≠ b → (TX6 a).2.1 ≠ (TX6 b).2.1 := by decide +kernel
theorem tyX6_ok : ∀ k, k < 15 → parseFieldDescriptor (TX6 k).2.2.1 = some (tyX6 k) := by decide +kernel
abbrev cX6_init : ByteArray := prog_8_method_1_code
def yX6_init : MethodName := ⟨RX6, "<init>", "(LShaftWinder$Shaft;)V"⟩
abbrev cX6_rests : ByteArray := prog_8_method_2_code
def yX6_rests : MethodName := ⟨RX6, "rests", "()Z"⟩
abbrev cX6_openLinks : ByteArray := prog_8_method_3_code
def yX6_openLinks : MethodName := ⟨RX6, "openLinks", "()I"⟩
abbrev cX6_told : ByteArray := prog_8_method_4_code
def yX6_told : MethodName := ⟨RX6, "told", "()I"⟩
abbrev cX6_ticksLeft : ByteArray := prog_8_method_5_code
def yX6_ticksLeft : MethodName := ⟨RX6, "ticksLeft", "()I"⟩
abbrev cX6_setOut : ByteArray := prog_8_method_6_code
def yX6_setOut : MethodName := ⟨RX6, "setOut", "(I)V"⟩
abbrev cX6_passTick : ByteArray := prog_8_method_7_code
def yX6_passTick : MethodName := ⟨RX6, "passTick", "()V"⟩
abbrev cX6_nextSpeed : ByteArray := prog_8_method_8_code
def yX6_nextSpeed : MethodName := ⟨RX6, "nextSpeed", "()I"⟩
abbrev cX6_mustBrake : ByteArray := prog_8_method_9_code
def yX6_mustBrake : MethodName := ⟨RX6, "mustBrake", "()Z"⟩
abbrev cX6_rideOn : ByteArray := prog_8_method_10_code
def yX6_rideOn : MethodName := ⟨RX6, "rideOn", "()V"⟩
abbrev cX6_slowDown : ByteArray := prog_8_method_11_code
def yX6_slowDown : MethodName := ⟨RX6, "slowDown", "()V"⟩
def RX7 : String := "ShaftWinder"
def TX7 : u_T := fun k => match k with
  | 0 => ("ShaftWinder", "shaft", "LShaftWinder$Shaft;", true)
  | 1 => ("ShaftWinder", "finder", "LShaftWinder$RideFinder;", true)
  | 2 => ("ShaftWinder", "winding", "LShaftWinder$Winding;", true)
  | 3 => ("ShaftWinder", "rope", "LShaftWinder$Rope;", true)
  | 4 => ("ShaftWinder", "book", "LShaftWinder$Book;", true)
  | 5 => ("ShaftWinder", "sheets", "[LShaftWinder$Sheet;", true)
  | 6 => ("ShaftWinder", "stopPlaces", "[I", true)
  | 7 => ("ShaftWinder", "stopCodes", "[I", true)
  | 8 => ("ShaftWinder", "stops", "I", false)
  | 9 => ("ShaftWinder", "latestFinding", "I", false)
  | _ => ("ShaftWinder", "asked", "[I", true)
def tyX7 : Nat → FieldType := fun k => match k with
  | 0 => .object "ShaftWinder$Shaft"
  | 1 => .object "ShaftWinder$RideFinder"
  | 2 => .object "ShaftWinder$Winding"
  | 3 => .object "ShaftWinder$Rope"
  | 4 => .object "ShaftWinder$Book"
  | 5 => .array (.object "ShaftWinder$Sheet")
  | 6 => .array .int
  | 7 => .array .int
  | 8 => .int
  | 9 => .int
  | _ => .array .int
theorem nmX7 : ∀ a, a < 11 → ∀ b, b < 11 → a ≠ b → (TX7 a).2.1 ≠ (TX7 b).2.1 := by decide +kernel
theorem tyX7_ok : ∀ k, k < 11 → parseFieldDescriptor (TX7 k).2.2.1 = some (tyX7 k) := by decide +kernel
abbrev cX7_init : ByteArray := prog_1_method_1_code
def yX7_init : MethodName := ⟨RX7, "<init>", "()V"⟩
abbrev cX7_shaft : ByteArray := prog_1_method_2_code
def yX7_shaft : MethodName := ⟨RX7, "shaft", "(III)I"⟩
abbrev cX7_zone : ByteArray := prog_1_method_3_code
def yX7_zone : MethodName := ⟨RX7, "zone", "(III)I"⟩
abbrev cX7_stop : ByteArray := prog_1_method_4_code
def yX7_stop : MethodName := ⟨RX7, "stop", "(II)I"⟩
abbrev cX7_most : ByteArray := prog_1_method_5_code
def yX7_most : MethodName := ⟨RX7, "most", "(II)I"⟩
abbrev cX7_ticks : ByteArray := prog_1_method_6_code
def yX7_ticks : MethodName := ⟨RX7, "ticks", "(I)I"⟩
abbrev cX7_speed : ByteArray := prog_1_method_7_code
def yX7_speed : MethodName := ⟨RX7, "speed", "(II)I"⟩
abbrev cX7_ring : ByteArray := prog_1_method_8_code
def yX7_ring : MethodName := ⟨RX7, "ring", "(I)I"⟩
abbrev cX7_link : ByteArray := prog_1_method_9_code
def yX7_link : MethodName := ⟨RX7, "link", "(IZ)I"⟩
abbrev cX7_error : ByteArray := prog_1_method_10_code
def yX7_error : MethodName := ⟨RX7, "error", "(II)I"⟩
abbrev cX7_guard : ByteArray := prog_1_method_11_code
def yX7_guard : MethodName := ⟨RX7, "guard", "(II)I"⟩
abbrev cX7_begin : ByteArray := prog_1_method_12_code
def yX7_begin : MethodName := ⟨RX7, "begin", "(I)I"⟩
abbrev cX7_pass : ByteArray := prog_1_method_13_code
def yX7_pass : MethodName := ⟨RX7, "pass", "(I)I"⟩
abbrev cX7_state : ByteArray := prog_1_method_14_code
def yX7_state : MethodName := ⟨RX7, "state", "(I)I"⟩
abbrev cX7_loads : ByteArray := prog_1_method_15_code
def yX7_loads : MethodName := ⟨RX7, "loads", "(III)I"⟩
abbrev cX7_ratio : ByteArray := prog_1_method_16_code
def yX7_ratio : MethodName := ⟨RX7, "ratio", "(I)I"⟩
abbrev cX7_slips : ByteArray := prog_1_method_17_code
def yX7_slips : MethodName := ⟨RX7, "slips", "(II)I"⟩
abbrev cX7_slipAt : ByteArray := prog_1_method_18_code
def yX7_slipAt : MethodName := ⟨RX7, "slipAt", "(I)I"⟩
abbrev cX7_hold : ByteArray := prog_1_method_19_code
def yX7_hold : MethodName := ⟨RX7, "hold", "(I)I"⟩
abbrev cX7_broken : ByteArray := prog_1_method_20_code
def yX7_broken : MethodName := ⟨RX7, "broken", "(II)I"⟩
abbrev cX7_worst : ByteArray := prog_1_method_21_code
def yX7_worst : MethodName := ⟨RX7, "worst", "(I)I"⟩
abbrev cX7_worstAt : ByteArray := prog_1_method_22_code
def yX7_worstAt : MethodName := ⟨RX7, "worstAt", "(I)I"⟩
abbrev cX7_cut : ByteArray := prog_1_method_23_code
def yX7_cut : MethodName := ⟨RX7, "cut", "(I)I"⟩
abbrev cX7_mend : ByteArray := prog_1_method_24_code
def yX7_mend : MethodName := ⟨RX7, "mend", "(II)I"⟩
abbrev cX7_shift : ByteArray := prog_1_method_25_code
def yX7_shift : MethodName := ⟨RX7, "shift", "(IIII)I"⟩
abbrev cX7_both : ByteArray := prog_1_method_26_code
def yX7_both : MethodName := ⟨RX7, "both", "(III)I"⟩
abbrev cX7_log : ByteArray := prog_1_method_27_code
def yX7_log : MethodName := ⟨RX7, "log", "(II)I"⟩
abbrev cX7_sheet : ByteArray := prog_1_method_28_code
def yX7_sheet : MethodName := ⟨RX7, "sheet", "(III)I"⟩
abbrev cX7_lose : ByteArray := prog_1_method_29_code
def yX7_lose : MethodName := ⟨RX7, "lose", "(I)I"⟩
abbrev cX7_put : ByteArray := prog_1_method_30_code
def yX7_put : MethodName := ⟨RX7, "put", "(IIII)I"⟩
abbrev cX7_get : ByteArray := prog_1_method_31_code
def yX7_get : MethodName := ⟨RX7, "get", "(III)I"⟩
abbrev cX7_copy : ByteArray := prog_1_method_32_code
def yX7_copy : MethodName := ⟨RX7, "copy", "(IIIII)I"⟩
abbrev cX7_read : ByteArray := prog_1_method_33_code
def yX7_read : MethodName := ⟨RX7, "read", "(I)I"⟩
abbrev cX7_write : ByteArray := prog_1_method_34_code
def yX7_write : MethodName := ⟨RX7, "write", "(II)I"⟩
abbrev cX7_plan : ByteArray := prog_1_method_35_code
def yX7_plan : MethodName := ⟨RX7, "plan", "(II)I"⟩
abbrev cX7_check : ByteArray := prog_1_method_36_code
def yX7_check : MethodName := ⟨RX7, "check", "(I)I"⟩
abbrev cX7_digest : ByteArray := prog_1_method_37_code
def yX7_digest : MethodName := ⟨RX7, "digest", "()J"⟩
abbrev cX7_within : ByteArray := prog_1_method_38_code
def yX7_within : MethodName := ⟨RX7, "within", "(III)Z"⟩
abbrev cX7_isSheet : ByteArray := prog_1_method_39_code
def yX7_isSheet : MethodName := ⟨RX7, "isSheet", "(I)Z"⟩
abbrev cX7_isForm : ByteArray := prog_1_method_40_code
def yX7_isForm : MethodName := ⟨RX7, "isForm", "(I)Z"⟩
abbrev cX7_areMen : ByteArray := prog_1_method_41_code
def yX7_areMen : MethodName := ⟨RX7, "areMen", "(III)Z"⟩
abbrev cX7_tripsFor : ByteArray := prog_1_method_42_code
def yX7_tripsFor : MethodName := ⟨RX7, "tripsFor", "(II)I"⟩
abbrev cX7_finding : ByteArray := prog_1_method_43_code
def yX7_finding : MethodName := ⟨RX7, "finding", "(I)I"⟩
abbrev cX7_wrongOfItem : ByteArray := prog_1_method_44_code
def yX7_wrongOfItem : MethodName := ⟨RX7, "wrongOfItem", "(LShaftWinder$Sheet;II)I"⟩
def RX8 : String := "ShaftWinderModel"
def TX8 : u_T := fun k => match k with
  | 0 => ("ShaftWinderModel", "deep", "I", false)
  | 1 => ("ShaftWinderModel", "top", "I", false)
  | 2 => ("ShaftWinderModel", "change", "I", false)
  | 3 => ("ShaftWinderModel", "zones", "I", false)
  | 4 => ("ShaftWinderModel", "zoneFrom", "[I", true)
  | 5 => ("ShaftWinderModel", "zoneTo", "[I", true)
  | 6 => ("ShaftWinderModel", "zoneSpeed", "[I", true)
  | 7 => ("ShaftWinderModel", "stops", "I", false)
  | 8 => ("ShaftWinderModel", "stopPlace", "[I", true)
  | 9 => ("ShaftWinderModel", "stopCode", "[I", true)
  | 10 => ("ShaftWinderModel", "place", "I", false)
  | 11 => ("ShaftWinderModel", "speed", "I", false)
  | 12 => ("ShaftWinderModel", "how", "I", false)
  | 13 => ("ShaftWinderModel", "bell", "I", false)
  | 14 => ("ShaftWinderModel", "isOpen", "[Z", true)
  | 15 => ("ShaftWinderModel", "errors", "[I", true)
  | 16 => ("ShaftWinderModel", "margin", "I", false)
  | 17 => ("ShaftWinderModel", "brake", "I", false)
  | 18 => ("ShaftWinderModel", "ticks", "I", false)
  | 19 => ("ShaftWinderModel", "ended", "I", false)
  | 20 => ("ShaftWinderModel", "braked", "I", false)
  | 21 => ("ShaftWinderModel", "ride", "[I", true)
  | 22 => ("ShaftWinderModel", "rideMany", "I", false)
  | 23 => ("ShaftWinderModel", "rideAt", "I", false)
  | 24 => ("ShaftWinderModel", "limits", "[I", true)
  | 25 => ("ShaftWinderModel", "left", "[I", true)
  | 26 => ("ShaftWinderModel", "queue", "[I", true)
  | 27 => ("ShaftWinderModel", "plan", "[I", true)
  | 28 => ("ShaftWinderModel", "logRows", "[I", true)
  | 29 => ("ShaftWinderModel", "load0", "I", false)
  | 30 => ("ShaftWinderModel", "load1", "I", false)
  | 31 => ("ShaftWinderModel", "weight", "I", false)
  | 32 => ("ShaftWinderModel", "ratio", "I", false)
  | 33 => ("ShaftWinderModel", "lays", "[I", true)
  | 34 => ("ShaftWinderModel", "isThere", "[Z", true)
  | 35 => ("ShaftWinderModel", "forms", "[I", true)
  | 36 => ("ShaftWinderModel", "sizes", "[I", true)
  | 37 => ("ShaftWinderModel", "items", "[I", true)
  | 38 => ("ShaftWinderModel", "moved", "[I", true)
  | _ => ("ShaftWinderModel", "finding", "I", false)
def tyX8 : Nat → FieldType := fun k => match k with
  | 0 => .int
  | 1 => .int
  | 2 => .int
  | 3 => .int
  | 4 => .array .int
  | 5 => .array .int
  | 6 => .array .int
  | 7 => .int
  | 8 => .array .int
  | 9 => .array .int
  | 10 => .int
  | 11 => .int
  | 12 => .int
  | 13 => .int
  | 14 => .array .boolean
  | 15 => .array .int
  | 16 => .int
  | 17 => .int
  | 18 => .int
  | 19 => .int
  | 20 => .int
  | 21 => .array .int
  | 22 => .int
  | 23 => .int
  | 24 => .array .int
  | 25 => .array .int
  | 26 => .array .int
  | 27 => .array .int
  | 28 => .array .int
  | 29 => .int
  | 30 => .int
  | 31 => .int
  | 32 => .int
  | 33 => .array .int
  | 34 => .array .boolean
  | 35 => .array .int
  | 36 => .array .int
  | 37 => .array .int
  | 38 => .array .int
  | _ => .int
theorem nmX8 : ∀ a, a < 40 → ∀ b, b < 40 → a ≠ b → (TX8 a).2.1 ≠ (TX8 b).2.1 := by decide +kernel
theorem tyX8_ok : ∀ k, k < 40 → parseFieldDescriptor (TX8 k).2.2.1 = some (tyX8 k) := by decide +kernel
abbrev cX8_init : ByteArray := prog_10_method_1_code
def yX8_init : MethodName := ⟨RX8, "<init>", "()V"⟩
abbrev cX8_in : ByteArray := prog_10_method_3_code
def yX8_in : MethodName := ⟨RX8, "in", "(III)Z"⟩
abbrev cX8_shaft : ByteArray := prog_10_method_4_code
def yX8_shaft : MethodName := ⟨RX8, "shaft", "(III)I"⟩
abbrev cX8_isPlace : ByteArray := prog_10_method_5_code
def yX8_isPlace : MethodName := ⟨RX8, "isPlace", "(I)Z"⟩
abbrev cX8_zone : ByteArray := prog_10_method_6_code
def yX8_zone : MethodName := ⟨RX8, "zone", "(III)I"⟩
abbrev cX8_stop : ByteArray := prog_10_method_7_code
def yX8_stop : MethodName := ⟨RX8, "stop", "(II)I"⟩
abbrev cX8_allowed : ByteArray := prog_10_method_8_code
def yX8_allowed : MethodName := ⟨RX8, "allowed", "(I)I"⟩
abbrev cX8_lookAtZones : ByteArray := prog_10_method_9_code
def yX8_lookAtZones : MethodName := ⟨RX8, "lookAtZones", "()V"⟩
abbrev cX8_isTick : ByteArray := prog_10_method_10_code
def yX8_isTick : MethodName := ⟨RX8, "isTick", "(II)Z"⟩
abbrev cX8_most : ByteArray := prog_10_method_11_code
def yX8_most : MethodName := ⟨RX8, "most", "(II)I"⟩
abbrev cX8_workBack : ByteArray := prog_10_method_12_code
def yX8_workBack : MethodName := ⟨RX8, "workBack", "(I)V"⟩
abbrev cX8_plans : ByteArray := prog_10_method_13_code
def yX8_plans : MethodName := ⟨RX8, "plans", "(II)I"⟩
abbrev cX8_goes : ByteArray := prog_10_method_14_code
def yX8_goes : MethodName := ⟨RX8, "goes", "(III)Z"⟩
abbrev cX8_ticks : ByteArray := prog_10_method_15_code
def yX8_ticks : MethodName := ⟨RX8, "ticks", "(I)I"⟩
abbrev cX8_speed : ByteArray := prog_10_method_16_code
def yX8_speed : MethodName := ⟨RX8, "speed", "(II)I"⟩
abbrev cX8_ring : ByteArray := prog_10_method_17_code
def yX8_ring : MethodName := ⟨RX8, "ring", "(I)I"⟩
abbrev cX8_link : ByteArray := prog_10_method_18_code
def yX8_link : MethodName := ⟨RX8, "link", "(IZ)I"⟩
abbrev cX8_error : ByteArray := prog_10_method_19_code
def yX8_error : MethodName := ⟨RX8, "error", "(II)I"⟩
abbrev cX8_guard : ByteArray := prog_10_method_20_code
def yX8_guard : MethodName := ⟨RX8, "guard", "(II)I"⟩
abbrev cX8_opens : ByteArray := prog_10_method_21_code
def yX8_opens : MethodName := ⟨RX8, "opens", "()I"⟩
abbrev cX8_told : ByteArray := prog_10_method_22_code
def yX8_told : MethodName := ⟨RX8, "told", "()I"⟩
abbrev cX8_begin : ByteArray := prog_10_method_23_code
def yX8_begin : MethodName := ⟨RX8, "begin", "(I)I"⟩
abbrev cX8_brakes : ByteArray := prog_10_method_24_code
def yX8_brakes : MethodName := ⟨RX8, "brakes", "()V"⟩
abbrev cX8_rides : ByteArray := prog_10_method_25_code
def yX8_rides : MethodName := ⟨RX8, "rides", "()V"⟩
abbrev cX8_pass : ByteArray := prog_10_method_26_code
def yX8_pass : MethodName := ⟨RX8, "pass", "(I)I"⟩
abbrev cX8_state : ByteArray := prog_10_method_27_code
def yX8_state : MethodName := ⟨RX8, "state", "(I)I"⟩
abbrev cX8_loads : ByteArray := prog_10_method_28_code
def yX8_loads : MethodName := ⟨RX8, "loads", "(III)I"⟩
abbrev cX8_ratio : ByteArray := prog_10_method_29_code
def yX8_ratio : MethodName := ⟨RX8, "ratio", "(I)I"⟩
abbrev cX8_isSlipping : ByteArray := prog_10_method_30_code
def yX8_isSlipping : MethodName := ⟨RX8, "isSlipping", "(III)Z"⟩
abbrev cX8_slips : ByteArray := prog_10_method_31_code
def yX8_slips : MethodName := ⟨RX8, "slips", "(II)I"⟩
abbrev cX8_firstSlip : ByteArray := prog_10_method_32_code
def yX8_firstSlip : MethodName := ⟨RX8, "firstSlip", "(III)I"⟩
abbrev cX8_slipAt : ByteArray := prog_10_method_33_code
def yX8_slipAt : MethodName := ⟨RX8, "slipAt", "(I)I"⟩
abbrev cX8_hold : ByteArray := prog_10_method_34_code
def yX8_hold : MethodName := ⟨RX8, "hold", "(I)I"⟩
abbrev cX8_broken : ByteArray := prog_10_method_35_code
def yX8_broken : MethodName := ⟨RX8, "broken", "(II)I"⟩
abbrev cX8_worstFrom : ByteArray := prog_10_method_36_code
def yX8_worstFrom : MethodName := ⟨RX8, "worstFrom", "(II)I"⟩
abbrev cX8_sumOf : ByteArray := prog_10_method_37_code
def yX8_sumOf : MethodName := ⟨RX8, "sumOf", "(II)I"⟩
abbrev cX8_worst : ByteArray := prog_10_method_38_code
def yX8_worst : MethodName := ⟨RX8, "worst", "(I)I"⟩
abbrev cX8_worstAt : ByteArray := prog_10_method_39_code
def yX8_worstAt : MethodName := ⟨RX8, "worstAt", "(I)I"⟩
abbrev cX8_cut : ByteArray := prog_10_method_40_code
def yX8_cut : MethodName := ⟨RX8, "cut", "(I)I"⟩
abbrev cX8_mend : ByteArray := prog_10_method_41_code
def yX8_mend : MethodName := ⟨RX8, "mend", "(II)I"⟩
abbrev cX8_areMen : ByteArray := prog_10_method_42_code
def yX8_areMen : MethodName := ⟨RX8, "areMen", "(III)Z"⟩
abbrev cX8_shift : ByteArray := prog_10_method_43_code
def yX8_shift : MethodName := ⟨RX8, "shift", "(IIII)I"⟩
abbrev cX8_both : ByteArray := prog_10_method_44_code
def yX8_both : MethodName := ⟨RX8, "both", "(III)I"⟩
abbrev cX8_logged : ByteArray := prog_10_method_45_code
def yX8_logged : MethodName := ⟨RX8, "logged", "()I"⟩
abbrev cX8_log : ByteArray := prog_10_method_46_code
def yX8_log : MethodName := ⟨RX8, "log", "(II)I"⟩
abbrev cX8_meets : ByteArray := prog_10_method_47_code
def yX8_meets : MethodName := ⟨RX8, "meets", "(I)I"⟩
abbrev cX8_isSheet : ByteArray := prog_10_method_48_code
def yX8_isSheet : MethodName := ⟨RX8, "isSheet", "(I)Z"⟩
abbrev cX8_sheet : ByteArray := prog_10_method_49_code
def yX8_sheet : MethodName := ⟨RX8, "sheet", "(III)I"⟩
abbrev cX8_lose : ByteArray := prog_10_method_50_code
def yX8_lose : MethodName := ⟨RX8, "lose", "(I)I"⟩
abbrev cX8_lacks : ByteArray := prog_10_method_51_code
def yX8_lacks : MethodName := ⟨RX8, "lacks", "(III)I"⟩
abbrev cX8_lay : ByteArray := prog_10_method_52_code
def yX8_lay : MethodName := ⟨RX8, "lay", "(III)V"⟩
abbrev cX8_put : ByteArray := prog_10_method_53_code
def yX8_put : MethodName := ⟨RX8, "put", "(IIII)I"⟩
abbrev cX8_get : ByteArray := prog_10_method_54_code
def yX8_get : MethodName := ⟨RX8, "get", "(III)I"⟩
abbrev cX8_copy : ByteArray := prog_10_method_55_code
def yX8_copy : MethodName := ⟨RX8, "copy", "(IIIII)I"⟩
abbrev cX8_read : ByteArray := prog_10_method_56_code
def yX8_read : MethodName := ⟨RX8, "read", "(I)I"⟩
abbrev cX8_write : ByteArray := prog_10_method_57_code
def yX8_write : MethodName := ⟨RX8, "write", "(II)I"⟩
abbrev cX8_plan : ByteArray := prog_10_method_58_code
def yX8_plan : MethodName := ⟨RX8, "plan", "(II)I"⟩
abbrev cX8_check : ByteArray := prog_10_method_59_code
def yX8_check : MethodName := ⟨RX8, "check", "(I)I"⟩
abbrev cX8_fits : ByteArray := prog_10_method_60_code
def yX8_fits : MethodName := ⟨RX8, "fits", "(III)Z"⟩
abbrev cX8_digest : ByteArray := prog_10_method_61_code
def yX8_digest : MethodName := ⟨RX8, "digest", "()J"⟩
def RJ9 : String := "java/lang/Math"
def TJ9 : u_T := fun k => match k with
  | _ => ("", "", "", false)
def tyJ9 : Nat → FieldType := fun k => match k with
  | _ => .int
abbrev wsJ90 : List Cond := u_ws RJ9 TJ9 0
theorem nmJ9 : ∀ a, a < 0 → ∀ b, b < 0 → a ≠ b → (TJ9 a).2.1 ≠ (TJ9 b).2.1 := by decide +kernel
theorem tyJ9_ok : ∀ k, k < 0 → parseFieldDescriptor (TJ9 k).2.2.1 = some (tyJ9 k) := by decide +kernel
abbrev cJ9_floorMod_7cf53 : ByteArray := prog_11_method_50_code
def yJ9_floorMod_7cf53 : MethodName := ⟨RJ9, "floorMod", "(II)I"⟩
abbrev cJ9_abs_0f7a4 : ByteArray := prog_11_method_59_code
def yJ9_abs_0f7a4 : MethodName := ⟨RJ9, "abs", "(I)I"⟩
abbrev cJ9_max_7cf53 : ByteArray := prog_11_method_65_code
def yJ9_max_7cf53 : MethodName := ⟨RJ9, "max", "(II)I"⟩
abbrev cJ9_min_7cf53 : ByteArray := prog_11_method_69_code
def yJ9_min_7cf53 : MethodName := ⟨RJ9, "min", "(II)I"⟩
def RJ10 : String := "java/lang/System"
def TJ10 : u_T := fun k => match k with
  | _ => ("", "", "", false)
def tyJ10 : Nat → FieldType := fun k => match k with
  | _ => .int
abbrev wsJ100 : List Cond := u_ws RJ10 TJ10 0
theorem nmJ10 : ∀ a, a < 0 → ∀ b, b < 0 → a ≠ b → (TJ10 a).2.1 ≠ (TJ10 b).2.1 := by decide +kernel
theorem tyJ10_ok : ∀ k, k < 0 → parseFieldDescriptor (TJ10 k).2.2.1 = some (tyJ10 k) := by decide +kernel
def RJ7 : String := "java/util/Arrays"
def TJ7 : u_T := fun k => match k with
  | _ => ("", "", "", false)
def tyJ7 : Nat → FieldType := fun k => match k with
  | _ => .int
abbrev wsJ70 : List Cond := u_ws RJ7 TJ7 0
theorem nmJ7 : ∀ a, a < 0 → ∀ b, b < 0 → a ≠ b → (TJ7 a).2.1 ≠ (TJ7 b).2.1 := by decide +kernel
theorem tyJ7_ok : ∀ k, k < 0 → parseFieldDescriptor (TJ7 k).2.2.1 = some (tyJ7 k) := by decide +kernel
abbrev cJ7_fill_53178 : ByteArray := prog_13_method_103_code
def yJ7_fill_53178 : MethodName := ⟨RJ7, "fill", "([II)V"⟩
def RL : String := "ShaftWinderLaw"
abbrev cL_law : ByteArray := code
def yL_law : MethodName := ⟨RL, "law", "([I)Z"⟩
end
section
/-! THE PLAIN MACHINE: values are whole numbers (Int), longs (Int) and places of cells (Nat); the cells and where they refer to are fixed; a state of the heap is a table of numbers. -/
abbrev sw_Vl : Type := Int ⊕ Int ⊕ Nat
abbrev sw_L : Type := List (Nat × sw_Vl)
abbrev sw_S : Type := Nat → Nat → Int
abbrev sw_Rf : Type := Nat → Nat → Option Nat
abbrev sw_I : Type := Instr × Nat × Nat × Int
abbrev sw_M : Type := MethodName × ByteArray × Nat × Option FieldType × Nat × Nat
abbrev sw_C3 : Type := ClassId × ClassId × ClassId
abbrev sw_Ly : Type := List (Nat × Nat)
abbrev sw_cl : List vw_C := [(RX0, TX0, 1), (RX1, TX1, 5), (RX2, TX2, 5), (RX3, TX3, 5), (RX4, TX4, 4), (RX5, TX5, 2), (RX6, TX6, 15), (RX7, TX7, 11), (RX8, TX8, 40)]
/-- the words of the tables that stay as they are -/
def sw_tb : List Cond := lw_tbl.filter goodWord
def sw_tv (ad : Nat → Nat) : sw_Vl → Value
  | .inl x => .int (Int32.ofInt x)
  | .inr (.inl x) => .long (Int64.ofInt x)
  | .inr (.inr a) => .ref (ad a)
def sw_cat : sw_Vl → Nat
  | .inl _ => 1
  | .inr (.inl _) => 2
  | .inr (.inr _) => 1
theorem sw_tv_cat (ad : Nat → Nat) (v : sw_Vl) : (sw_tv ad v).category = sw_cat v := by rcases v with x | x | a <;> rfl
def sw_tl (ad : Nat → Nat) (L : sw_L) : List (Nat × Value) := L.map fun q => (q.1, sw_tv ad q.2)
def sw_N (a : Nat) : Nat := match sw_cl[a]? with
  | some r => r.2.2
  | none => 0
def sw_fv (ad : Nat → Nat) (r : Option Nat) (x : Int) : Value := match r with
  | some a => .ref (ad a)
  | none => .int (Int32.ofInt x)
def sw_ce (c3 : sw_C3) (ad : Nat → Nat) (ρ : sw_Rf) (σ : sw_S) (i : Nat) (k : Nat × Nat) : va_E :=
  if k.1 = 100 then .inl (c3.1, k.2, .inl fun j => Int32.ofInt (σ i j))
  else if k.1 = 101 then .inl (c3.2.1, k.2, .inl fun j => Int32.ofInt (σ i j))
  else if k.1 = 102 then .inl (c3.2.2, k.2, .inr (.inr (.inr (.inr fun j => (ρ i j).map ad))))
  else .inr (k.1, (List.range (sw_N k.1)).map fun j => sw_fv ad (ρ i j) (σ i j))
def sw_wl (c3 : sw_C3) (ad : Nat → Nat) (ly : sw_Ly) (ρ : sw_Rf) (σ : sw_S) : va_W := ly.mapIdx fun i k => (ad i, sw_ce c3 ad ρ σ i k)
theorem sw_wl_at {c3 : sw_C3} {ad : Nat → Nat} {ly : sw_Ly} {ρ : sw_Rf} {σ : sw_S} {i : Nat} {k : Nat × Nat} (h : ly[i]? = some k) : (sw_wl c3 ad ly ρ σ)[i]? = some (ad i, sw_ce c3 ad ρ σ i k) := by
  simp [sw_wl, h]
theorem sw_ce_cong {c3 : sw_C3} {ad : Nat → Nat} {ρ : sw_Rf} {σ σ' : sw_S} {i : Nat} {k : Nat × Nat} (h : ∀ j, σ' i j = σ i j) : sw_ce c3 ad ρ σ' i k = sw_ce c3 ad ρ σ i k := by
  unfold sw_ce
  simp only [h]
def sw_u (σ : sw_S) (i j : Nat) (v : Int) : sw_S := fun a b => if a = i ∧ b = j then v else σ a b
theorem sw_u_same (σ : sw_S) (i j : Nat) (v : Int) : sw_u σ i j v i j = v := by simp [sw_u]
theorem sw_u_ne (σ : sw_S) {i j a b : Nat} (v : Int) (h : ¬ (a = i ∧ b = j)) : sw_u σ i j v a b = σ a b := by simp [sw_u, h]
theorem sw_u_row (σ : sw_S) {i j a b : Nat} (v : Int) (h : a ≠ i) : sw_u σ i j v a b = σ a b := sw_u_ne σ v (fun q => h q.1)
theorem sw_wl_set {c3 : sw_C3} {ad : Nat → Nat} {ly : sw_Ly} {ρ : sw_Rf} {σ σ' : sw_S} {i : Nat} {k : Nat × Nat} (h : ly[i]? = some k) (ho : ∀ a b, a ≠ i → σ' a b = σ a b) : (sw_wl c3 ad ly ρ σ).set i (ad i, sw_ce c3 ad ρ σ' i k) = sw_wl c3 ad ly ρ σ' := by
  apply List.ext_getElem?
  intro n
  have hi : i < ly.length := (List.getElem?_eq_some_iff.mp h).1
  by_cases hn : n = i
  · subst hn
    rw [List.getElem?_set_self (by simpa [sw_wl] using hi), sw_wl_at h]
  · rw [List.getElem?_set_ne (Ne.symm hn)]
    cases hk : ly[n]? with
    | none => simp [sw_wl, hk]
    | some k' => rw [sw_wl_at hk, sw_wl_at hk, sw_ce_cong (fun j => ho n j hn)]
def sw_A (ad : Nat → Nat) (n sz : Nat) : Nat → Prop := fun q => (∃ i, i < n ∧ q = ad i) ∨ sz ≤ q
def sw_inj (ad : Nat → Nat) (n : Nat) : Prop := ∀ i j, i < n → j < n → ad i = ad j → i = j
theorem sw_D {c3 : sw_C3} {ad : Nat → Nat} {ly : sw_Ly} {ρ : sw_Rf} {σ : sw_S} {sz : Nat} (hj : sw_inj ad ly.length) : va_D (sw_A ad ly.length sz) (sw_wl c3 ad ly ρ σ) := by
  have key : ∀ (k : Nat) (q : Nat × va_E), (sw_wl c3 ad ly ρ σ)[k]? = some q → k < ly.length ∧ q.1 = ad k := by
    intro k q hk
    cases h : ly[k]? with
    | none => simp [sw_wl, h] at hk
    | some kd =>
      rw [sw_wl_at h] at hk
      cases hk
      exact ⟨(List.getElem?_eq_some_iff.mp h).1, rfl⟩
  refine ⟨fun i j x y hx hy hxy => ?_, fun k q hk => ?_⟩
  · obtain ⟨h1, e1⟩ := key i x hx
    obtain ⟨h2, e2⟩ := key j y hy
    exact hj i j h1 h2 (by rw [← e1, ← e2, hxy])
  · obtain ⟨h1, e1⟩ := key k q hk
    exact Or.inl ⟨k, h1, e1⟩
abbrev sw_tys (c3 : sw_C3) : List (ClassId × FieldType) := [(c3.1, .int), (c3.2.1, .boolean), (c3.2.2, .object "ShaftWinder$Sheet")]
def sw_ws (M : sw_M) : List Cond := Cond.code M.1 M.2.1 M.2.2.1 M.2.2.2.1 :: sw_tb
def sw_rm (M : sw_M) : Room := { frames := M.2.2.2.2.1, cells := 0, slots := 0, locals := M.2.2.2.2.2 }
def sw_Qc (D : va_G) (c3 : sw_C3) (ad : Nat → Nat) (ly : sw_Ly) (ρ : sw_Rf) (Q : Option sw_Vl → sw_S → Prop) (A : Nat → Prop) : Array Value → State → Outcome → State → Prop := fun _ st oc t =>
  (∃ (r : Option sw_Vl) (σ' : sw_S), oc = .returned (r.map (sw_tv ad)) ∧ Q r σ' ∧ va_P D sw_cl (sw_wl c3 ad ly ρ σ') t.heap ∧ va_K D sw_cl (sw_tys c3) t) ∧ va_F A st t
def sw_Pc (D : va_G) (c3 : sw_C3) (ad : Nat → Nat) (ly : sw_Ly) (ρ : sw_Rf) (σ : sw_S) (args : List sw_Vl) (sz : Nat) : Array Value → State → Prop := va_Pc (args.map (sw_tv ad)) (fun U => U.heap.size = sz ∧ va_P D sw_cl (sw_wl c3 ad ly ρ σ) U.heap ∧ va_K D sw_cl (sw_tys c3) U)
/-- THE CONTRACT of a method over the plain machine: from these numbers it returns, and Q holds of its answer and the numbers behind it -/
def sw_Con (ly : sw_Ly) (ρ : sw_Rf) (M : sw_M) (args : List sw_Vl) (σ : sw_S) (Q : Option sw_Vl → sw_S → Prop) : Prop :=
  ∀ (l : Launch) (D : va_G) (c3 : sw_C3) (ad : Nat → Nat) (sz : Nat), sw_inj ad ly.length → Met l M.1 (sw_ws M) (sw_rm M) (sw_Pc D c3 ad ly ρ σ args sz) (sw_Qc D c3 ad ly ρ Q (sw_A ad ly.length sz)) 0 0 (sw_A ad ly.length sz)
def sw_CX (M : sw_M) (D : va_G) (c3 : sw_C3) (ad : Nat → Nat) (n : Nat) (p : Program) (s : State) (m : MethodId) (args : Array Value) (meth : Method) (c : Code) : Prop :=
  p.tables.exec = Jvm.exec ∧ c.code = M.2.1 ∧ meth.sig.returnType = M.2.2.2.1 ∧ c.maxLocals = M.2.2.1 ∧ s.vm.findClass M.1.cls = some m.cls ∧ (∀ w ∈ sw_tb, w.before args s = true) ∧ meth.locks = false ∧ va_K D sw_cl (sw_tys c3) s ∧ sw_inj ad n
/-- within a method: from this place, with these locals, this stack and these numbers, it comes to its end with Q -/
def sw_E (ly : sw_Ly) (ρ : sw_Rf) (M : sw_M) (pc : Nat) (L : sw_L) (st : List sw_Vl) (σ : sw_S) (Q : Option sw_Vl → sw_S → Prop) : Prop :=
  ∀ (l : Launch) (D : va_G) (c3 : sw_C3) (ad : Nat → Nat) (p : Program) (e : Env) (s : State) (m : MethodId) (args : Array Value) (below : List Frame) (meth : Method) (c : Code) (H : Heap) (locs : List Loc) (ls : Array Slot),
    sw_CX M D c3 ad ly.length p s m args meth c → va_P D sw_cl (sw_wl c3 ad ly ρ σ) H → va_S (sw_A ad ly.length s.heap.size) s.heap H locs → lv_has ls M.2.2.1 (sw_tl ad L) →
    W p l e (sw_rm M) s m args below meth c H locs 0 0 (MQ below (sw_Qc D c3 ad ly ρ Q (sw_A ad ly.length s.heap.size)) args s 0 0 (sw_A ad ly.length s.heap.size)) (F0 m pc ls (st.map (sw_tv ad)))
def sw_L0 : Nat → List sw_Vl → sw_L
  | _, [] => []
  | i, v :: vs => (i, v) :: sw_L0 (if sw_cat v = 2 then i + 2 else i + 1) vs
theorem sw_L0_tl (ad : Nat → Nat) : ∀ (vs : List sw_Vl) (i : Nat), lv_args i (vs.map (sw_tv ad)) = sw_tl ad (sw_L0 i vs)
  | [], _ => rfl
  | v :: vs, i => by
    have h := sw_L0_tl ad vs (if sw_cat v = 2 then i + 2 else i + 1)
    simp only [List.map_cons, lv_args, sw_L0, sw_tl, sw_tv_cat] at h ⊢
    rw [h]
def sw_wd : List sw_Vl → Nat
  | [] => 0
  | v :: vs => sw_cat v + sw_wd vs
theorem sw_wd_sl (ad : Nat → Nat) : ∀ (vs : List sw_Vl), (lg_sl (vs.map (sw_tv ad))).length = sw_wd vs
  | [] => rfl
  | v :: vs => by
    have h := sw_wd_sl ad vs
    have hc := sw_tv_cat ad v
    simp only [lg_sl, List.map_cons, List.flatMap_cons, List.length_append, sw_wd] at h ⊢
    rw [h]
    rcases v with x | x | a <;> simp [sw_tv, sw_cat, Value.category]
theorem sw_con {ly : sw_Ly} {ρ : sw_Rf} {M : sw_M} {args : List sw_Vl} {σ : sw_S} {Q : Option sw_Vl → sw_S → Prop} (hy : plainName M.1.cls = true) (hw : sw_wd args ≤ M.2.2.1) (hE : sw_E ly ρ M 0 (sw_L0 0 args) [] σ Q) : sw_Con ly ρ M args σ Q := by
  intro l D c3 ad sz hj
  refine Met.ofW (cc := M.2.1) (maxL := M.2.2.1) (ret := M.2.2.2.1) hy rfl ?_
  intro p e s m args' below meth c s₁ B hml hv
  obtain ⟨rfl, hsz, hP, hK⟩ := hv
  subst hsz
  have hts := atoms_spec (ws := sw_ws M) B.pre
  rw [lg_entry_eq]
  have hl := lv_entry (args.map (sw_tv ad)) (n := M.2.2.1) (by rw [sw_wd_sl]; exact hw)
  rw [sw_L0_tl] at hl
  exact hE l D c3 ad p e s m _ below meth c s.heap [] _ ⟨B.exec, B.bytes, B.returns, hml, findClass_of_methodNamed B.named, fun w hw => hts w (List.mem_cons_of_mem _ hw), B.notSynchronized, hK, hj⟩ hP va_S.rf hl
/-- numbers within the ints -/
def sw_g (x : Int) : Prop := -2147483648 ≤ x ∧ x < 2147483648
theorem sw_ti {x : Int} (h : sw_g x) : (Int32.ofInt x).toInt = x := Int32.toInt_ofInt_of_le (by have := h.1; omega) (by have := h.2; omega)
theorem sw_lt {x y : Int} (hx : sw_g x) (hy : sw_g y) : Int32.ofInt x < Int32.ofInt y ↔ x < y := by rw [Int32.lt_iff_toInt_lt, sw_ti hx, sw_ti hy]
theorem sw_le {x y : Int} (hx : sw_g x) (hy : sw_g y) : Int32.ofInt x ≤ Int32.ofInt y ↔ x ≤ y := by rw [Int32.le_iff_toInt_le, sw_ti hx, sw_ti hy]
theorem sw_eq {x y : Int} (hx : sw_g x) (hy : sw_g y) : Int32.ofInt x = Int32.ofInt y ↔ x = y := by rw [← Int32.toInt_inj, sw_ti hx, sw_ti hy]
theorem sw_g0 : sw_g 0 := ⟨by decide, by decide⟩
theorem sw_of0 : Int32.ofInt 0 = 0 := rfl
theorem sw_ix {x : Int} {n : Nat} (h0 : 0 ≤ x) (hn : x < n) (hg : (n : Int) ≤ 2147483648) : vp_in (Int32.ofInt x) n ∧ (Int32.ofInt x).toNatClampNeg = x.toNat := by
  have hx : sw_g x := ⟨by omega, by omega⟩
  have e : (Int32.ofInt x).toNatClampNeg = x.toNat := by
    show (Int32.ofInt x).toInt.toNat = _
    rw [sw_ti hx]
  refine ⟨?_, e⟩
  rw [vp_in_iff, sw_ti hx]
  exact ⟨h0, hn⟩
end
section
def sw_len (x : sw_I) : Nat := match x.1 with
  | .bipush _ => 2
  | .iload _ => 2
  | .aload _ => 2
  | .lload _ => 2
  | .istore _ => 2
  | .astore _ => 2
  | .lstore _ => 2
  | .ldc _ => 2
  | .sipush _ => 3
  | .ldc2_w _ => 3
  | .iinc _ _ => 3
  | .goto _ => 3
  | .if_icmp _ _ => 3
  | .ifCond _ _ => 3
  | .getfield _ => 3
  | .putfield _ => 3
  | .invokestatic _ => 3
  | .invokevirtual _ => 3
  | .invokespecial _ => 3
  | .tableswitch _ _ _ _ => x.2.1
  | .lookupswitch _ _ => x.2.1
  | _ => 1
def sw_okf (own : String) (idx a b : Nat) : Bool := match sw_cl[a]? with
  | some r => decide (b < r.2.2) && decide (Cond.fieldLink own idx (r.2.1 b).1 (r.2.1 b).2.1 (r.2.1 b).2.2.1 ∈ sw_tb)
  | none => false
def sw_okp (a b : Nat) (z : Int) : Bool := match sw_cl[a]? with
  | some r => !(r.2.1 b).2.2.2 && (decide ((r.2.1 b).2.2.1 = "I") || (decide ((r.2.1 b).2.2.1 = "Z") && decide (z = 1)))
  | none => false
def sw_ok2 (own : String) (x : sw_I) : Bool := match x.1 with
  | .bipush n => decide ((Int8.ofInt n).toInt32 = Int32.ofInt x.2.2.2)
  | .sipush n => decide ((Int16.ofInt n).toInt32 = Int32.ofInt x.2.2.2)
  | .ldc idx => decide (Cond.constant own idx (Int32.ofInt x.2.2.2) ∈ sw_tb)
  | .ldc2_w idx => decide (Cond.constantLong own idx (Int64.ofInt x.2.2.2) ∈ sw_tb)
  | .getfield idx => sw_okf own idx x.2.1 x.2.2.1
  | .putfield idx => sw_okf own idx x.2.1 x.2.2.1 && sw_okp x.2.1 x.2.2.1 x.2.2.2
  | _ => true
def sw_ok1 (own : String) (cc : ByteArray) (pc : Nat) (x : sw_I) : Bool := decide (decode cc pc = .ok (x.1, sw_len x)) && sw_ok2 own x
def sw_ok : String → ByteArray → Nat → List (Option sw_I) → Bool
  | _, _, _, [] => true
  | own, cc, pc, none :: r => sw_ok own cc (pc + 1) r
  | own, cc, pc, some x :: r => sw_ok1 own cc pc x && sw_ok own cc (pc + 1) r
theorem sw_ok_at {own : String} {cc : ByteArray} : ∀ {I : List (Option sw_I)} {p0 pc : Nat} {x : sw_I}, sw_ok own cc p0 I = true → I[pc]? = some (some x) → sw_ok1 own cc (p0 + pc) x = true
  | [], _, _, _, _, h => by simp at h
  | none :: r, p0, 0, x, _, h => by simp at h
  | none :: r, p0, pc + 1, x, hk, h => by
    have := sw_ok_at (I := r) (p0 := p0 + 1) (pc := pc) (x := x) (by simpa [sw_ok] using hk) (by simpa using h)
    rw [show p0 + (pc + 1) = p0 + 1 + pc by omega]; exact this
  | some y :: r, p0, 0, x, hk, h => by
    simp only [List.getElem?_cons_zero, Option.some.injEq] at h
    subst h
    simp only [sw_ok, Bool.and_eq_true] at hk
    exact hk.1
  | some y :: r, p0, pc + 1, x, hk, h => by
    simp only [sw_ok, Bool.and_eq_true] at hk
    have := sw_ok_at (I := r) (p0 := p0 + 1) (pc := pc) (x := x) hk.2 (by simpa using h)
    rw [show p0 + (pc + 1) = p0 + 1 + pc by omega]; exact this
def sw_Ok (M : sw_M) (I : List (Option sw_I)) : Prop := sw_ok M.1.cls M.2.1 0 I = true
theorem sw_dec {M : sw_M} {I : List (Option sw_I)} {pc : Nat} {x : sw_I} (hI : sw_Ok M I) (h : I[pc]? = some (some x)) : decode M.2.1 pc = .ok (x.1, sw_len x) ∧ sw_ok2 M.1.cls x = true := by
  have h1 := sw_ok_at hI h
  simp only [sw_ok1, Bool.and_eq_true, decide_eq_true_eq, Nat.zero_add] at h1
  exact h1
/-- each class's words -/
theorem sw_clf : ∀ (a : Nat) (r : vw_C), sw_cl[a]? = some r → (∀ w ∈ u_ws r.1 r.2.1 r.2.2, w ∈ sw_tb) ∧ (∃ ty0 : Nat → FieldType, ∀ k, k < r.2.2 → parseFieldDescriptor (r.2.1 k).2.2.1 = some (ty0 k)) ∧ (∀ a, a < r.2.2 → ∀ b, b < r.2.2 → a ≠ b → (r.2.1 a).2.1 ≠ (r.2.1 b).2.1)
  | 0, r, h => by cases h; exact ⟨by decide +kernel, ⟨_, tyX0_ok⟩, nmX0⟩
  | 1, r, h => by cases h; exact ⟨by decide +kernel, ⟨_, tyX1_ok⟩, nmX1⟩
  | 2, r, h => by cases h; exact ⟨by decide +kernel, ⟨_, tyX2_ok⟩, nmX2⟩
  | 3, r, h => by cases h; exact ⟨by decide +kernel, ⟨_, tyX3_ok⟩, nmX3⟩
  | 4, r, h => by cases h; exact ⟨by decide +kernel, ⟨_, tyX4_ok⟩, nmX4⟩
  | 5, r, h => by cases h; exact ⟨by decide +kernel, ⟨_, tyX5_ok⟩, nmX5⟩
  | 6, r, h => by cases h; exact ⟨by decide +kernel, ⟨_, tyX6_ok⟩, nmX6⟩
  | 7, r, h => by cases h; exact ⟨by decide +kernel, ⟨_, tyX7_ok⟩, nmX7⟩
  | 8, r, h => by cases h; exact ⟨by decide +kernel, ⟨_, tyX8_ok⟩, nmX8⟩
  | n + 9, r, h => by simp at h
/-! locals -/
def sw_lk (L : sw_L) (k : Nat) : Option sw_Vl := match L with
  | [] => none
  | q :: r => if q.1 = k then some q.2 else sw_lk r k
theorem sw_lk_mem {k : Nat} {v : sw_Vl} : ∀ {L : sw_L}, sw_lk L k = some v → (k, v) ∈ L
  | [], h => by simp [sw_lk] at h
  | q :: r, h => by
    unfold sw_lk at h
    split at h
    · next e => cases h; subst e; exact List.mem_cons_self
    · exact List.mem_cons_of_mem _ (sw_lk_mem h)
theorem sw_lk_at {ad : Nat → Nat} {ls : Array Slot} {n : Nat} {L : sw_L} {k : Nat} {v : sw_Vl} (h : lv_has ls n (sw_tl ad L)) (hk : sw_lk L k = some v) : ls[k]? = some (.val (sw_tv ad v)) :=
  h.2.2 (k, sw_tv ad v) (List.mem_map.mpr ⟨(k, v), sw_lk_mem hk, rfl⟩)
def sw_p1 (L : sw_L) (k : Nat) (v : sw_Vl) : sw_L := (k, v) :: L.filter fun q => !(q.1 == k) && !(q.1 + 1 == k && sw_cat q.2 == 2)
def sw_p2 (L : sw_L) (k : Nat) (v : sw_Vl) : sw_L := (k, v) :: L.filter fun q => !(q.1 == k) && (!(q.1 == k + 1) && !(q.1 + 1 == k && sw_cat q.2 == 2))
theorem sw_p1_tl (ad : Nat → Nat) (L : sw_L) (k : Nat) (v : sw_Vl) : (k, sw_tv ad v) :: (sw_tl ad L).filter (fun q => !(q.1 == k) && !(q.1 + 1 == k && q.2.category == 2)) = sw_tl ad (sw_p1 L k v) := by
  simp only [sw_p1, sw_tl, List.map_cons, List.filter_map]
  congr 3
  funext q
  simp only [Function.comp, sw_tv_cat]
theorem sw_p2_tl (ad : Nat → Nat) (L : sw_L) (k : Nat) (v : sw_Vl) : (k, sw_tv ad v) :: (sw_tl ad L).filter (fun q => !(q.1 == k) && (!(q.1 == k + 1) && !(q.1 + 1 == k && q.2.category == 2))) = sw_tl ad (sw_p2 L k v) := by
  simp only [sw_p2, sw_tl, List.map_cons, List.filter_map]
  congr 3
  funext q
  simp only [Function.comp, sw_tv_cat]
def sw_b (x : Int) : Int := (Int32.ofInt x).toInt8.toInt32.toInt
def sw_h (x : Int) : Int := (Int32.ofInt x).toInt16.toInt32.toInt
def sw_fa (r : Option Nat) (x : Int) : sw_Vl := match r with
  | some a => .inr (.inr a)
  | none => .inl x
theorem sw_fa_tv (ad : Nat → Nat) (r : Option Nat) (x : Int) : sw_tv ad (sw_fa r x) = sw_fv ad r x := by cases r <;> rfl
def sw_pI : List sw_Vl → Option (Int × List sw_Vl)
  | .inl v :: r => some (v, r)
  | _ => none
def sw_pL : List sw_Vl → Option (Int × List sw_Vl)
  | .inr (.inl v) :: r => some (v, r)
  | _ => none
def sw_pR : List sw_Vl → Option (Nat × List sw_Vl)
  | .inr (.inr v) :: r => some (v, r)
  | _ => none
theorem sw_pI_eq {st : List sw_Vl} {q : Int × List sw_Vl} (h : sw_pI st = some q) : st = .inl q.1 :: q.2 := by
  rcases st with _ | ⟨v | v | v, r⟩ <;> simp [sw_pI] at h
  subst h; rfl
theorem sw_pL_eq {st : List sw_Vl} {q : Int × List sw_Vl} (h : sw_pL st = some q) : st = .inr (.inl q.1) :: q.2 := by
  rcases st with _ | ⟨v | v | v, r⟩ <;> simp [sw_pL] at h
  subst h; rfl
theorem sw_pR_eq {st : List sw_Vl} {q : Nat × List sw_Vl} (h : sw_pR st = some q) : st = .inr (.inr q.1) :: q.2 := by
  rcases st with _ | ⟨v | v | v, r⟩ <;> simp [sw_pR] at h
  subst h; rfl
def sw_lI (L : sw_L) (k : Nat) : Option Int := match sw_lk L k with
  | some (.inl v) => some v
  | _ => none
def sw_lL (L : sw_L) (k : Nat) : Option Int := match sw_lk L k with
  | some (.inr (.inl v)) => some v
  | _ => none
def sw_lR (L : sw_L) (k : Nat) : Option Nat := match sw_lk L k with
  | some (.inr (.inr v)) => some v
  | _ => none
theorem sw_lI_eq {L : sw_L} {k : Nat} {v : Int} (h : sw_lI L k = some v) : sw_lk L k = some (.inl v) := by
  unfold sw_lI at h
  split at h
  · next e => cases h; exact e
  · cases h
theorem sw_lL_eq {L : sw_L} {k : Nat} {v : Int} (h : sw_lL L k = some v) : sw_lk L k = some (.inr (.inl v)) := by
  unfold sw_lL at h
  split at h
  · next e => cases h; exact e
  · cases h
theorem sw_lR_eq {L : sw_L} {k : Nat} {v : Nat} (h : sw_lR L k = some v) : sw_lk L k = some (.inr (.inr v)) := by
  unfold sw_lR at h
  split at h
  · next e => cases h; exact e
  · cases h
/-- one instruction that asks for nothing -/
def sw_st (ly : sw_Ly) (ρ : sw_Rf) (nL : Nat) (x : sw_I) (pc : Nat) (L : sw_L) (st : List sw_Vl) (σ : sw_S) : Option (Nat × sw_L × List sw_Vl × sw_S) :=
  match x.1 with
  | .iconst n => some (pc + 1, L, .inl n :: st, σ)
  | .bipush _ => some (pc + 2, L, .inl x.2.2.2 :: st, σ)
  | .sipush _ => some (pc + 3, L, .inl x.2.2.2 :: st, σ)
  | .ldc _ => some (pc + 2, L, .inl x.2.2.2 :: st, σ)
  | .ldc2_w _ => some (pc + 3, L, .inr (.inl x.2.2.2) :: st, σ)
  | .iload_n k => (sw_lI L k).bind fun v => some (pc + 1, L, .inl v :: st, σ)
  | .iload k => (sw_lI L k).bind fun v => some (pc + 2, L, .inl v :: st, σ)
  | .aload_n k => (sw_lR L k).bind fun v => some (pc + 1, L, .inr (.inr v) :: st, σ)
  | .aload k => (sw_lR L k).bind fun v => some (pc + 2, L, .inr (.inr v) :: st, σ)
  | .lload_n k => (sw_lL L k).bind fun v => some (pc + 1, L, .inr (.inl v) :: st, σ)
  | .lload k => (sw_lL L k).bind fun v => some (pc + 2, L, .inr (.inl v) :: st, σ)
  | .istore_n k => (sw_pI st).bind fun q => if k.val < nL then some (pc + 1, sw_p1 L k.val (.inl q.1), q.2, σ) else none
  | .istore k => (sw_pI st).bind fun q => if k < nL then some (pc + 2, sw_p1 L k (.inl q.1), q.2, σ) else none
  | .astore_n k => (sw_pR st).bind fun q => if k.val < nL then some (pc + 1, sw_p1 L k.val (.inr (.inr q.1)), q.2, σ) else none
  | .astore k => (sw_pR st).bind fun q => if k < nL then some (pc + 2, sw_p1 L k (.inr (.inr q.1)), q.2, σ) else none
  | .lstore_n k => (sw_pL st).bind fun q => if k.val + 1 < nL then some (pc + 1, sw_p2 L k.val (.inr (.inl q.1)), q.2, σ) else none
  | .lstore k => (sw_pL st).bind fun q => if k + 1 < nL then some (pc + 2, sw_p2 L k (.inr (.inl q.1)), q.2, σ) else none
  | .iinc k n => (sw_lI L k).bind fun v => if k < nL then some (pc + 3, sw_p1 L k (.inl (v + n)), st, σ) else none
  | .iadd => (sw_pI st).bind fun q => (sw_pI q.2).bind fun q2 => some (pc + 1, L, .inl (q2.1 + q.1) :: q2.2, σ)
  | .isub => (sw_pI st).bind fun q => (sw_pI q.2).bind fun q2 => some (pc + 1, L, .inl (q2.1 - q.1) :: q2.2, σ)
  | .imul => (sw_pI st).bind fun q => (sw_pI q.2).bind fun q2 => some (pc + 1, L, .inl (q2.1 * q.1) :: q2.2, σ)
  | .ineg => (sw_pI st).bind fun q => some (pc + 1, L, .inl (-q.1) :: q.2, σ)
  | .ladd => (sw_pL st).bind fun q => (sw_pL q.2).bind fun q2 => some (pc + 1, L, .inr (.inl (q2.1 + q.1)) :: q2.2, σ)
  | .lmul => (sw_pL st).bind fun q => (sw_pL q.2).bind fun q2 => some (pc + 1, L, .inr (.inl (q2.1 * q.1)) :: q2.2, σ)
  | .i2b => (sw_pI st).bind fun q => some (pc + 1, L, .inl (sw_b q.1) :: q.2, σ)
  | .i2s => (sw_pI st).bind fun q => some (pc + 1, L, .inl (sw_h q.1) :: q.2, σ)
  | .dup => match st with
    | v :: r => if sw_cat v = 1 then some (pc + 1, L, v :: v :: r, σ) else none
    | [] => none
  | .goto off => if 0 ≤ (pc : Int) + off then some (((pc : Int) + off).toNat, L, st, σ) else none
  | .getfield _ => (sw_pR st).bind fun q => (ly[q.1]?).bind fun k => if k.1 = x.2.1 then some (pc + 3, L, sw_fa (ρ q.1 x.2.2.1) (σ q.1 x.2.2.1) :: q.2, σ) else none
  | .putfield _ => (sw_pI st).bind fun q => (sw_pR q.2).bind fun q2 => (ly[q2.1]?).bind fun k => if k.1 = x.2.1 ∧ (ρ q2.1 x.2.2.1).isNone = true ∧ (x.2.2.2 = 0 ∨ q.1 = 0 ∨ q.1 = 1) then some (pc + 3, L, q2.2, sw_u σ q2.1 x.2.2.1 q.1) else none
  | .arraylength => (sw_pR st).bind fun q => (ly[q.1]?).bind fun k => if 100 ≤ k.1 ∧ k.1 ≤ 102 then some (pc + 1, L, .inl (k.2 : Int) :: q.2, σ) else none
  | _ => none
section Step
variable {ly : sw_Ly} {ρ : sw_Rf} {M : sw_M} {I : List (Option sw_I)} {pc : Nat} {L : sw_L} {st : List sw_Vl} {σ : sw_S} {Q : Option sw_Vl → sw_S → Prop}
theorem sw_const {v : Value} {n : Nat} {w : sw_Vl} (h : ∀ (l : Launch) (p : Program) (e : Env) (s : State) (m : MethodId) (args : Array Value) (below : List Frame) (meth : Method) (c : Code) (H : Heap) (locs : List Loc) (ls : Array Slot) (rest : List Value) (Qw : State → Prop), p.tables.exec = Jvm.exec → c.code = M.2.1 → s.vm.findClass M.1.cls = some m.cls → (∀ w ∈ sw_tb, w.before args s = true) → W p l e (sw_rm M) s m args below meth c H locs 0 0 Qw (F0 m n ls (v :: rest)) → W p l e (sw_rm M) s m args below meth c H locs 0 0 Qw (F0 m pc ls rest)) (hv : ∀ ad, sw_tv ad w = v) (k : sw_E ly ρ M n L (w :: st) σ Q) : sw_E ly ρ M pc L st σ Q := by
  intro l D c3 ad p e s m args below meth c H locs ls C hP hS hl
  obtain ⟨hx, hb, hr, hml, hown, hts, hlk, hK, hj⟩ := C
  refine h l p e s m args below meth c H locs ls _ _ hx hb hown hts ?_
  rw [← hv ad]
  exact k l D c3 ad p e s m args below meth c H locs ls ⟨hx, hb, hr, hml, hown, hts, hlk, hK, hj⟩ hP hS hl
theorem sw_step {x : sw_I} {g : Nat × sw_L × List sw_Vl × sw_S} (hI : sw_Ok M I) (h : I[pc]? = some (some x)) (hs : sw_st ly ρ M.2.2.1 x pc L st σ = some g) (k : sw_E ly ρ M g.1 g.2.1 g.2.2.1 g.2.2.2 Q) : sw_E ly ρ M pc L st σ Q := by
  obtain ⟨hd, h2⟩ := sw_dec hI h
  obtain ⟨i, a, b, z⟩ := x
  unfold sw_st at hs
  split at hs
  all_goals first | (rename_i e; dsimp only at e; subst e; simp only [sw_len] at hd; done) | (rename_i e; dsimp only at e; subst e; simp only [sw_len] at hd) | contradiction
  · cases hs
    exact sw_const (fun l p e s m args below meth c H locs ls rest Qw hx hb ho ht kk => lv_iconst hx hb hd rfl kk) (fun _ => rfl) k
  · cases hs
    simp only [sw_ok2, decide_eq_true_eq] at h2
    exact sw_const (fun l p e s m args below meth c H locs ls rest Qw hx hb ho ht kk => lv_bipush hx hb hd h2 kk) (fun _ => rfl) k
  · cases hs
    simp only [sw_ok2, decide_eq_true_eq] at h2
    exact sw_const (fun l p e s m args below meth c H locs ls rest Qw hx hb ho ht kk => lv_sipush hx hb hd h2 kk) (fun _ => rfl) k
  · cases hs
    simp only [sw_ok2, decide_eq_true_eq] at h2
    exact sw_const (fun l p e s m args below meth c H locs ls rest Qw hx hb ho ht kk => lv_ldc hx hb ho (ht _ h2) hd kk) (fun _ => rfl) k
  · cases hs
    simp only [sw_ok2, decide_eq_true_eq] at h2
    exact sw_const (fun l p e s m args below meth c H locs ls rest Qw hx hb ho ht kk => lv_ldc2 hx hb ho (ht _ h2) hd kk) (fun _ => rfl) k
  · obtain ⟨v, hv, hg⟩ := Option.bind_eq_some_iff.mp hs
    cases hg
    intro l D c3 ad p e s m args below meth c H locs ls C hP hS hl
    exact lv_iload_n C.1 C.2.1 hd rfl (sw_lk_at hl (sw_lI_eq hv)) (k l D c3 ad p e s m args below meth c H locs ls C hP hS hl)
  · obtain ⟨v, hv, hg⟩ := Option.bind_eq_some_iff.mp hs
    cases hg
    intro l D c3 ad p e s m args below meth c H locs ls C hP hS hl
    exact lv_iload C.1 C.2.1 hd (sw_lk_at hl (sw_lI_eq hv)) (k l D c3 ad p e s m args below meth c H locs ls C hP hS hl)
  · obtain ⟨v, hv, hg⟩ := Option.bind_eq_some_iff.mp hs
    cases hg
    intro l D c3 ad p e s m args below meth c H locs ls C hP hS hl
    exact lv_aload_n C.1 C.2.1 hd rfl (sw_lk_at hl (sw_lR_eq hv)) (k l D c3 ad p e s m args below meth c H locs ls C hP hS hl)
  · obtain ⟨v, hv, hg⟩ := Option.bind_eq_some_iff.mp hs
    cases hg
    intro l D c3 ad p e s m args below meth c H locs ls C hP hS hl
    exact lv_aload C.1 C.2.1 hd (sw_lk_at hl (sw_lR_eq hv)) (k l D c3 ad p e s m args below meth c H locs ls C hP hS hl)
  · obtain ⟨v, hv, hg⟩ := Option.bind_eq_some_iff.mp hs
    cases hg
    intro l D c3 ad p e s m args below meth c H locs ls C hP hS hl
    exact lv_lload_n C.1 C.2.1 hd rfl (sw_lk_at hl (sw_lL_eq hv)) (k l D c3 ad p e s m args below meth c H locs ls C hP hS hl)
  · obtain ⟨v, hv, hg⟩ := Option.bind_eq_some_iff.mp hs
    cases hg
    intro l D c3 ad p e s m args below meth c H locs ls C hP hS hl
    exact lv_lload C.1 C.2.1 hd (sw_lk_at hl (sw_lL_eq hv)) (k l D c3 ad p e s m args below meth c H locs ls C hP hS hl)
  · obtain ⟨q, hq, hg⟩ := Option.bind_eq_some_iff.mp hs
    split at hg
    · next hn =>
      cases hg
      rw [sw_pI_eq hq]
      intro l D c3 ad p e s m args below meth c H locs ls C hP hS hl
      exact lv_istore_n C.1 C.2.1 hd rfl hl hn (sw_p1_tl ad L _ (.inl q.1)) (fun ls' hl' => k l D c3 ad p e s m args below meth c H locs ls' C hP hS hl')
    · cases hg
  · obtain ⟨q, hq, hg⟩ := Option.bind_eq_some_iff.mp hs
    split at hg
    · next hn =>
      cases hg
      rw [sw_pI_eq hq]
      intro l D c3 ad p e s m args below meth c H locs ls C hP hS hl
      exact lv_istore C.1 C.2.1 hd hl hn (sw_p1_tl ad L _ (.inl q.1)) (fun ls' hl' => k l D c3 ad p e s m args below meth c H locs ls' C hP hS hl')
    · cases hg
  · obtain ⟨q, hq, hg⟩ := Option.bind_eq_some_iff.mp hs
    split at hg
    · next hn =>
      cases hg
      rw [sw_pR_eq hq]
      intro l D c3 ad p e s m args below meth c H locs ls C hP hS hl
      exact lv_astore_n C.1 C.2.1 hd rfl hl hn (sw_p1_tl ad L _ (.inr (.inr q.1))) (fun ls' hl' => k l D c3 ad p e s m args below meth c H locs ls' C hP hS hl')
    · cases hg
  · obtain ⟨q, hq, hg⟩ := Option.bind_eq_some_iff.mp hs
    split at hg
    · next hn =>
      cases hg
      rw [sw_pR_eq hq]
      intro l D c3 ad p e s m args below meth c H locs ls C hP hS hl
      exact lv_astore C.1 C.2.1 hd hl hn (sw_p1_tl ad L _ (.inr (.inr q.1))) (fun ls' hl' => k l D c3 ad p e s m args below meth c H locs ls' C hP hS hl')
    · cases hg
  · obtain ⟨q, hq, hg⟩ := Option.bind_eq_some_iff.mp hs
    split at hg
    · next hn =>
      cases hg
      rw [sw_pL_eq hq]
      intro l D c3 ad p e s m args below meth c H locs ls C hP hS hl
      exact lv_lstore_n C.1 C.2.1 hd rfl hl hn (sw_p2_tl ad L _ (.inr (.inl q.1))) (fun ls' hl' => k l D c3 ad p e s m args below meth c H locs ls' C hP hS hl')
    · cases hg
  · obtain ⟨q, hq, hg⟩ := Option.bind_eq_some_iff.mp hs
    split at hg
    · next hn =>
      cases hg
      rw [sw_pL_eq hq]
      intro l D c3 ad p e s m args below meth c H locs ls C hP hS hl
      exact lv_lstore C.1 C.2.1 hd hl hn (sw_p2_tl ad L _ (.inr (.inl q.1))) (fun ls' hl' => k l D c3 ad p e s m args below meth c H locs ls' C hP hS hl')
    · cases hg
  · obtain ⟨v, hv, hg⟩ := Option.bind_eq_some_iff.mp hs
    split at hg
    · next hn =>
      cases hg
      intro l D c3 ad p e s m args below meth c H locs ls C hP hS hl
      obtain ⟨j, hj⟩ := List.getElem?_of_mem (List.mem_map.mpr ⟨_, sw_lk_mem (sw_lI_eq hv), rfl⟩ : _ ∈ sw_tl ad L)
      exact lv_iinc (k := j) C.1 C.2.1 hd hl hj (Int32.ofInt_add _ _).symm hn (sw_p1_tl ad L _ (.inl _)) (fun ls' hl' => k l D c3 ad p e s m args below meth c H locs ls' C hP hS hl')
    · cases hg
  · obtain ⟨q, hq, hg⟩ := Option.bind_eq_some_iff.mp hs
    obtain ⟨q2, hq2, hg⟩ := Option.bind_eq_some_iff.mp hg
    cases hg
    rw [sw_pI_eq hq, sw_pI_eq hq2]
    intro l D c3 ad p e s m args below meth c H locs ls C hP hS hl
    refine lv_iadd C.1 C.2.1 hd ?_
    rw [← Int32.ofInt_add]
    exact k l D c3 ad p e s m args below meth c H locs ls C hP hS hl
  · obtain ⟨q, hq, hg⟩ := Option.bind_eq_some_iff.mp hs
    obtain ⟨q2, hq2, hg⟩ := Option.bind_eq_some_iff.mp hg
    cases hg
    rw [sw_pI_eq hq, sw_pI_eq hq2]
    intro l D c3 ad p e s m args below meth c H locs ls C hP hS hl
    refine lv_isub C.1 C.2.1 hd ?_
    rw [← Int32.ofInt_sub]
    exact k l D c3 ad p e s m args below meth c H locs ls C hP hS hl
  · obtain ⟨q, hq, hg⟩ := Option.bind_eq_some_iff.mp hs
    obtain ⟨q2, hq2, hg⟩ := Option.bind_eq_some_iff.mp hg
    cases hg
    rw [sw_pI_eq hq, sw_pI_eq hq2]
    intro l D c3 ad p e s m args below meth c H locs ls C hP hS hl
    refine lv_imul C.1 C.2.1 hd ?_
    rw [← Int32.ofInt_mul]
    exact k l D c3 ad p e s m args below meth c H locs ls C hP hS hl
  · obtain ⟨q, hq, hg⟩ := Option.bind_eq_some_iff.mp hs
    cases hg
    rw [sw_pI_eq hq]
    intro l D c3 ad p e s m args below meth c H locs ls C hP hS hl
    refine lv_ineg C.1 C.2.1 hd ?_
    rw [← Int32.ofInt_neg]
    exact k l D c3 ad p e s m args below meth c H locs ls C hP hS hl
  · obtain ⟨q, hq, hg⟩ := Option.bind_eq_some_iff.mp hs
    obtain ⟨q2, hq2, hg⟩ := Option.bind_eq_some_iff.mp hg
    cases hg
    rw [sw_pL_eq hq, sw_pL_eq hq2]
    intro l D c3 ad p e s m args below meth c H locs ls C hP hS hl
    refine lv_ladd C.1 C.2.1 hd ?_
    rw [← Int64.ofInt_add]
    exact k l D c3 ad p e s m args below meth c H locs ls C hP hS hl
  · obtain ⟨q, hq, hg⟩ := Option.bind_eq_some_iff.mp hs
    obtain ⟨q2, hq2, hg⟩ := Option.bind_eq_some_iff.mp hg
    cases hg
    rw [sw_pL_eq hq, sw_pL_eq hq2]
    intro l D c3 ad p e s m args below meth c H locs ls C hP hS hl
    refine lv_lmul C.1 C.2.1 hd ?_
    rw [← Int64.ofInt_mul]
    exact k l D c3 ad p e s m args below meth c H locs ls C hP hS hl
  · obtain ⟨q, hq, hg⟩ := Option.bind_eq_some_iff.mp hs
    cases hg
    rw [sw_pI_eq hq]
    intro l D c3 ad p e s m args below meth c H locs ls C hP hS hl
    exact lv_i2b C.1 C.2.1 hd (Int32.ofInt_toInt _).symm (k l D c3 ad p e s m args below meth c H locs ls C hP hS hl)
  · obtain ⟨q, hq, hg⟩ := Option.bind_eq_some_iff.mp hs
    cases hg
    rw [sw_pI_eq hq]
    intro l D c3 ad p e s m args below meth c H locs ls C hP hS hl
    exact lv_i2s C.1 C.2.1 hd (Int32.ofInt_toInt _).symm (k l D c3 ad p e s m args below meth c H locs ls C hP hS hl)
  · split at hs
    · next v r =>
      split at hs
      · next hc =>
        cases hs
        intro l D c3 ad p e s m args below meth c H locs ls C hP hS hl
        exact lv_dup C.1 C.2.1 hd (by rw [sw_tv_cat]; exact hc) (k l D c3 ad p e s m args below meth c H locs ls C hP hS hl)
      · cases hs
    · cases hs
  · split at hs
    · next ho =>
      cases hs
      intro l D c3 ad p e s m args below meth c H locs ls C hP hS hl
      exact lv_goto C.1 C.2.1 hd (Int.toNat_of_nonneg ho).symm (k l D c3 ad p e s m args below meth c H locs ls C hP hS hl)
    · cases hs
  · obtain ⟨q, hq, hg⟩ := Option.bind_eq_some_iff.mp hs
    obtain ⟨kd, hkd, hg⟩ := Option.bind_eq_some_iff.mp hg
    split at hg
    · next ha =>
      cases hg
      rw [sw_pR_eq hq]
      intro l D c3 ad p e s m args below meth c H locs ls C hP hS hl
      have C0 := C
      obtain ⟨hx, hb, hr, hml, hown, hts, hlk, hK, hj⟩ := C
      simp only [sw_ok2, sw_okf] at h2
      split at h2
      · next r hcl =>
        simp only [Bool.and_eq_true, decide_eq_true_eq] at h2
        obtain ⟨hin, ⟨ty0, hty⟩, hnm⟩ := sw_clf _ _ hcl
        have he := sw_wl_at (c3 := c3) (ad := ad) (ρ := ρ) (σ := σ) hkd
        have ha9 : a < 9 := by
          rcases Nat.lt_or_ge a 9 with q | q
          · exact q
          · exact absurd hcl (by rw [List.getElem?_eq_none (by exact q)]; simp)
        have hce : sw_ce c3 ad ρ σ q.1 kd = .inr (a, (List.range (sw_N a)).map fun j => sw_fv ad (ρ q.1 j) (σ q.1 j)) := by
          unfold sw_ce
          rw [ha, if_neg (by show ¬ a = 100; omega), if_neg (by show ¬ a = 101; omega), if_neg (by show ¬ a = 102; omega)]
        rw [hce] at he
        have hN : sw_N a = r.2.2 := by simp only [sw_N, hcl]
        refine va_get (v := sw_fv ad (ρ q.1 b) (σ q.1 b)) hx hb hts hin hown hK hP q.1 he (by rw [hcl]) b h2.1 (hts _ h2.2) (fun _ h9 => h9) ?_ hd ?_
        · rw [List.getElem?_map, List.getElem?_range (by rw [hN]; exact h2.1)]; rfl
        · have kk := k l D c3 ad p e s m args below meth c H locs ls C0 hP hS hl
          simp only [List.map_cons, sw_fa_tv] at kk
          exact kk
      · cases h2
    · cases hg
  · obtain ⟨q, hq, hg⟩ := Option.bind_eq_some_iff.mp hs
    obtain ⟨q2, hq2, hg⟩ := Option.bind_eq_some_iff.mp hg
    obtain ⟨kd, hkd, hg⟩ := Option.bind_eq_some_iff.mp hg
    split at hg
    · next ha =>
      cases hg
      obtain ⟨ha, hrn, hz⟩ := ha
      rw [sw_pI_eq hq, sw_pR_eq hq2]
      intro l D c3 ad p e s m args below meth c H locs ls C hP hS hl
      have C0 := C
      obtain ⟨hx, hb, hr, hml, hown, hts, hlk, hK, hj⟩ := C
      simp only [sw_ok2, sw_okf, sw_okp] at h2
      split at h2
      · next r hcl =>
        simp only [hcl, Bool.and_eq_true, Bool.or_eq_true, decide_eq_true_eq, Bool.not_eq_true'] at h2
        obtain ⟨⟨hbN, hlink⟩, hfin, hdsc⟩ := h2
        obtain ⟨hin, ⟨ty0, hty⟩, hnm⟩ := sw_clf _ _ hcl
        have he := sw_wl_at (c3 := c3) (ad := ad) (ρ := ρ) (σ := σ) hkd
        have ha9 : a < 9 := by
          rcases Nat.lt_or_ge a 9 with q | q
          · exact q
          · exact absurd hcl (by rw [List.getElem?_eq_none (by exact q)]; simp)
        have hce : ∀ σ : sw_S, sw_ce c3 ad ρ σ q2.1 kd = .inr (a, (List.range (sw_N a)).map fun j => sw_fv ad (ρ q2.1 j) (σ q2.1 j)) := by
          intro σ
          unfold sw_ce
          rw [ha, if_neg (by show ¬ a = 100; omega), if_neg (by show ¬ a = 101; omega), if_neg (by show ¬ a = 102; omega)]
        rw [hce] at he
        have hN : sw_N a = r.2.2 := by simp only [sw_N, hcl]
        have hrn2 : ρ q2.1 b = none := by simpa using hrn
        have hset : ((List.range (sw_N a)).map fun j => sw_fv ad (ρ q2.1 j) (σ q2.1 j)).set b (.int (Int32.ofInt q.1)) = (List.range (sw_N a)).map fun j => sw_fv ad (ρ q2.1 j) (sw_u σ q2.1 b q.1 q2.1 j) := by
          apply List.ext_getElem?
          intro n
          by_cases hnb : n = b
          · subst hnb
            rw [List.getElem?_set_self (by simpa [hN] using hbN), List.getElem?_map, List.getElem?_range (by rw [hN]; exact hbN)]
            simp [sw_u, hrn2, sw_fv]
          · rw [List.getElem?_set_ne (Ne.symm hnb), List.getElem?_map, List.getElem?_map]
            by_cases hn : n < sw_N a
            · rw [List.getElem?_range hn]
              simp [sw_u, hnb]
            · rw [List.getElem?_eq_none (by simpa using hn)]
              rfl
        have go : ∀ (ty : FieldType), parseFieldDescriptor (r.2.1 b).2.2.1 = some ty → narrow ty (.int (Int32.ofInt q.1)) = .int (Int32.ofInt q.1) → fits ty (.int (Int32.ofInt q.1)) = true → W p l e (sw_rm M) s m args below meth c H locs 0 0 (MQ below (sw_Qc D c3 ad ly ρ Q (sw_A ad ly.length s.heap.size)) args s 0 0 (sw_A ad ly.length s.heap.size)) (F0 m pc ls (.int (Int32.ofInt q.1) :: .ref (ad q2.1) :: q2.2.map (sw_tv ad))) := by
          intro ty h3 h4 h5
          refine va_put hx hb hts hin ty0 hty hnm hown hK hP (sw_D hj) hS q2.1 he (by rw [hcl]) b hbN (hts _ hlink) (fun _ h9 => h9) hfin h3 h4 h5 (by simpa [hN] using hbN) hd (fun H1 locs1 hP1 hD1 hS1 => ?_)
          rw [hset] at hP1
          rw [← hce (sw_u σ q2.1 b q.1)] at hP1
          rw [sw_wl_set hkd (fun a' b' h' => sw_u_row σ q.1 h')] at hP1
          exact k l D c3 ad p e s m args below meth c H1 locs1 ls C0 hP1 hS1 hl
        rcases hdsc with h6 | ⟨h6, h7⟩
        · exact go .int (by rw [h6]; decide +kernel) rfl rfl
        · have hz2 : q.1 = 0 ∨ q.1 = 1 := by
            rcases hz with h | h | h
            · exact absurd (h7.symm.trans h) (by decide)
            · exact Or.inl h
            · exact Or.inr h
          rcases hz2 with h8 | h8
          · exact go .boolean (by rw [h6]; decide +kernel) (by rw [h8]; rfl) (by rw [h8]; rfl)
          · exact go .boolean (by rw [h6]; decide +kernel) (by rw [h8]; rfl) (by rw [h8]; rfl)
      · cases h2
    · cases hg
  · obtain ⟨q, hq, hg⟩ := Option.bind_eq_some_iff.mp hs
    obtain ⟨kd, hkd, hg⟩ := Option.bind_eq_some_iff.mp hg
    split at hg
    · next ha =>
      cases hg
      rw [sw_pR_eq hq]
      intro l D c3 ad p e s m args below meth c H locs ls C hP hS hl
      have he := sw_wl_at (c3 := c3) (ad := ad) (ρ := ρ) (σ := σ) hkd
      have kk := k l D c3 ad p e s m args below meth c H locs ls C hP hS hl
      obtain ⟨k1, k2⟩ := kd
      dsimp only at ha kk
      have e3 : k1 = 100 ∨ k1 = 101 ∨ k1 = 102 := by omega
      rcases e3 with rfl | rfl | rfl
      · exact va_alen C.1 C.2.1 C.2.2.2.2.2.2.2.1 hP q.1 0 he rfl Int32.ofInt_eq_ofNat.symm hd kk
      · exact va_alen C.1 C.2.1 C.2.2.2.2.2.2.2.1 hP q.1 1 he rfl Int32.ofInt_eq_ofNat.symm hd kk
      · exact va_alen C.1 C.2.1 C.2.2.2.2.2.2.2.1 hP q.1 2 he rfl Int32.ofInt_eq_ofNat.symm hd kk
    · cases hg
end Step
def sw_adv (ly : sw_Ly) (ρ : sw_Rf) (nL : Nat) (I : List (Option sw_I)) : Nat → Nat → sw_L → List sw_Vl → sw_S → Option (Nat × sw_L × List sw_Vl × sw_S)
  | 0, pc, L, st, σ => some (pc, L, st, σ)
  | n + 1, pc, L, st, σ => (I[pc]?).bind fun o => o.bind fun x => (sw_st ly ρ nL x pc L st σ).bind fun g => sw_adv ly ρ nL I n g.1 g.2.1 g.2.2.1 g.2.2.2
/-- a block of instructions that ask for nothing -/
theorem sw_blk {ly : sw_Ly} {ρ : sw_Rf} {M : sw_M} {I : List (Option sw_I)} {Q : Option sw_Vl → sw_S → Prop} (hI : sw_Ok M I) : ∀ (n : Nat) {pc : Nat} {L : sw_L} {st : List sw_Vl} {σ : sw_S} (pc' : Nat) (L' : sw_L) (st' : List sw_Vl) (σ' : sw_S), sw_adv ly ρ M.2.2.1 I n pc L st σ = some (pc', L', st', σ') → sw_E ly ρ M pc' L' st' σ' Q → sw_E ly ρ M pc L st σ Q
  | 0, pc, L, st, σ, pc', L', st', σ', h, k => by
    cases h
    exact k
  | n + 1, pc, L, st, σ, pc', L', st', σ', h, k => by
    obtain ⟨o, ho, h1⟩ := Option.bind_eq_some_iff.mp h
    obtain ⟨x, hx, h2⟩ := Option.bind_eq_some_iff.mp h1
    obtain ⟨g, hg, h3⟩ := Option.bind_eq_some_iff.mp h2
    subst hx
    exact sw_step hI ho hg (sw_blk hI n pc' L' st' σ' h3 k)
end
section
section Rows
variable {ly : sw_Ly} {ρ : sw_Rf} {M : sw_M} {I : List (Option sw_I)} {pc : Nat} {L : sw_L} {st : List sw_Vl} {σ : sw_S} {Q : Option sw_Vl → sw_S → Prop}
theorem sw_icmp_eq (hI : sw_Ok M I) {off : Int} {a b : Nat} {z x y : Int} (h : I[pc]? = some (some (.if_icmp .eq off, a, b, z))) (gx : sw_g x) (gy : sw_g y) (tgt nx : Nat) (ht : (pc : Int) + off = (tgt : Int)) (hn : pc + 3 = nx) (kt : x = y → sw_E ly ρ M tgt L st σ Q) (kf : ¬ x = y → sw_E ly ρ M nx L st σ Q) : sw_E ly ρ M pc L (.inl y :: .inl x :: st) σ Q := by
  subst hn
  intro l D c3 ad p e s m args below meth c H locs ls C hP hS hl
  exact lv_icmp_eq C.1 C.2.1 (sw_dec hI h).1 ht (fun q => kt ((sw_eq gx gy).mp q) l D c3 ad p e s m args below meth c H locs ls C hP hS hl) (fun q => kf (fun z => q ((sw_eq gx gy).mpr z)) l D c3 ad p e s m args below meth c H locs ls C hP hS hl)
theorem sw_if_eq (hI : sw_Ok M I) {off : Int} {a b : Nat} {z x : Int} (h : I[pc]? = some (some (.ifCond .eq off, a, b, z))) (gx : sw_g x) (tgt nx : Nat) (ht : (pc : Int) + off = (tgt : Int)) (hn : pc + 3 = nx) (kt : x = 0 → sw_E ly ρ M tgt L st σ Q) (kf : ¬ x = 0 → sw_E ly ρ M nx L st σ Q) : sw_E ly ρ M pc L (.inl x :: st) σ Q := by
  subst hn
  intro l D c3 ad p e s m args below meth c H locs ls C hP hS hl
  exact lv_if_eq C.1 C.2.1 (sw_dec hI h).1 ht (fun q => kt ((sw_eq gx sw_g0).mp q) l D c3 ad p e s m args below meth c H locs ls C hP hS hl) (fun q => kf (fun z => q ((sw_eq gx sw_g0).mpr z)) l D c3 ad p e s m args below meth c H locs ls C hP hS hl)
theorem sw_icmp_ne (hI : sw_Ok M I) {off : Int} {a b : Nat} {z x y : Int} (h : I[pc]? = some (some (.if_icmp .ne off, a, b, z))) (gx : sw_g x) (gy : sw_g y) (tgt nx : Nat) (ht : (pc : Int) + off = (tgt : Int)) (hn : pc + 3 = nx) (kt : ¬ x = y → sw_E ly ρ M tgt L st σ Q) (kf : x = y → sw_E ly ρ M nx L st σ Q) : sw_E ly ρ M pc L (.inl y :: .inl x :: st) σ Q := by
  subst hn
  intro l D c3 ad p e s m args below meth c H locs ls C hP hS hl
  exact lv_icmp_ne C.1 C.2.1 (sw_dec hI h).1 ht (fun q => kt (fun z => q ((sw_eq gx gy).mpr z)) l D c3 ad p e s m args below meth c H locs ls C hP hS hl) (fun q => kf ((sw_eq gx gy).mp q) l D c3 ad p e s m args below meth c H locs ls C hP hS hl)
theorem sw_if_ne (hI : sw_Ok M I) {off : Int} {a b : Nat} {z x : Int} (h : I[pc]? = some (some (.ifCond .ne off, a, b, z))) (gx : sw_g x) (tgt nx : Nat) (ht : (pc : Int) + off = (tgt : Int)) (hn : pc + 3 = nx) (kt : ¬ x = 0 → sw_E ly ρ M tgt L st σ Q) (kf : x = 0 → sw_E ly ρ M nx L st σ Q) : sw_E ly ρ M pc L (.inl x :: st) σ Q := by
  subst hn
  intro l D c3 ad p e s m args below meth c H locs ls C hP hS hl
  exact lv_if_ne C.1 C.2.1 (sw_dec hI h).1 ht (fun q => kt (fun z => q ((sw_eq gx sw_g0).mpr z)) l D c3 ad p e s m args below meth c H locs ls C hP hS hl) (fun q => kf ((sw_eq gx sw_g0).mp q) l D c3 ad p e s m args below meth c H locs ls C hP hS hl)
theorem sw_icmp_lt (hI : sw_Ok M I) {off : Int} {a b : Nat} {z x y : Int} (h : I[pc]? = some (some (.if_icmp .lt off, a, b, z))) (gx : sw_g x) (gy : sw_g y) (tgt nx : Nat) (ht : (pc : Int) + off = (tgt : Int)) (hn : pc + 3 = nx) (kt : x < y → sw_E ly ρ M tgt L st σ Q) (kf : ¬ x < y → sw_E ly ρ M nx L st σ Q) : sw_E ly ρ M pc L (.inl y :: .inl x :: st) σ Q := by
  subst hn
  intro l D c3 ad p e s m args below meth c H locs ls C hP hS hl
  exact lv_icmp_lt C.1 C.2.1 (sw_dec hI h).1 ht (fun q => kt ((sw_lt gx gy).mp q) l D c3 ad p e s m args below meth c H locs ls C hP hS hl) (fun q => kf (fun z => q ((sw_lt gx gy).mpr z)) l D c3 ad p e s m args below meth c H locs ls C hP hS hl)
theorem sw_if_lt (hI : sw_Ok M I) {off : Int} {a b : Nat} {z x : Int} (h : I[pc]? = some (some (.ifCond .lt off, a, b, z))) (gx : sw_g x) (tgt nx : Nat) (ht : (pc : Int) + off = (tgt : Int)) (hn : pc + 3 = nx) (kt : x < 0 → sw_E ly ρ M tgt L st σ Q) (kf : ¬ x < 0 → sw_E ly ρ M nx L st σ Q) : sw_E ly ρ M pc L (.inl x :: st) σ Q := by
  subst hn
  intro l D c3 ad p e s m args below meth c H locs ls C hP hS hl
  exact lv_if_lt C.1 C.2.1 (sw_dec hI h).1 ht (fun q => kt ((sw_lt gx sw_g0).mp q) l D c3 ad p e s m args below meth c H locs ls C hP hS hl) (fun q => kf (fun z => q ((sw_lt gx sw_g0).mpr z)) l D c3 ad p e s m args below meth c H locs ls C hP hS hl)
theorem sw_icmp_ge (hI : sw_Ok M I) {off : Int} {a b : Nat} {z x y : Int} (h : I[pc]? = some (some (.if_icmp .ge off, a, b, z))) (gx : sw_g x) (gy : sw_g y) (tgt nx : Nat) (ht : (pc : Int) + off = (tgt : Int)) (hn : pc + 3 = nx) (kt : y ≤ x → sw_E ly ρ M tgt L st σ Q) (kf : ¬ y ≤ x → sw_E ly ρ M nx L st σ Q) : sw_E ly ρ M pc L (.inl y :: .inl x :: st) σ Q := by
  subst hn
  intro l D c3 ad p e s m args below meth c H locs ls C hP hS hl
  exact lv_icmp_ge C.1 C.2.1 (sw_dec hI h).1 ht (fun q => kt ((sw_le gy gx).mp q) l D c3 ad p e s m args below meth c H locs ls C hP hS hl) (fun q => kf (fun z => q ((sw_le gy gx).mpr z)) l D c3 ad p e s m args below meth c H locs ls C hP hS hl)
theorem sw_if_ge (hI : sw_Ok M I) {off : Int} {a b : Nat} {z x : Int} (h : I[pc]? = some (some (.ifCond .ge off, a, b, z))) (gx : sw_g x) (tgt nx : Nat) (ht : (pc : Int) + off = (tgt : Int)) (hn : pc + 3 = nx) (kt : 0 ≤ x → sw_E ly ρ M tgt L st σ Q) (kf : ¬ 0 ≤ x → sw_E ly ρ M nx L st σ Q) : sw_E ly ρ M pc L (.inl x :: st) σ Q := by
  subst hn
  intro l D c3 ad p e s m args below meth c H locs ls C hP hS hl
  exact lv_if_ge C.1 C.2.1 (sw_dec hI h).1 ht (fun q => kt ((sw_le sw_g0 gx).mp q) l D c3 ad p e s m args below meth c H locs ls C hP hS hl) (fun q => kf (fun z => q ((sw_le sw_g0 gx).mpr z)) l D c3 ad p e s m args below meth c H locs ls C hP hS hl)
theorem sw_icmp_gt (hI : sw_Ok M I) {off : Int} {a b : Nat} {z x y : Int} (h : I[pc]? = some (some (.if_icmp .gt off, a, b, z))) (gx : sw_g x) (gy : sw_g y) (tgt nx : Nat) (ht : (pc : Int) + off = (tgt : Int)) (hn : pc + 3 = nx) (kt : y < x → sw_E ly ρ M tgt L st σ Q) (kf : ¬ y < x → sw_E ly ρ M nx L st σ Q) : sw_E ly ρ M pc L (.inl y :: .inl x :: st) σ Q := by
  subst hn
  intro l D c3 ad p e s m args below meth c H locs ls C hP hS hl
  exact lv_icmp_gt C.1 C.2.1 (sw_dec hI h).1 ht (fun q => kt ((sw_lt gy gx).mp q) l D c3 ad p e s m args below meth c H locs ls C hP hS hl) (fun q => kf (fun z => q ((sw_lt gy gx).mpr z)) l D c3 ad p e s m args below meth c H locs ls C hP hS hl)
theorem sw_if_gt (hI : sw_Ok M I) {off : Int} {a b : Nat} {z x : Int} (h : I[pc]? = some (some (.ifCond .gt off, a, b, z))) (gx : sw_g x) (tgt nx : Nat) (ht : (pc : Int) + off = (tgt : Int)) (hn : pc + 3 = nx) (kt : 0 < x → sw_E ly ρ M tgt L st σ Q) (kf : ¬ 0 < x → sw_E ly ρ M nx L st σ Q) : sw_E ly ρ M pc L (.inl x :: st) σ Q := by
  subst hn
  intro l D c3 ad p e s m args below meth c H locs ls C hP hS hl
  exact lv_if_gt C.1 C.2.1 (sw_dec hI h).1 ht (fun q => kt ((sw_lt sw_g0 gx).mp q) l D c3 ad p e s m args below meth c H locs ls C hP hS hl) (fun q => kf (fun z => q ((sw_lt sw_g0 gx).mpr z)) l D c3 ad p e s m args below meth c H locs ls C hP hS hl)
theorem sw_icmp_le (hI : sw_Ok M I) {off : Int} {a b : Nat} {z x y : Int} (h : I[pc]? = some (some (.if_icmp .le off, a, b, z))) (gx : sw_g x) (gy : sw_g y) (tgt nx : Nat) (ht : (pc : Int) + off = (tgt : Int)) (hn : pc + 3 = nx) (kt : x ≤ y → sw_E ly ρ M tgt L st σ Q) (kf : ¬ x ≤ y → sw_E ly ρ M nx L st σ Q) : sw_E ly ρ M pc L (.inl y :: .inl x :: st) σ Q := by
  subst hn
  intro l D c3 ad p e s m args below meth c H locs ls C hP hS hl
  exact lv_icmp_le C.1 C.2.1 (sw_dec hI h).1 ht (fun q => kt ((sw_le gx gy).mp q) l D c3 ad p e s m args below meth c H locs ls C hP hS hl) (fun q => kf (fun z => q ((sw_le gx gy).mpr z)) l D c3 ad p e s m args below meth c H locs ls C hP hS hl)
theorem sw_if_le (hI : sw_Ok M I) {off : Int} {a b : Nat} {z x : Int} (h : I[pc]? = some (some (.ifCond .le off, a, b, z))) (gx : sw_g x) (tgt nx : Nat) (ht : (pc : Int) + off = (tgt : Int)) (hn : pc + 3 = nx) (kt : x ≤ 0 → sw_E ly ρ M tgt L st σ Q) (kf : ¬ x ≤ 0 → sw_E ly ρ M nx L st σ Q) : sw_E ly ρ M pc L (.inl x :: st) σ Q := by
  subst hn
  intro l D c3 ad p e s m args below meth c H locs ls C hP hS hl
  exact lv_if_le C.1 C.2.1 (sw_dec hI h).1 ht (fun q => kt ((sw_le gx sw_g0).mp q) l D c3 ad p e s m args below meth c H locs ls C hP hS hl) (fun q => kf (fun z => q ((sw_le gx sw_g0).mpr z)) l D c3 ad p e s m args below meth c H locs ls C hP hS hl)
theorem sw_iald (hI : sw_Ok M I) {a b : Nat} {z x : Int} (h : I[pc]? = some (some (.iaload, a, b, z))) {i n : Nat} (hk : ly[i]? = some (100, n)) (hg : (n : Int) ≤ 2147483648) (h0 : 0 ≤ x) (hx : x < n) (nx : Nat) (hn : pc + 1 = nx) (k : sw_E ly ρ M nx L (.inl (σ i x.toNat) :: st) σ Q) : sw_E ly ρ M pc L (.inl x :: .inr (.inr i) :: st) σ Q := by
  subst hn
  intro l D c3 ad p e s m args below meth c H locs ls C hP hS hl
  obtain ⟨hin, hix⟩ := sw_ix h0 hx hg
  refine va_iald C.1 C.2.1 C.2.2.2.2.2.2.2.1 hP i 0 (sw_wl_at hk) rfl hin (sw_dec hI h).1 ?_
  rw [hix]
  exact k l D c3 ad p e s m args below meth c H locs ls C hP hS hl
theorem sw_zald (hI : sw_Ok M I) {a b : Nat} {z x : Int} (h : I[pc]? = some (some (.baload, a, b, z))) {i n : Nat} (hk : ly[i]? = some (101, n)) (hg : (n : Int) ≤ 2147483648) (h0 : 0 ≤ x) (hx : x < n) (nx : Nat) (hn : pc + 1 = nx) (k : sw_E ly ρ M nx L (.inl (σ i x.toNat) :: st) σ Q) : sw_E ly ρ M pc L (.inl x :: .inr (.inr i) :: st) σ Q := by
  subst hn
  intro l D c3 ad p e s m args below meth c H locs ls C hP hS hl
  obtain ⟨hin, hix⟩ := sw_ix h0 hx hg
  refine va_zald C.1 C.2.1 C.2.2.2.2.2.2.2.1 hP i 1 (sw_wl_at hk) rfl hin (sw_dec hI h).1 ?_
  rw [hix]
  exact k l D c3 ad p e s m args below meth c H locs ls C hP hS hl
theorem sw_aald (hI : sw_Ok M I) {a b : Nat} {z x : Int} (h : I[pc]? = some (some (.aaload, a, b, z))) {i n r : Nat} (hk : ly[i]? = some (102, n)) (hg : (n : Int) ≤ 2147483648) (h0 : 0 ≤ x) (hx : x < n) (hr : ρ i x.toNat = some r) (nx : Nat) (hn : pc + 1 = nx) (k : sw_E ly ρ M nx L (.inr (.inr r) :: st) σ Q) : sw_E ly ρ M pc L (.inl x :: .inr (.inr i) :: st) σ Q := by
  subst hn
  intro l D c3 ad p e s m args below meth c H locs ls C hP hS hl
  obtain ⟨hin, hix⟩ := sw_ix h0 hx hg
  refine va_aldq C.1 C.2.1 C.2.2.2.2.2.2.2.1 hP i 2 (sw_wl_at hk) rfl hin (sw_dec hI h).1 ?_
  rw [hix, hr]
  exact k l D c3 ad p e s m args below meth c H locs ls C hP hS hl
theorem sw_upd_row {i n : Nat} {v : Int} : upd (fun j => Int32.ofInt (σ i j)) n (Int32.ofInt v) = fun j => Int32.ofInt (sw_u σ i n v i j) := by
  funext j
  by_cases hj : j = n
  · subst hj; simp [upd, sw_u]
  · simp [upd, sw_u, hj]
theorem sw_iast (hI : sw_Ok M I) {a b : Nat} {z x v : Int} (h : I[pc]? = some (some (.iastore, a, b, z))) {i n : Nat} (hk : ly[i]? = some (100, n)) (hg : (n : Int) ≤ 2147483648) (h0 : 0 ≤ x) (hx : x < n) (nx : Nat) (hn : pc + 1 = nx) (k : sw_E ly ρ M nx L st (sw_u σ i x.toNat v) Q) : sw_E ly ρ M pc L (.inl v :: .inl x :: .inr (.inr i) :: st) σ Q := by
  subst hn
  intro l D c3 ad p e s m args below meth c H locs ls C hP hS hl
  obtain ⟨hin, hix⟩ := sw_ix h0 hx hg
  have hj : sw_inj ad ly.length := C.2.2.2.2.2.2.2.2
  refine va_iast C.1 C.2.1 C.2.2.2.2.2.2.2.1 hP (sw_D hj) hS i 0 (sw_wl_at hk) rfl hin (sw_dec hI h).1 (fun H1 locs1 hP1 hD1 hS1 => ?_)
  rw [hix, sw_upd_row] at hP1
  have e2 : (ad i, (Sum.inl (c3.1, n, Sum.inl fun j => Int32.ofInt (sw_u σ i x.toNat v i j)) : va_E)) = (ad i, sw_ce c3 ad ρ (sw_u σ i x.toNat v) i (100, n)) := rfl
  rw [e2, sw_wl_set hk (fun a' b' h' => sw_u_row σ v h')] at hP1
  exact k l D c3 ad p e s m args below meth c H1 locs1 ls C hP1 hS1 hl
theorem sw_zast (hI : sw_Ok M I) {a b : Nat} {z x v : Int} (h : I[pc]? = some (some (.bastore, a, b, z))) {i n : Nat} (hk : ly[i]? = some (101, n)) (hg : (n : Int) ≤ 2147483648) (h0 : 0 ≤ x) (hx : x < n) (hv : v = 0 ∨ v = 1) (nx : Nat) (hn : pc + 1 = nx) (k : sw_E ly ρ M nx L st (sw_u σ i x.toNat v) Q) : sw_E ly ρ M pc L (.inl v :: .inl x :: .inr (.inr i) :: st) σ Q := by
  subst hn
  intro l D c3 ad p e s m args below meth c H locs ls C hP hS hl
  obtain ⟨hin, hix⟩ := sw_ix h0 hx hg
  have hj : sw_inj ad ly.length := C.2.2.2.2.2.2.2.2
  refine va_zast C.1 C.2.1 C.2.2.2.2.2.2.2.1 hP (sw_D hj) hS i 1 (sw_wl_at hk) rfl hin (sw_dec hI h).1 (fun H1 locs1 hP1 hD1 hS1 => ?_)
  have hnv : vp_nar .boolean (Int32.ofInt v) = Int32.ofInt v := by rcases hv with rfl | rfl <;> rfl
  rw [hnv, hix, sw_upd_row] at hP1
  have e2 : (ad i, (Sum.inl (c3.2.1, n, Sum.inl fun j => Int32.ofInt (sw_u σ i x.toNat v i j)) : va_E)) = (ad i, sw_ce c3 ad ρ (sw_u σ i x.toNat v) i (101, n)) := rfl
  rw [e2, sw_wl_set hk (fun a' b' h' => sw_u_row σ v h')] at hP1
  exact k l D c3 ad p e s m args below meth c H1 locs1 ls C hP1 hS1 hl
theorem sw_div32 {x y : Int} (gx : sw_g x) (gy : sw_g y) (h0 : 0 ≤ x) (hy : 0 < y) : Int32.ofInt x / Int32.ofInt y = Int32.ofInt (x / y) := by
  have hq : x / y ≤ x := Int.ediv_le_self y h0
  have hq0 : 0 ≤ x / y := Int.ediv_nonneg h0 (by omega)
  apply Int32.toInt_inj.mp
  have hne : Int32.ofInt y ≠ -1 := by
    intro q
    have q2 : (Int32.ofInt y).toInt = -1 := by rw [q]; rfl
    rw [sw_ti gy] at q2
    omega
  rw [Int32.toInt_div_of_ne_right _ _ hne, sw_ti gx, sw_ti gy, sw_ti (x := x / y) ⟨by omega, by have := gx.2; omega⟩, Int.tdiv_eq_ediv_of_nonneg h0]
theorem sw_idiv (hI : sw_Ok M I) {a b : Nat} {z x y : Int} (h : I[pc]? = some (some (.idiv, a, b, z))) (gx : sw_g x) (gy : sw_g y) (h0 : 0 ≤ x) (hy : 0 < y) (nx : Nat) (hn : pc + 1 = nx) (k : sw_E ly ρ M nx L (.inl (x / y) :: st) σ Q) : sw_E ly ρ M pc L (.inl y :: .inl x :: st) σ Q := by
  subst hn
  intro l D c3 ad p e s m args below meth c H locs ls C hP hS hl
  have hne : ¬ Int32.ofInt y = 0 := fun q => by
    have q2 := (sw_eq gy sw_g0).mp q
    omega
  refine lv_idiv C.1 C.2.1 (sw_dec hI h).1 hne ?_
  rw [sw_div32 gx gy h0 hy]
  exact k l D c3 ad p e s m args below meth c H locs ls C hP hS hl
theorem sw_irem (hI : sw_Ok M I) {a b : Nat} {z x y : Int} (h : I[pc]? = some (some (.irem, a, b, z))) (gx : sw_g x) (gy : sw_g y) (h0 : 0 ≤ x) (hy : 0 < y) (nx : Nat) (hn : pc + 1 = nx) (k : sw_E ly ρ M nx L (.inl (x % y) :: st) σ Q) : sw_E ly ρ M pc L (.inl y :: .inl x :: st) σ Q := by
  subst hn
  intro l D c3 ad p e s m args below meth c H locs ls C hP hS hl
  have hne : ¬ Int32.ofInt y = 0 := fun q => by
    have q2 := (sw_eq gy sw_g0).mp q
    omega
  refine lv_irem C.1 C.2.1 (sw_dec hI h).1 hne ?_
  rw [sw_div32 gx gy h0 hy, ← Int32.ofInt_mul, ← Int32.ofInt_sub, show x - x / y * y = x % y by rw [Int.emod_def, Int.mul_comm]]
  exact k l D c3 ad p e s m args below meth c H locs ls C hP hS hl
theorem sw_ixor (hI : sw_Ok M I) {a b : Nat} {z x y : Int} (h : I[pc]? = some (some (.ixor, a, b, z))) (gx : sw_g x) (gy : sw_g y) (h0 : 0 ≤ x) (hy : 0 ≤ y) (nx : Nat) (hn : pc + 1 = nx) (k : ∀ w : Int, 0 ≤ w → sw_g w → sw_E ly ρ M nx L (.inl w :: st) σ Q) : sw_E ly ρ M pc L (.inl y :: .inl x :: st) σ Q := by
  subst hn
  intro l D c3 ad p e s m args below meth c H locs ls C hP hS hl
  refine lv_ixor C.1 C.2.1 (sw_dec hI h).1 ?_
  have hm : ∀ t : Int, sw_g t → 0 ≤ t → (Int32.ofInt t).toBitVec.msb = false := by
    intro t gt ht
    rw [BitVec.msb_eq_toInt]
    have : (Int32.ofInt t).toBitVec.toInt = t := sw_ti gt
    rw [this]
    simp; omega
  have hw : 0 ≤ (Int32.ofInt x ^^^ Int32.ofInt y).toInt := by
    have e1 : ((Int32.ofInt x).toBitVec ^^^ (Int32.ofInt y).toBitVec).msb = false := by rw [BitVec.msb_xor, hm x gx h0, hm y gy hy]; rfl
    rw [BitVec.msb_eq_toInt] at e1
    have e2 : ¬ ((Int32.ofInt x).toBitVec ^^^ (Int32.ofInt y).toBitVec).toInt < 0 := by simpa using e1
    have e3 : (Int32.ofInt x ^^^ Int32.ofInt y).toInt = ((Int32.ofInt x).toBitVec ^^^ (Int32.ofInt y).toBitVec).toInt := rfl
    rw [e3]; omega
  have kk := k (Int32.ofInt x ^^^ Int32.ofInt y).toInt hw ⟨by omega, Int32.toInt_lt _⟩ l D c3 ad p e s m args below meth c H locs ls C hP hS hl
  simp only [List.map_cons, sw_tv, Int32.ofInt_toInt] at kk
  exact kk
theorem sw_i2l (hI : sw_Ok M I) {a b : Nat} {z x : Int} (h : I[pc]? = some (some (.i2l, a, b, z))) (gx : sw_g x) (nx : Nat) (hn : pc + 1 = nx) (k : sw_E ly ρ M nx L (.inr (.inl x) :: st) σ Q) : sw_E ly ρ M pc L (.inl x :: st) σ Q := by
  subst hn
  intro l D c3 ad p e s m args below meth c H locs ls C hP hS hl
  refine lv_i2l C.1 C.2.1 (sw_dec hI h).1 ?_ (k l D c3 ad p e s m args below meth c H locs ls C hP hS hl)
  apply Int64.toInt_inj.mp
  rw [Int32.toInt_toInt64, sw_ti gx, Int64.toInt_ofInt_of_le (by have := gx.1; omega) (by have := gx.2; omega)]
theorem sw_lcmp (hI : sw_Ok M I) {a b : Nat} {z x y : Int} (h : I[pc]? = some (some (.lcmp, a, b, z))) (gx : -9000000000 ≤ x ∧ x < 9000000000) (gy : -9000000000 ≤ y ∧ y < 9000000000) (nx : Nat) (hn : pc + 1 = nx) (k1 : y < x → sw_E ly ρ M nx L (.inl 1 :: st) σ Q) (k0 : x = y → sw_E ly ρ M nx L (.inl 0 :: st) σ Q) (k2 : x < y → sw_E ly ρ M nx L (.inl (-1) :: st) σ Q) : sw_E ly ρ M pc L (.inr (.inl y) :: .inr (.inl x) :: st) σ Q := by
  subst hn
  intro l D c3 ad p e s m args below meth c H locs ls C hP hS hl
  have tx : (Int64.ofInt x).toInt = x := Int64.toInt_ofInt_of_le (by omega) (by omega)
  have ty : (Int64.ofInt y).toInt = y := Int64.toInt_ofInt_of_le (by omega) (by omega)
  refine W.lcmp C.1 C.2.1 (sw_dec hI h).1 ?_
  rcases Int.lt_trichotomy y x with q | q | q
  · have e1 : lg_cmp (Int64.ofInt x) (Int64.ofInt y) = 1 := by simp [lg_cmp, Int64.lt_iff_toInt_lt, tx, ty, q]
    rw [e1]
    exact k1 q l D c3 ad p e s m args below meth c H locs ls C hP hS hl
  · have e1 : lg_cmp (Int64.ofInt x) (Int64.ofInt y) = 0 := by simp [lg_cmp, q]
    rw [e1]
    exact k0 q.symm l D c3 ad p e s m args below meth c H locs ls C hP hS hl
  · have n1 : ¬ Int64.ofInt y < Int64.ofInt x := by rw [Int64.lt_iff_toInt_lt, tx, ty]; omega
    have n2 : ¬ Int64.ofInt x = Int64.ofInt y := by rw [← Int64.toInt_inj, tx, ty]; omega
    have e1 : lg_cmp (Int64.ofInt x) (Int64.ofInt y) = -1 := by simp [lg_cmp, n1, n2]
    rw [e1]
    exact k2 q l D c3 ad p e s m args below meth c H locs ls C hP hS hl
/-! ends -/
theorem sw_ireturn (hI : sw_Ok M I) {a b : Nat} {z v : Int} (h : I[pc]? = some (some (.ireturn, a, b, z))) (hr : M.2.2.2.1 = some .int) (hq : Q (some (.inl v)) σ) : sw_E ly ρ M pc L [.inl v] σ Q := by
  intro l D c3 ad p e s m args below meth c H locs ls C hP hS hl
  have hlk : meth.locks = false := C.2.2.2.2.2.2.1
  exact W.iret C.1 C.2.1 (C.2.2.1.trans hr) (fun t ht hW => ⟨⟨some (.inl v), σ, rfl, hq, by rw [ht]; exact hP, va_K.moved hW.alike C.2.2.2.2.2.2.2.1⟩, hS.F ht⟩) hS.2.2 (sw_dec hI h).1 hlk
theorem sw_zreturn (hI : sw_Ok M I) {a b : Nat} {z v : Int} (h : I[pc]? = some (some (.ireturn, a, b, z))) (hr : M.2.2.2.1 = some .boolean) (hv : v = 0 ∨ v = 1) (hq : Q (some (.inl v)) σ) : sw_E ly ρ M pc L [.inl v] σ Q := by
  intro l D c3 ad p e s m args below meth c H locs ls C hP hS hl
  have hlk : meth.locks = false := C.2.2.2.2.2.2.1
  exact W.zret C.1 C.2.1 (C.2.2.1.trans hr) (by rcases hv with rfl | rfl <;> rfl) (fun t ht hW => ⟨⟨some (.inl v), σ, rfl, hq, by rw [ht]; exact hP, va_K.moved hW.alike C.2.2.2.2.2.2.2.1⟩, hS.F ht⟩) hS.2.2 (sw_dec hI h).1 hlk
theorem sw_lreturn (hI : sw_Ok M I) {a b : Nat} {z v : Int} (h : I[pc]? = some (some (.lreturn, a, b, z))) (hr : M.2.2.2.1 = some .long) (hq : Q (some (.inr (.inl v))) σ) : sw_E ly ρ M pc L [.inr (.inl v)] σ Q := by
  intro l D c3 ad p e s m args below meth c H locs ls C hP hS hl
  have hlk : meth.locks = false := C.2.2.2.2.2.2.1
  exact W.lret C.1 C.2.1 (C.2.2.1.trans hr) (fun t ht hW => ⟨⟨some (.inr (.inl v)), σ, rfl, hq, by rw [ht]; exact hP, va_K.moved hW.alike C.2.2.2.2.2.2.2.1⟩, hS.F ht⟩) hS.2.2 (sw_dec hI h).1 hlk
theorem sw_vreturn (hI : sw_Ok M I) {a b : Nat} {z : Int} (h : I[pc]? = some (some (.return_, a, b, z))) (hr : M.2.2.2.1 = none) (hq : Q none σ) : sw_E ly ρ M pc L [] σ Q := by
  intro l D c3 ad p e s m args below meth c H locs ls C hP hS hl
  have hlk : meth.locks = false := C.2.2.2.2.2.2.1
  exact W.vret C.1 C.2.1 (C.2.2.1.trans hr) (fun t ht hW => ⟨⟨none, σ, rfl, hq, by rw [ht]; exact hP, va_K.moved hW.alike C.2.2.2.2.2.2.2.1⟩, hS.F ht⟩) hS.2.2 (sw_dec hI h).1 hlk
/-! switches -/
theorem sw_tabIn (hI : sw_Ok M I) {dflt lo hi : Int} {offs : Array Int} {a b : Nat} {z x : Int} (h : I[pc]? = some (some (.tableswitch dflt lo hi offs, a, b, z))) (gx : sw_g x) (h1 : ¬ x < lo) (h2 : ¬ hi < x) {off : Int} (ho : offs[(x - lo).toNat]? = some off) (tgt : Nat) (ht : (pc : Int) + off = (tgt : Int)) (k : sw_E ly ρ M tgt L st σ Q) : sw_E ly ρ M pc L (.inl x :: st) σ Q := by
  intro l D c3 ad p e s m args below meth c H locs ls C hP hS hl
  exact lv_tableIn C.1 C.2.1 (sw_dec hI h).1 (by rw [sw_ti gx]; exact h1) (by rw [sw_ti gx]; exact h2) (by rw [sw_ti gx]; exact ho) ht (k l D c3 ad p e s m args below meth c H locs ls C hP hS hl)
theorem sw_tabOut (hI : sw_Ok M I) {dflt lo hi : Int} {offs : Array Int} {a b : Nat} {z x : Int} (h : I[pc]? = some (some (.tableswitch dflt lo hi offs, a, b, z))) (gx : sw_g x) (h1 : x < lo ∨ hi < x) (tgt : Nat) (ht : (pc : Int) + dflt = (tgt : Int)) (k : sw_E ly ρ M tgt L st σ Q) : sw_E ly ρ M pc L (.inl x :: st) σ Q := by
  intro l D c3 ad p e s m args below meth c H locs ls C hP hS hl
  exact lv_tableOut C.1 C.2.1 (sw_dec hI h).1 (by rw [sw_ti gx]; exact h1) ht (k l D c3 ad p e s m args below meth c H locs ls C hP hS hl)
theorem sw_look (hI : sw_Ok M I) {dflt : Int} {ps : Array (Int × Int)} {a b : Nat} {z x : Int} (h : I[pc]? = some (some (.lookupswitch dflt ps, a, b, z))) (gx : sw_g x) (hp : (ps.toList.zip (ps.toList.drop 1)).all (fun (a, next) => a.1 < next.1) = true) {off : Int} (ho : Op.lookupswitch.offset ps.toList dflt x = off) (tgt : Nat) (ht : (pc : Int) + off = (tgt : Int)) (k : sw_E ly ρ M tgt L st σ Q) : sw_E ly ρ M pc L (.inl x :: st) σ Q := by
  intro l D c3 ad p e s m args below meth c H locs ls C hP hS hl
  exact lv_lookup C.1 C.2.1 (sw_dec hI h).1 hp (by rw [sw_ti gx]; exact ho) ht (k l D c3 ad p e s m args below meth c H locs ls C hP hS hl)
end Rows
end
section
theorem sw_goodB : sw_tb.all goodWord = true := List.all_eq_true.mpr (fun w hw => (List.mem_filter.mp hw).2)
theorem sw_good {M : sw_M} (h : Cond.code M.1 M.2.1 M.2.2.1 M.2.2.2.1 ∈ sw_tb) : GoodIn sw_tb (sw_ws M) := by
  have hm : ∀ w ∈ sw_ws M, w ∈ sw_tb := by
    intro w hw
    rcases List.mem_cons.mp hw with e | e
    · rw [e]; exact h
    · exact e
  exact fun w hw => ⟨hm w hw, good_of_word (List.all_eq_true.mp sw_goodB w (hm w hw))⟩
/-- what the tables say of a method that is called: its code, its class, how many arguments -/
def sw_cal (M : sw_M) (n : Nat) : Prop := Cond.code M.1 M.2.1 M.2.2.1 M.2.2.2.1 ∈ sw_tb ∧ Cond.initialized M.1.cls ∈ sw_tb ∧ (M.1.cls ≠ "java/lang/invoke/MethodHandle" ∧ M.1.cls ≠ "java/lang/invoke/VarHandle" ∧ (parseMethodDescriptor M.1.desc).map (fun d => d.parameters.length) = some n)
def sw_calS (M : sw_M) (n : Nat) : Prop := sw_cal M n ∧ Cond.static M.1 ∈ sw_tb
def sw_calV (M : sw_M) (n : Nat) : Prop := sw_cal M n ∧ Cond.instanceMethod M.1 ∈ sw_tb ∧ Cond.selects M.1.cls M.1 M.1 ∈ sw_tb
def sw_fit (M M' : sw_M) : Prop := M'.2.2.2.2.1 + 1 ≤ M.2.2.2.2.1 ∧ 8 + (M'.2.2.1 + 11) + M'.2.2.2.2.2 ≤ M.2.2.2.2.2
theorem sw_rest (ad : Nat → Nat) : ∀ (rest : List sw_Vl), rest.length ≤ 4 → ((rest.map (sw_tv ad)).map fun v => v.category).sum ≤ 8 := by
  have key : ∀ (rest : List sw_Vl), ((rest.map (sw_tv ad)).map fun v => v.category).sum ≤ 2 * rest.length := by
    intro rest
    induction rest with
    | nil => simp
    | cons v r ih =>
      simp only [List.map_cons, List.sum_cons, List.length_cons]
      have : (sw_tv ad v).category ≤ 2 := by rw [sw_tv_cat]; rcases v with x | x | a <;> simp [sw_cat]
      omega
  intro rest h
  have := key rest
  omega
theorem sw_go {p : Program} {l : Launch} {e : Env} {R : Room} {s : State} {m : MethodId} {args : Array Value} {below : List Frame} {meth : Method} {c : Code} {H : Heap} {locs : List Loc} {Qw : State → Prop} {D : va_G} {c3 : sw_C3} {ad : Nat → Nat} {ly : sw_Ly} {ρ : sw_Rf} {Q' : Option sw_Vl → sw_S → Prop} {a : Array Value} {pc k0 n0 : Nat} {ls : Array Slot} {st0 rest : List Value} {A0 : Nat → Prop} {H0 : Heap}
    (hr : va_Run p l e R s m args below meth c H locs k0 n0 0 0 (F0 m pc ls st0) rest (sw_Qc D c3 ad ly ρ Q' (sw_A ad ly.length H.size) a) (sw_A ad ly.length H.size)) (hS : va_S A0 H0 H locs) (hA1 : ∀ i, i < ly.length → A0 (ad i)) (hA2 : ∀ q, H0.size ≤ q → A0 q)
    (kk : ∀ (r : Option sw_Vl) (σ' : sw_S) (H1 : Heap) (locs1 : List Loc), Q' r σ' → va_P D sw_cl (sw_wl c3 ad ly ρ σ') H1 → va_S A0 H0 H1 locs1 → W p l e R s m args below meth c H1 locs1 k0 n0 Qw (F0 m (pc + 3) ls ((r.map (sw_tv ad)).toList ++ rest))) : W p l e R s m args below meth c H locs k0 n0 Qw (F0 m pc ls st0) := by
  have hA : ∀ q, sw_A ad ly.length H.size q → A0 q := by
    intro q h
    rcases h with ⟨i, hi, rfl⟩ | h
    · exact hA1 i hi
    · exact hA2 q (Nat.le_trans hS.1 h)
  intro T hT X
  obtain ⟨v, st₀, t, T', L, h0, X', hL, e1, e2, ⟨⟨r, σ', hv, hq, hP', hK'⟩, hz, hk⟩, st⟩ := hr T hT X
  cases hv
  rw [h0] at hz hk
  obtain ⟨t2, a1, b1⟩ := kk r σ' T'.heap (locs ++ L) hq (by rw [e1]; exact hP')
    ⟨Nat.le_trans hS.1 (by rw [e1]; exact hz), fun q h1 h2 => by rw [e1, hk q (Nat.lt_of_lt_of_le h1 hS.1) (fun z => h2 (hA q z))]; exact hS.2.1 q h1 h2, fun q hq => by
      rcases List.mem_append.mp hq with h | h
      · exact hS.2.2 q h
      · exact hA _ (hL q h)⟩ T' rfl X'
  exact ⟨t2, st t2 a1, b1⟩
theorem sw_blind {D : va_G} {c3 : sw_C3} {ad : Nat → Nat} {ly : sw_Ly} {ρ : sw_Rf} {σ : sw_S} {args : List sw_Vl} {sz : Nat} : FrameBlind (sw_Pc D c3 ad ly ρ σ args sz) := fun a U g mk q => by
  obtain ⟨q0, q1, qP, qK⟩ := q
  exact ⟨q0, q1, qP, va_K.moved (u := U) (U := U.calling g mk a) (Vm.Alike.refl U.vm) qK⟩
section Calls
variable {ly : sw_Ly} {ρ : sw_Rf} {M M' : sw_M} {I : List (Option sw_I)} {pc : Nat} {L : sw_L} {σ : sw_S} {Q Q' : Option sw_Vl → sw_S → Prop}
theorem sw_callS (hI : sw_Ok M I) {idx a b n : Nat} {z : Int} (h : I[pc]? = some (some (.invokestatic idx, a, b, z))) (hc : sw_calS M' n) (hl : Cond.methodLink M.1.cls idx M'.1 ∈ sw_tb) (hf : sw_fit M M') (as rest : List sw_Vl) {st : List sw_Vl} (hn : as.length = n) (hst : st = as.reverse ++ rest) (h4 : rest.length ≤ 4) (nx : Nat) (hnx : pc + 3 = nx) (hC : sw_Con ly ρ M' as σ Q') (k : ∀ (r : Option sw_Vl) (σ' : sw_S), Q' r σ' → sw_E ly ρ M nx L (r.toList ++ rest) σ' Q) : sw_E ly ρ M pc L st σ Q := by
  subst hnx
  subst hst
  obtain ⟨⟨hcode, hini, hd⟩, hsta⟩ := hc
  intro l D c3 ad p e s m args below meth c H locs ls C hP hS hls
  have C0 := C
  obtain ⟨hx, hb, hr, hml, hown, hts, hlk, hK, hj⟩ := C
  have hG : GoodIn sw_tb (va_wsS M.1.cls idx M'.1 (sw_ws M')) := by
    intro w hw
    rcases List.mem_append.mp hw with hw | hw
    · refine ⟨?_, good_of_word (List.all_eq_true.mp sw_goodB w ?_)⟩ <;>
      · simp only [List.mem_cons, List.not_mem_nil, or_false] at hw
        rcases hw with rfl | rfl | rfl
        · exact hl
        · exact hsta
        · exact hini
    · exact sw_good hcode w hw
  have hrun := va_runS (R := sw_rm M) (H := H) (locs := locs) (cells := 0) (slots := 0) (below := below) (meth := meth) (e := e) (As := as.map (sw_tv ad)) (rest := rest.map (sw_tv ad)) (g := F0 m pc ls ((as.reverse ++ rest).map (sw_tv ad))) ⟨hx, hb, hml, hown, hts⟩ (hC l D c3 ad H.size hj) (va_cwS n hts hG rfl rfl rfl hd hf) ⟨sw_blind, fun U hU hW => ⟨rfl, by rw [hU], by rw [hU]; exact hP, va_K.moved hW.alike hK⟩⟩ rfl (by rw [List.length_map]; exact hn) hls.1 (by simp) (by show 2 * 0 + _ ≤ 8; rw [Nat.mul_zero, Nat.zero_add]; exact sw_rest ad rest h4) (sw_dec hI h).1 ⟨Nat.le_refl _, Nat.le_refl _⟩
  refine sw_go hrun hS (fun i hi => Or.inl ⟨i, hi, rfl⟩) (fun q hq => Or.inr hq) (fun r σ' H1 locs1 hq hP1 hS1 => ?_)
  have kk := k r σ' hq l D c3 ad p e s m args below meth c H1 locs1 ls C0 hP1 hS1 hls
  cases r <;> exact kk
theorem sw_callV (hI : sw_Ok M I) {idx a b n : Nat} {z : Int} (h : I[pc]? = some (some (.invokevirtual idx, a, b, z))) (hc : sw_calV M' n) (hl : Cond.methodLink M.1.cls idx M'.1 ∈ sw_tb) (hf : sw_fit M M') (o : Nat) {ci kn : Nat} {T : u_T} {N : Nat} (hk : ly[o]? = some (ci, kn)) (hcl : sw_cl[ci]? = some (M'.1.cls, T, N)) (as rest : List sw_Vl) {st : List sw_Vl} (hn : as.length = n) (hst : st = as.reverse ++ .inr (.inr o) :: rest) (h4 : rest.length ≤ 4) (nx : Nat) (hnx : pc + 3 = nx) (hC : sw_Con ly ρ M' (.inr (.inr o) :: as) σ Q') (k : ∀ (r : Option sw_Vl) (σ' : sw_S), Q' r σ' → sw_E ly ρ M nx L (r.toList ++ rest) σ' Q) : sw_E ly ρ M pc L st σ Q := by
  subst hnx
  subst hst
  obtain ⟨⟨hcode, hini, hd⟩, hins, hsel⟩ := hc
  intro l D c3 ad p e s m args below meth c H locs ls C hP hS hls
  have C0 := C
  obtain ⟨hx, hb, hr, hml, hown, hts, hlk, hK, hj⟩ := C
  have hG : GoodIn sw_tb (wsV M.1.cls idx M'.1.cls M'.1 (sw_ws M')) := by
    intro w hw
    rcases List.mem_append.mp hw with hw | hw
    · refine ⟨?_, good_of_word (List.all_eq_true.mp sw_goodB w ?_)⟩ <;>
      · simp only [List.mem_cons, List.not_mem_nil, or_false] at hw
        rcases hw with rfl | rfl | rfl | rfl
        · exact hl
        · exact hins
        · exact hsel
        · exact hini
    · exact sw_good hcode w hw
  have hci : ci < 9 := (List.getElem?_eq_some_iff.mp hcl).1
  have he := sw_wl_at (c3 := c3) (ad := ad) (ρ := ρ) (σ := σ) hk
  have hce : sw_ce c3 ad ρ σ o (ci, kn) = .inr (ci, (List.range (sw_N ci)).map fun j => sw_fv ad (ρ o j) (σ o j)) := by
    unfold sw_ce
    rw [if_neg (by show ¬ ci = 100; omega), if_neg (by show ¬ ci = 101; omega), if_neg (by show ¬ ci = 102; omega)]
  rw [hce] at he
  have hrun := va_runV (R := sw_rm M) (C := M'.1.cls) (H := H) (locs := locs) (cells := 0) (slots := 0) (below := below) (meth := meth) (e := e) (As := as.map (sw_tv ad)) (b := ad o) (rest := rest.map (sw_tv ad)) (g := F0 m pc ls ((as.reverse ++ .inr (.inr o) :: rest).map (sw_tv ad))) ⟨hx, hb, hml, hown, hts⟩ (hC l D c3 ad H.size hj) (cwV n hts hG rfl rfl rfl ⟨rfl, hd⟩ hf) ⟨sw_blind, va_recv hK hP hcl he, fun U hU hW => ⟨rfl, by rw [hU], by rw [hU]; exact hP, va_K.moved hW.alike hK⟩⟩ rfl (by rw [List.length_map]; exact hn) hls.1 (by simp [sw_tv]) (by show 2 * 0 + _ ≤ 8; rw [Nat.mul_zero, Nat.zero_add]; exact sw_rest ad rest h4) (sw_dec hI h).1 ⟨Nat.le_refl _, Nat.le_refl _⟩
  refine sw_go hrun hS (fun i hi => Or.inl ⟨i, hi, rfl⟩) (fun q hq => Or.inr hq) (fun r σ' H1 locs1 hq hP1 hS1 => ?_)
  have kk := k r σ' hq l D c3 ad p e s m args below meth c H1 locs1 ls C0 hP1 hS1 hls
  cases r <;> exact kk
end Calls
end
