section
-- ===== PART A: goes FIRST, ahead of the names: the tables' words, and 'selects' of the private methods out of them =====
/-- a private method of a class that the tables say can be made, by its rows of tables_1 -/
def lw_okq (q : MethodName × Nat) : Prop := (q.1.cls ≠ "java/lang/invoke/MethodHandle" ∧ q.1.cls ≠ "java/lang/invoke/VarHandle") ∧ Cond.instantiable q.1.cls q.2 ∈ tables_1 ∧ Cond.privateMethod q.1 ∈ tables_1 ∧ Cond.instanceMethod q.1 ∈ tables_1
theorem lw_p0 : lw_okq (⟨"ShaftWinder$RideFinder", "aimAt", "(II)V"⟩, 5) := ⟨⟨by decide +kernel, by decide +kernel⟩, List.mem_of_getElem? (i := 59) (by decide +kernel), List.mem_of_getElem? (i := 313) (by decide +kernel), List.mem_of_getElem? (i := 314) (by decide +kernel)⟩
theorem lw_p1 : lw_okq (⟨"ShaftWinder$RideFinder", "fillRow", "(I)V"⟩, 5) := ⟨⟨by decide +kernel, by decide +kernel⟩, List.mem_of_getElem? (i := 59) (by decide +kernel), List.mem_of_getElem? (i := 321) (by decide +kernel), List.mem_of_getElem? (i := 322) (by decide +kernel)⟩
theorem lw_p2 : lw_okq (⟨"ShaftWinder$RideFinder", "greatestFrom", "(I)I"⟩, 5) := ⟨⟨by decide +kernel, by decide +kernel⟩, List.mem_of_getElem? (i := 59) (by decide +kernel), List.mem_of_getElem? (i := 325) (by decide +kernel), List.mem_of_getElem? (i := 326) (by decide +kernel)⟩
theorem lw_p3 : lw_okq (⟨"ShaftWinder$RideFinder", "ticksAfter", "(II)I"⟩, 5) := ⟨⟨by decide +kernel, by decide +kernel⟩, List.mem_of_getElem? (i := 59) (by decide +kernel), List.mem_of_getElem? (i := 332) (by decide +kernel), List.mem_of_getElem? (i := 333) (by decide +kernel)⟩
theorem lw_p4 : lw_okq (⟨"ShaftWinder$RideFinder", "farthestOfBest", "(II)I"⟩, 5) := ⟨⟨by decide +kernel, by decide +kernel⟩, List.mem_of_getElem? (i := 59) (by decide +kernel), List.mem_of_getElem? (i := 345) (by decide +kernel), List.mem_of_getElem? (i := 346) (by decide +kernel)⟩
theorem lw_p5 : lw_okq (⟨"ShaftWinder$Winding", "mustBrake", "()Z"⟩, 15) := ⟨⟨by decide +kernel, by decide +kernel⟩, List.mem_of_getElem? (i := 85) (by decide +kernel), List.mem_of_getElem? (i := 385) (by decide +kernel), List.mem_of_getElem? (i := 386) (by decide +kernel)⟩
theorem lw_p6 : lw_okq (⟨"ShaftWinder$Winding", "nextSpeed", "()I"⟩, 15) := ⟨⟨by decide +kernel, by decide +kernel⟩, List.mem_of_getElem? (i := 85) (by decide +kernel), List.mem_of_getElem? (i := 390) (by decide +kernel), List.mem_of_getElem? (i := 391) (by decide +kernel)⟩
theorem lw_p7 : lw_okq (⟨"ShaftWinder$Winding", "rideOn", "()V"⟩, 15) := ⟨⟨by decide +kernel, by decide +kernel⟩, List.mem_of_getElem? (i := 85) (by decide +kernel), List.mem_of_getElem? (i := 405) (by decide +kernel), List.mem_of_getElem? (i := 406) (by decide +kernel)⟩
theorem lw_p8 : lw_okq (⟨"ShaftWinder$Winding", "slowDown", "()V"⟩, 15) := ⟨⟨by decide +kernel, by decide +kernel⟩, List.mem_of_getElem? (i := 85) (by decide +kernel), List.mem_of_getElem? (i := 409) (by decide +kernel), List.mem_of_getElem? (i := 410) (by decide +kernel)⟩
theorem lw_p9 : lw_okq (⟨"ShaftWinder", "finding", "(I)I"⟩, 11) := ⟨⟨by decide +kernel, by decide +kernel⟩, List.mem_of_getElem? (i := 14) (by decide +kernel), List.mem_of_getElem? (i := 545) (by decide +kernel), List.mem_of_getElem? (i := 546) (by decide +kernel)⟩
theorem lw_p10 : lw_okq (⟨"ShaftWinderModel", "isPlace", "(I)Z"⟩, 40) := ⟨⟨by decide +kernel, by decide +kernel⟩, List.mem_of_getElem? (i := 624) (by decide +kernel), List.mem_of_getElem? (i := 762) (by decide +kernel), List.mem_of_getElem? (i := 763) (by decide +kernel)⟩
theorem lw_p11 : lw_okq (⟨"ShaftWinderModel", "lookAtZones", "()V"⟩, 40) := ⟨⟨by decide +kernel, by decide +kernel⟩, List.mem_of_getElem? (i := 624) (by decide +kernel), List.mem_of_getElem? (i := 774) (by decide +kernel), List.mem_of_getElem? (i := 775) (by decide +kernel)⟩
theorem lw_p12 : lw_okq (⟨"ShaftWinderModel", "allowed", "(I)I"⟩, 40) := ⟨⟨by decide +kernel, by decide +kernel⟩, List.mem_of_getElem? (i := 624) (by decide +kernel), List.mem_of_getElem? (i := 778) (by decide +kernel), List.mem_of_getElem? (i := 779) (by decide +kernel)⟩
theorem lw_p13 : lw_okq (⟨"ShaftWinderModel", "isTick", "(II)Z"⟩, 40) := ⟨⟨by decide +kernel, by decide +kernel⟩, List.mem_of_getElem? (i := 624) (by decide +kernel), List.mem_of_getElem? (i := 782) (by decide +kernel), List.mem_of_getElem? (i := 783) (by decide +kernel)⟩
theorem lw_p14 : lw_okq (⟨"ShaftWinderModel", "plans", "(II)I"⟩, 40) := ⟨⟨by decide +kernel, by decide +kernel⟩, List.mem_of_getElem? (i := 624) (by decide +kernel), List.mem_of_getElem? (i := 790) (by decide +kernel), List.mem_of_getElem? (i := 791) (by decide +kernel)⟩
theorem lw_p15 : lw_okq (⟨"ShaftWinderModel", "workBack", "(I)V"⟩, 40) := ⟨⟨by decide +kernel, by decide +kernel⟩, List.mem_of_getElem? (i := 624) (by decide +kernel), List.mem_of_getElem? (i := 794) (by decide +kernel), List.mem_of_getElem? (i := 795) (by decide +kernel)⟩
def lw_privs_1 : List (MethodName × Nat) := [(⟨"ShaftWinder$RideFinder", "aimAt", "(II)V"⟩, 5), (⟨"ShaftWinder$RideFinder", "fillRow", "(I)V"⟩, 5), (⟨"ShaftWinder$RideFinder", "greatestFrom", "(I)I"⟩, 5), (⟨"ShaftWinder$RideFinder", "ticksAfter", "(II)I"⟩, 5), (⟨"ShaftWinder$RideFinder", "farthestOfBest", "(II)I"⟩, 5), (⟨"ShaftWinder$Winding", "mustBrake", "()Z"⟩, 15), (⟨"ShaftWinder$Winding", "nextSpeed", "()I"⟩, 15), (⟨"ShaftWinder$Winding", "rideOn", "()V"⟩, 15), (⟨"ShaftWinder$Winding", "slowDown", "()V"⟩, 15), (⟨"ShaftWinder", "finding", "(I)I"⟩, 11), (⟨"ShaftWinderModel", "isPlace", "(I)Z"⟩, 40), (⟨"ShaftWinderModel", "lookAtZones", "()V"⟩, 40), (⟨"ShaftWinderModel", "allowed", "(I)I"⟩, 40), (⟨"ShaftWinderModel", "isTick", "(II)Z"⟩, 40), (⟨"ShaftWinderModel", "plans", "(II)I"⟩, 40), (⟨"ShaftWinderModel", "workBack", "(I)V"⟩, 40)]
theorem lw_r1 : ∀ q ∈ lw_privs_1, lw_okq q := List.forall_mem_cons.mpr ⟨lw_p0, List.forall_mem_cons.mpr ⟨lw_p1, List.forall_mem_cons.mpr ⟨lw_p2, List.forall_mem_cons.mpr ⟨lw_p3, List.forall_mem_cons.mpr ⟨lw_p4, List.forall_mem_cons.mpr ⟨lw_p5, List.forall_mem_cons.mpr ⟨lw_p6, List.forall_mem_cons.mpr ⟨lw_p7, List.forall_mem_cons.mpr ⟨lw_p8, List.forall_mem_cons.mpr ⟨lw_p9, List.forall_mem_cons.mpr ⟨lw_p10, List.forall_mem_cons.mpr ⟨lw_p11, List.forall_mem_cons.mpr ⟨lw_p12, List.forall_mem_cons.mpr ⟨lw_p13, List.forall_mem_cons.mpr ⟨lw_p14, List.forall_mem_cons.mpr ⟨lw_p15, fun _ h => absurd h List.not_mem_nil⟩⟩⟩⟩⟩⟩⟩⟩⟩⟩⟩⟩⟩⟩⟩⟩
theorem lw_p16 : lw_okq (⟨"ShaftWinderModel", "goes", "(III)Z"⟩, 40) := ⟨⟨by decide +kernel, by decide +kernel⟩, List.mem_of_getElem? (i := 624) (by decide +kernel), List.mem_of_getElem? (i := 798) (by decide +kernel), List.mem_of_getElem? (i := 799) (by decide +kernel)⟩
theorem lw_p17 : lw_okq (⟨"ShaftWinderModel", "opens", "()I"⟩, 40) := ⟨⟨by decide +kernel, by decide +kernel⟩, List.mem_of_getElem? (i := 624) (by decide +kernel), List.mem_of_getElem? (i := 826) (by decide +kernel), List.mem_of_getElem? (i := 827) (by decide +kernel)⟩
theorem lw_p18 : lw_okq (⟨"ShaftWinderModel", "rides", "()V"⟩, 40) := ⟨⟨by decide +kernel, by decide +kernel⟩, List.mem_of_getElem? (i := 624) (by decide +kernel), List.mem_of_getElem? (i := 834) (by decide +kernel), List.mem_of_getElem? (i := 835) (by decide +kernel)⟩
theorem lw_p19 : lw_okq (⟨"ShaftWinderModel", "told", "()I"⟩, 40) := ⟨⟨by decide +kernel, by decide +kernel⟩, List.mem_of_getElem? (i := 624) (by decide +kernel), List.mem_of_getElem? (i := 838) (by decide +kernel), List.mem_of_getElem? (i := 839) (by decide +kernel)⟩
theorem lw_p20 : lw_okq (⟨"ShaftWinderModel", "brakes", "()V"⟩, 40) := ⟨⟨by decide +kernel, by decide +kernel⟩, List.mem_of_getElem? (i := 624) (by decide +kernel), List.mem_of_getElem? (i := 842) (by decide +kernel), List.mem_of_getElem? (i := 843) (by decide +kernel)⟩
theorem lw_p21 : lw_okq (⟨"ShaftWinderModel", "isSlipping", "(III)Z"⟩, 40) := ⟨⟨by decide +kernel, by decide +kernel⟩, List.mem_of_getElem? (i := 624) (by decide +kernel), List.mem_of_getElem? (i := 862) (by decide +kernel), List.mem_of_getElem? (i := 863) (by decide +kernel)⟩
theorem lw_p22 : lw_okq (⟨"ShaftWinderModel", "firstSlip", "(III)I"⟩, 40) := ⟨⟨by decide +kernel, by decide +kernel⟩, List.mem_of_getElem? (i := 624) (by decide +kernel), List.mem_of_getElem? (i := 870) (by decide +kernel), List.mem_of_getElem? (i := 871) (by decide +kernel)⟩
theorem lw_p23 : lw_okq (⟨"ShaftWinderModel", "worstFrom", "(II)I"⟩, 40) := ⟨⟨by decide +kernel, by decide +kernel⟩, List.mem_of_getElem? (i := 624) (by decide +kernel), List.mem_of_getElem? (i := 886) (by decide +kernel), List.mem_of_getElem? (i := 887) (by decide +kernel)⟩
theorem lw_p24 : lw_okq (⟨"ShaftWinderModel", "sumOf", "(II)I"⟩, 40) := ⟨⟨by decide +kernel, by decide +kernel⟩, List.mem_of_getElem? (i := 624) (by decide +kernel), List.mem_of_getElem? (i := 890) (by decide +kernel), List.mem_of_getElem? (i := 891) (by decide +kernel)⟩
theorem lw_p25 : lw_okq (⟨"ShaftWinderModel", "logged", "()I"⟩, 40) := ⟨⟨by decide +kernel, by decide +kernel⟩, List.mem_of_getElem? (i := 624) (by decide +kernel), List.mem_of_getElem? (i := 921) (by decide +kernel), List.mem_of_getElem? (i := 922) (by decide +kernel)⟩
theorem lw_p26 : lw_okq (⟨"ShaftWinderModel", "meets", "(I)I"⟩, 40) := ⟨⟨by decide +kernel, by decide +kernel⟩, List.mem_of_getElem? (i := 624) (by decide +kernel), List.mem_of_getElem? (i := 932) (by decide +kernel), List.mem_of_getElem? (i := 933) (by decide +kernel)⟩
theorem lw_p27 : lw_okq (⟨"ShaftWinderModel", "lacks", "(III)I"⟩, 40) := ⟨⟨by decide +kernel, by decide +kernel⟩, List.mem_of_getElem? (i := 624) (by decide +kernel), List.mem_of_getElem? (i := 944) (by decide +kernel), List.mem_of_getElem? (i := 945) (by decide +kernel)⟩
theorem lw_p28 : lw_okq (⟨"ShaftWinderModel", "lay", "(III)V"⟩, 40) := ⟨⟨by decide +kernel, by decide +kernel⟩, List.mem_of_getElem? (i := 624) (by decide +kernel), List.mem_of_getElem? (i := 948) (by decide +kernel), List.mem_of_getElem? (i := 949) (by decide +kernel)⟩
theorem lw_p29 : lw_okq (⟨"ShaftWinderModel", "fits", "(III)Z"⟩, 40) := ⟨⟨by decide +kernel, by decide +kernel⟩, List.mem_of_getElem? (i := 624) (by decide +kernel), List.mem_of_getElem? (i := 977) (by decide +kernel), List.mem_of_getElem? (i := 978) (by decide +kernel)⟩
def lw_privs_2 : List (MethodName × Nat) := [(⟨"ShaftWinderModel", "goes", "(III)Z"⟩, 40), (⟨"ShaftWinderModel", "opens", "()I"⟩, 40), (⟨"ShaftWinderModel", "rides", "()V"⟩, 40), (⟨"ShaftWinderModel", "told", "()I"⟩, 40), (⟨"ShaftWinderModel", "brakes", "()V"⟩, 40), (⟨"ShaftWinderModel", "isSlipping", "(III)Z"⟩, 40), (⟨"ShaftWinderModel", "firstSlip", "(III)I"⟩, 40), (⟨"ShaftWinderModel", "worstFrom", "(II)I"⟩, 40), (⟨"ShaftWinderModel", "sumOf", "(II)I"⟩, 40), (⟨"ShaftWinderModel", "logged", "()I"⟩, 40), (⟨"ShaftWinderModel", "meets", "(I)I"⟩, 40), (⟨"ShaftWinderModel", "lacks", "(III)I"⟩, 40), (⟨"ShaftWinderModel", "lay", "(III)V"⟩, 40), (⟨"ShaftWinderModel", "fits", "(III)Z"⟩, 40)]
theorem lw_r2 : ∀ q ∈ lw_privs_2, lw_okq q := List.forall_mem_cons.mpr ⟨lw_p16, List.forall_mem_cons.mpr ⟨lw_p17, List.forall_mem_cons.mpr ⟨lw_p18, List.forall_mem_cons.mpr ⟨lw_p19, List.forall_mem_cons.mpr ⟨lw_p20, List.forall_mem_cons.mpr ⟨lw_p21, List.forall_mem_cons.mpr ⟨lw_p22, List.forall_mem_cons.mpr ⟨lw_p23, List.forall_mem_cons.mpr ⟨lw_p24, List.forall_mem_cons.mpr ⟨lw_p25, List.forall_mem_cons.mpr ⟨lw_p26, List.forall_mem_cons.mpr ⟨lw_p27, List.forall_mem_cons.mpr ⟨lw_p28, List.forall_mem_cons.mpr ⟨lw_p29, fun _ h => absurd h List.not_mem_nil⟩⟩⟩⟩⟩⟩⟩⟩⟩⟩⟩⟩⟩⟩
def lw_privs : List (MethodName × Nat) := lw_privs_1 ++ (lw_privs_2)
def lw_tbl : List Cond := k2_sels lw_privs ++ tables_1
theorem lw_privs_ok : ∀ q ∈ lw_privs, lw_okq q := by
  show ∀ q ∈ lw_privs_1 ++ (lw_privs_2), lw_okq q
  exact List.forall_mem_append.mpr ⟨lw_r1, lw_r2⟩
end
section
def RX0 : String := "ShaftWinder$Book"
def TX0 : u_T := fun k => match k with
  | _ => ("ShaftWinder$Book", "wires", "[I", true)
def tyX0 : Nat → FieldType := fun k => match k with
  | _ => .array .int
theorem nmX0 : ∀ a, a < 1 → ∀ b, b < 1 → a ≠ b → (TX0 a).2.1 ≠ (TX0 b).2.1 := by decide +kernel
theorem tyX0_ok : ∀ k, k < 1 → parseFieldDescriptor (TX0 k).2.2.1 = some (tyX0 k) := by decide +kernel
abbrev cX0_init : ByteArray := prog_2_method_1_code
def yX0_init : MethodName := ⟨RX0, "<init>", "()V"⟩
abbrev cX0_addBroken : ByteArray := prog_2_method_2_code
def yX0_addBroken : MethodName := ⟨RX0, "addBroken", "(II)I"⟩
abbrev cX0_wiresIn : ByteArray := prog_2_method_3_code
def yX0_wiresIn : MethodName := ⟨RX0, "wiresIn", "(II)I"⟩
abbrev cX0_firstOfWorst : ByteArray := prog_2_method_4_code
def yX0_firstOfWorst : MethodName := ⟨RX0, "firstOfWorst", "(I)I"⟩
abbrev cX0_cutAway : ByteArray := prog_2_method_5_code
def yX0_cutAway : MethodName := ⟨RX0, "cutAway", "(I)I"⟩
abbrev cX0_fewestToCut : ByteArray := prog_2_method_6_code
def yX0_fewestToCut : MethodName := ⟨RX0, "fewestToCut", "(II)I"⟩
abbrev cX0_take : ByteArray := prog_2_method_7_code
def yX0_take : MethodName := ⟨RX0, "take", "([II)V"⟩
def RX1 : String := "ShaftWinder$RideFinder"
def TX1 : u_T := fun k => match k with
  | 0 => ("ShaftWinder$RideFinder", "shaft", "LShaftWinder$Shaft;", true)
  | 1 => ("ShaftWinder$RideFinder", "left", "[I", true)
  | 2 => ("ShaftWinder$RideFinder", "end", "I", false)
  | 3 => ("ShaftWinder$RideFinder", "way", "I", false)
  | _ => ("ShaftWinder$RideFinder", "farthest", "I", false)
def tyX1 : Nat → FieldType := fun k => match k with
  | 0 => .object "ShaftWinder$Shaft"
  | 1 => .array .int
  | 2 => .int
  | 3 => .int
  | _ => .int
theorem nmX1 : ∀ a, a < 5 → ∀ b, b < 5 → a ≠ b → (TX1 a).2.1 ≠ (TX1 b).2.1 := by decide +kernel
theorem tyX1_ok : ∀ k, k < 5 → parseFieldDescriptor (TX1 k).2.2.1 = some (tyX1 k) := by decide +kernel
abbrev cX1_init : ByteArray := prog_3_method_1_code
def yX1_init : MethodName := ⟨RX1, "<init>", "(LShaftWinder$Shaft;)V"⟩
abbrev cX1_forget : ByteArray := prog_3_method_2_code
def yX1_forget : MethodName := ⟨RX1, "forget", "()V"⟩
abbrev cX1_ticksBetween : ByteArray := prog_3_method_3_code
def yX1_ticksBetween : MethodName := ⟨RX1, "ticksBetween", "(II)I"⟩
abbrev cX1_trace : ByteArray := prog_3_method_4_code
def yX1_trace : MethodName := ⟨RX1, "trace", "(II[I)I"⟩
abbrev cX1_aimAt : ByteArray := prog_3_method_5_code
def yX1_aimAt : MethodName := ⟨RX1, "aimAt", "(II)V"⟩
abbrev cX1_fillRow : ByteArray := prog_3_method_6_code
def yX1_fillRow : MethodName := ⟨RX1, "fillRow", "(I)V"⟩
abbrev cX1_farthestOfBest : ByteArray := prog_3_method_7_code
def yX1_farthestOfBest : MethodName := ⟨RX1, "farthestOfBest", "(II)I"⟩
abbrev cX1_greatestFrom : ByteArray := prog_3_method_8_code
def yX1_greatestFrom : MethodName := ⟨RX1, "greatestFrom", "(I)I"⟩
abbrev cX1_ticksAfter : ByteArray := prog_3_method_9_code
def yX1_ticksAfter : MethodName := ⟨RX1, "ticksAfter", "(II)I"⟩
def RX2 : String := "ShaftWinder$Rope"
def TX2 : u_T := fun k => match k with
  | 0 => ("ShaftWinder$Rope", "shaft", "LShaftWinder$Shaft;", true)
  | 1 => ("ShaftWinder$Rope", "load0", "I", false)
  | 2 => ("ShaftWinder$Rope", "load1", "I", false)
  | 3 => ("ShaftWinder$Rope", "weight", "I", false)
  | _ => ("ShaftWinder$Rope", "kept", "I", false)
def tyX2 : Nat → FieldType := fun k => match k with
  | 0 => .object "ShaftWinder$Shaft"
  | 1 => .int
  | 2 => .int
  | 3 => .int
  | _ => .int
theorem nmX2 : ∀ a, a < 5 → ∀ b, b < 5 → a ≠ b → (TX2 a).2.1 ≠ (TX2 b).2.1 := by decide +kernel
theorem tyX2_ok : ∀ k, k < 5 → parseFieldDescriptor (TX2 k).2.2.1 = some (tyX2 k) := by decide +kernel
abbrev cX2_init : ByteArray := prog_4_method_1_code
def yX2_init : MethodName := ⟨RX2, "<init>", "(LShaftWinder$Shaft;)V"⟩
abbrev cX2_slipsAt : ByteArray := prog_4_method_2_code
def yX2_slipsAt : MethodName := ⟨RX2, "slipsAt", "(III)Z"⟩
abbrev cX2_firstSlip : ByteArray := prog_4_method_3_code
def yX2_firstSlip : MethodName := ⟨RX2, "firstSlip", "(I[II)I"⟩
abbrev cX2_leastRatio : ByteArray := prog_4_method_4_code
def yX2_leastRatio : MethodName := ⟨RX2, "leastRatio", "(I[II)I"⟩
def RX3 : String := "ShaftWinder$Shaft"
def TX3 : u_T := fun k => match k with
  | 0 => ("ShaftWinder$Shaft", "deep", "I", false)
  | 1 => ("ShaftWinder$Shaft", "top", "I", false)
  | 2 => ("ShaftWinder$Shaft", "change", "I", false)
  | 3 => ("ShaftWinder$Shaft", "zones", "I", false)
  | _ => ("ShaftWinder$Shaft", "limits", "[I", true)
def tyX3 : Nat → FieldType := fun k => match k with
  | 0 => .int
  | 1 => .int
  | 2 => .int
  | 3 => .int
  | _ => .array .int
theorem nmX3 : ∀ a, a < 5 → ∀ b, b < 5 → a ≠ b → (TX3 a).2.1 ≠ (TX3 b).2.1 := by decide +kernel
theorem tyX3_ok : ∀ k, k < 5 → parseFieldDescriptor (TX3 k).2.2.1 = some (tyX3 k) := by decide +kernel
abbrev cX3_init : ByteArray := prog_5_method_1_code
def yX3_init : MethodName := ⟨RX3, "<init>", "()V"⟩
abbrev cX3_renew : ByteArray := prog_5_method_2_code
def yX3_renew : MethodName := ⟨RX3, "renew", "(III)V"⟩
abbrev cX3_has : ByteArray := prog_5_method_3_code
def yX3_has : MethodName := ⟨RX3, "has", "(I)Z"⟩
abbrev cX3_addZone : ByteArray := prog_5_method_4_code
def yX3_addZone : MethodName := ⟨RX3, "addZone", "(III)V"⟩
abbrev cX3_limitAt : ByteArray := prog_5_method_5_code
def yX3_limitAt : MethodName := ⟨RX3, "limitAt", "(I)I"⟩
abbrev cX3_greatestSpeed : ByteArray := prog_5_method_6_code
def yX3_greatestSpeed : MethodName := ⟨RX3, "greatestSpeed", "(II)I"⟩
abbrev cX3_allowsTick : ByteArray := prog_5_method_7_code
def yX3_allowsTick : MethodName := ⟨RX3, "allowsTick", "(III)Z"⟩
abbrev cX3_lawfulSpeeds : ByteArray := prog_5_method_8_code
def yX3_lawfulSpeeds : MethodName := ⟨RX3, "lawfulSpeeds", "(I[II)I"⟩
def RX4 : String := "ShaftWinder$Sheet"
def TX4 : u_T := fun k => match k with
  | 0 => ("ShaftWinder$Sheet", "items", "[I", true)
  | 1 => ("ShaftWinder$Sheet", "lost", "Z", false)
  | 2 => ("ShaftWinder$Sheet", "form", "I", false)
  | _ => ("ShaftWinder$Sheet", "size", "I", false)
def tyX4 : Nat → FieldType := fun k => match k with
  | 0 => .array .int
  | 1 => .boolean
  | 2 => .int
  | _ => .int
theorem nmX4 : ∀ a, a < 4 → ∀ b, b < 4 → a ≠ b → (TX4 a).2.1 ≠ (TX4 b).2.1 := by decide +kernel
theorem tyX4_ok : ∀ k, k < 4 → parseFieldDescriptor (TX4 k).2.2.1 = some (tyX4 k) := by decide +kernel
abbrev cX4_init : ByteArray := prog_6_method_1_code
def yX4_init : MethodName := ⟨RX4, "<init>", "()V"⟩
abbrev cX4_renew : ByteArray := prog_6_method_2_code
def yX4_renew : MethodName := ⟨RX4, "renew", "(II)V"⟩
abbrev cX4_hasItems : ByteArray := prog_6_method_3_code
def yX4_hasItems : MethodName := ⟨RX4, "hasItems", "(II)Z"⟩
abbrev cX4_store : ByteArray := prog_6_method_4_code
def yX4_store : MethodName := ⟨RX4, "store", "(II)V"⟩
def RX5 : String := "ShaftWinder$TickLog"
def TX5 : u_T := fun k => match k with
  | 0 => ("ShaftWinder$TickLog", "parts", "[I", true)
  | _ => ("ShaftWinder$TickLog", "noted", "I", false)
def tyX5 : Nat → FieldType := fun k => match k with
  | 0 => .array .int
  | _ => .int
theorem nmX5 : ∀ a, a < 2 → ∀ b, b < 2 → a ≠ b → (TX5 a).2.1 ≠ (TX5 b).2.1 := by decide +kernel
theorem tyX5_ok : ∀ k, k < 2 → parseFieldDescriptor (TX5 k).2.2.1 = some (tyX5 k) := by decide +kernel
abbrev cX5_init : ByteArray := prog_7_method_1_code
def yX5_init : MethodName := ⟨RX5, "<init>", "()V"⟩
abbrev cX5_size : ByteArray := prog_7_method_2_code
def yX5_size : MethodName := ⟨RX5, "size", "()I"⟩
abbrev cX5_note : ByteArray := prog_7_method_3_code
def yX5_note : MethodName := ⟨RX5, "note", "(III)V"⟩
abbrev cX5_latest : ByteArray := prog_7_method_4_code
def yX5_latest : MethodName := ⟨RX5, "latest", "(II)I"⟩
def RX6 : String := "ShaftWinder$Winding"
def TX6 : u_T := fun k => match k with
  | 0 => ("ShaftWinder$Winding", "shaft", "LShaftWinder$Shaft;", true)
  | 1 => ("ShaftWinder$Winding", "past", "LShaftWinder$TickLog;", true)
  | 2 => ("ShaftWinder$Winding", "linkOpen", "[Z", true)
  | 3 => ("ShaftWinder$Winding", "errors", "[I", true)
  | 4 => ("ShaftWinder$Winding", "ride", "[I", true)
  | 5 => ("ShaftWinder$Winding", "length", "I", false)
  | 6 => ("ShaftWinder$Winding", "ridden", "I", false)
  | 7 => ("ShaftWinder$Winding", "place", "I", false)
  | 8 => ("ShaftWinder$Winding", "speed", "I", false)
  | 9 => ("ShaftWinder$Winding", "how", "I", false)
  | 10 => ("ShaftWinder$Winding", "bell", "I", false)
  | 11 => ("ShaftWinder$Winding", "margin", "I", false)
  | 12 => ("ShaftWinder$Winding", "brake", "I", false)
  | 13 => ("ShaftWinder$Winding", "ended", "I", false)
  | _ => ("ShaftWinder$Winding", "braked", "I", false)
def tyX6 : Nat → FieldType := fun k => match k with
  | 0 => .object "ShaftWinder$Shaft"
  | 1 => .object "ShaftWinder$TickLog"
  | 2 => .array .boolean
  | 3 => .array .int
  | 4 => .array .int
  | 5 => .int
  | 6 => .int
  | 7 => .int
  | 8 => .int
  | 9 => .int
  | 10 => .int
  | 11 => .int
  | 12 => .int
  | 13 => .int
  | _ => .int
theorem nmX6 : ∀ a, a < 15 → ∀ b, b < 15 → a ≠ b → (TX6 a).2.1 ≠ (TX6 b).2.1 := by decide +kernel
theorem tyX6_ok : ∀ k, k < 15 → parseFieldDescriptor (TX6 k).2.2.1 = some (tyX6 k) := by decide +kernel
abbrev cX6_init : ByteArray := prog_8_method_1_code
def yX6_init : MethodName := ⟨RX6, "<init>", "(LShaftWinder$Shaft;)V"⟩
abbrev cX6_rests : ByteArray := prog_8_method_2_code
def yX6_rests : MethodName := ⟨RX6, "rests", "()Z"⟩
abbrev cX6_openLinks : ByteArray := prog_8_method_3_code
def yX6_openLinks : MethodName := ⟨RX6, "openLinks", "()I"⟩
abbrev cX6_told : ByteArray := prog_8_method_4_code
def yX6_told : MethodName := ⟨RX6, "told", "()I"⟩
abbrev cX6_ticksLeft : ByteArray := prog_8_method_5_code
def yX6_ticksLeft : MethodName := ⟨RX6, "ticksLeft", "()I"⟩
abbrev cX6_setOut : ByteArray := prog_8_method_6_code
def yX6_setOut : MethodName := ⟨RX6, "setOut", "(I)V"⟩
abbrev cX6_passTick : ByteArray := prog_8_method_7_code
def yX6_passTick : MethodName := ⟨RX6, "passTick", "()V"⟩
abbrev cX6_nextSpeed : ByteArray := prog_8_method_8_code
def yX6_nextSpeed : MethodName := ⟨RX6, "nextSpeed", "()I"⟩
abbrev cX6_mustBrake : ByteArray := prog_8_method_9_code
def yX6_mustBrake : MethodName := ⟨RX6, "mustBrake", "()Z"⟩
abbrev cX6_rideOn : ByteArray := prog_8_method_10_code
def yX6_rideOn : MethodName := ⟨RX6, "rideOn", "()V"⟩
abbrev cX6_slowDown : ByteArray := prog_8_method_11_code
def yX6_slowDown : MethodName := ⟨RX6, "slowDown", "()V"⟩
def RX7 : String := "ShaftWinder"
def TX7 : u_T := fun k => match k with
  | 0 => ("ShaftWinder", "shaft", "LShaftWinder$Shaft;", true)
  | 1 => ("ShaftWinder", "finder", "LShaftWinder$RideFinder;", true)
  | 2 => ("ShaftWinder", "winding", "LShaftWinder$Winding;", true)
  | 3 => ("ShaftWinder", "rope", "LShaftWinder$Rope;", true)
  | 4 => ("ShaftWinder", "book", "LShaftWinder$Book;", true)
  | 5 => ("ShaftWinder", "sheets", "[LShaftWinder$Sheet;", true)
  | 6 => ("ShaftWinder", "stopPlaces", "[I", true)
  | 7 => ("ShaftWinder", "stopCodes", "[I", true)
  | 8 => ("ShaftWinder", "stops", "I", false)
  | 9 => ("ShaftWinder", "latestFinding", "I", false)
  | _ => ("ShaftWinder", "asked", "[I", true)
def tyX7 : Nat → FieldType := fun k => match k with
  | 0 => .object "ShaftWinder$Shaft"
  | 1 => .object "ShaftWinder$RideFinder"
  | 2 => .object "ShaftWinder$Winding"
  | 3 => .object "ShaftWinder$Rope"
  | 4 => .object "ShaftWinder$Book"
  | 5 => .array (.object "ShaftWinder$Sheet")
  | 6 => .array .int
  | 7 => .array .int
  | 8 => .int
  | 9 => .int
  | _ => .array .int
theorem nmX7 : ∀ a, a < 11 → ∀ b, b < 11 → a ≠ b → (TX7 a).2.1 ≠ (TX7 b).2.1 := by decide +kernel
theorem tyX7_ok : ∀ k, k < 11 → parseFieldDescriptor (TX7 k).2.2.1 = some (tyX7 k) := by decide +kernel
abbrev cX7_init : ByteArray := prog_1_method_1_code
def yX7_init : MethodName := ⟨RX7, "<init>", "()V"⟩
abbrev cX7_shaft : ByteArray := prog_1_method_2_code
def yX7_shaft : MethodName := ⟨RX7, "shaft", "(III)I"⟩
abbrev cX7_zone : ByteArray := prog_1_method_3_code
def yX7_zone : MethodName := ⟨RX7, "zone", "(III)I"⟩
abbrev cX7_stop : ByteArray := prog_1_method_4_code
def yX7_stop : MethodName := ⟨RX7, "stop", "(II)I"⟩
abbrev cX7_most : ByteArray := prog_1_method_5_code
def yX7_most : MethodName := ⟨RX7, "most", "(II)I"⟩
abbrev cX7_ticks : ByteArray := prog_1_method_6_code
def yX7_ticks : MethodName := ⟨RX7, "ticks", "(I)I"⟩
abbrev cX7_speed : ByteArray := prog_1_method_7_code
def yX7_speed : MethodName := ⟨RX7, "speed", "(II)I"⟩
abbrev cX7_ring : ByteArray := prog_1_method_8_code
def yX7_ring : MethodName := ⟨RX7, "ring", "(I)I"⟩
abbrev cX7_link : ByteArray := prog_1_method_9_code
def yX7_link : MethodName := ⟨RX7, "link", "(IZ)I"⟩
abbrev cX7_error : ByteArray := prog_1_method_10_code
def yX7_error : MethodName := ⟨RX7, "error", "(II)I"⟩
abbrev cX7_guard : ByteArray := prog_1_method_11_code
def yX7_guard : MethodName := ⟨RX7, "guard", "(II)I"⟩
abbrev cX7_begin : ByteArray := prog_1_method_12_code
def yX7_begin : MethodName := ⟨RX7, "begin", "(I)I"⟩
abbrev cX7_pass : ByteArray := prog_1_method_13_code
def yX7_pass : MethodName := ⟨RX7, "pass", "(I)I"⟩
abbrev cX7_state : ByteArray := prog_1_method_14_code
def yX7_state : MethodName := ⟨RX7, "state", "(I)I"⟩
abbrev cX7_loads : ByteArray := prog_1_method_15_code
def yX7_loads : MethodName := ⟨RX7, "loads", "(III)I"⟩
abbrev cX7_ratio : ByteArray := prog_1_method_16_code
def yX7_ratio : MethodName := ⟨RX7, "ratio", "(I)I"⟩
abbrev cX7_slips : ByteArray := prog_1_method_17_code
def yX7_slips : MethodName := ⟨RX7, "slips", "(II)I"⟩
abbrev cX7_slipAt : ByteArray := prog_1_method_18_code
def yX7_slipAt : MethodName := ⟨RX7, "slipAt", "(I)I"⟩
abbrev cX7_hold : ByteArray := prog_1_method_19_code
def yX7_hold : MethodName := ⟨RX7, "hold", "(I)I"⟩
abbrev cX7_broken : ByteArray := prog_1_method_20_code
def yX7_broken : MethodName := ⟨RX7, "broken", "(II)I"⟩
abbrev cX7_worst : ByteArray := prog_1_method_21_code
def yX7_worst : MethodName := ⟨RX7, "worst", "(I)I"⟩
abbrev cX7_worstAt : ByteArray := prog_1_method_22_code
def yX7_worstAt : MethodName := ⟨RX7, "worstAt", "(I)I"⟩
abbrev cX7_cut : ByteArray := prog_1_method_23_code
def yX7_cut : MethodName := ⟨RX7, "cut", "(I)I"⟩
abbrev cX7_mend : ByteArray := prog_1_method_24_code
def yX7_mend : MethodName := ⟨RX7, "mend", "(II)I"⟩
abbrev cX7_shift : ByteArray := prog_1_method_25_code
def yX7_shift : MethodName := ⟨RX7, "shift", "(IIII)I"⟩
abbrev cX7_both : ByteArray := prog_1_method_26_code
def yX7_both : MethodName := ⟨RX7, "both", "(III)I"⟩
abbrev cX7_log : ByteArray := prog_1_method_27_code
def yX7_log : MethodName := ⟨RX7, "log", "(II)I"⟩
abbrev cX7_sheet : ByteArray := prog_1_method_28_code
def yX7_sheet : MethodName := ⟨RX7, "sheet", "(III)I"⟩
abbrev cX7_lose : ByteArray := prog_1_method_29_code
def yX7_lose : MethodName := ⟨RX7, "lose", "(I)I"⟩
abbrev cX7_put : ByteArray := prog_1_method_30_code
def yX7_put : MethodName := ⟨RX7, "put", "(IIII)I"⟩
abbrev cX7_get : ByteArray := prog_1_method_31_code
def yX7_get : MethodName := ⟨RX7, "get", "(III)I"⟩
abbrev cX7_copy : ByteArray := prog_1_method_32_code
def yX7_copy : MethodName := ⟨RX7, "copy", "(IIIII)I"⟩
abbrev cX7_read : ByteArray := prog_1_method_33_code
def yX7_read : MethodName := ⟨RX7, "read", "(I)I"⟩
abbrev cX7_write : ByteArray := prog_1_method_34_code
def yX7_write : MethodName := ⟨RX7, "write", "(II)I"⟩
abbrev cX7_plan : ByteArray := prog_1_method_35_code
def yX7_plan : MethodName := ⟨RX7, "plan", "(II)I"⟩
abbrev cX7_check : ByteArray := prog_1_method_36_code
def yX7_check : MethodName := ⟨RX7, "check", "(I)I"⟩
abbrev cX7_digest : ByteArray := prog_1_method_37_code
def yX7_digest : MethodName := ⟨RX7, "digest", "()J"⟩
abbrev cX7_within : ByteArray := prog_1_method_38_code
def yX7_within : MethodName := ⟨RX7, "within", "(III)Z"⟩
abbrev cX7_isSheet : ByteArray := prog_1_method_39_code
def yX7_isSheet : MethodName := ⟨RX7, "isSheet", "(I)Z"⟩
abbrev cX7_isForm : ByteArray := prog_1_method_40_code
def yX7_isForm : MethodName := ⟨RX7, "isForm", "(I)Z"⟩
abbrev cX7_areMen : ByteArray := prog_1_method_41_code
def yX7_areMen : MethodName := ⟨RX7, "areMen", "(III)Z"⟩
abbrev cX7_tripsFor : ByteArray := prog_1_method_42_code
def yX7_tripsFor : MethodName := ⟨RX7, "tripsFor", "(II)I"⟩
abbrev cX7_finding : ByteArray := prog_1_method_43_code
def yX7_finding : MethodName := ⟨RX7, "finding", "(I)I"⟩
abbrev cX7_wrongOfItem : ByteArray := prog_1_method_44_code
def yX7_wrongOfItem : MethodName := ⟨RX7, "wrongOfItem", "(LShaftWinder$Sheet;II)I"⟩
def RX8 : String := "ShaftWinderModel"
def TX8 : u_T := fun k => match k with
  | 0 => ("ShaftWinderModel", "deep", "I", false)
  | 1 => ("ShaftWinderModel", "top", "I", false)
  | 2 => ("ShaftWinderModel", "change", "I", false)
  | 3 => ("ShaftWinderModel", "zones", "I", false)
  | 4 => ("ShaftWinderModel", "zoneFrom", "[I", true)
  | 5 => ("ShaftWinderModel", "zoneTo", "[I", true)
  | 6 => ("ShaftWinderModel", "zoneSpeed", "[I", true)
  | 7 => ("ShaftWinderModel", "stops", "I", false)
  | 8 => ("ShaftWinderModel", "stopPlace", "[I", true)
  | 9 => ("ShaftWinderModel", "stopCode", "[I", true)
  | 10 => ("ShaftWinderModel", "place", "I", false)
  | 11 => ("ShaftWinderModel", "speed", "I", false)
  | 12 => ("ShaftWinderModel", "how", "I", false)
  | 13 => ("ShaftWinderModel", "bell", "I", false)
  | 14 => ("ShaftWinderModel", "isOpen", "[Z", true)
  | 15 => ("ShaftWinderModel", "errors", "[I", true)
  | 16 => ("ShaftWinderModel", "margin", "I", false)
  | 17 => ("ShaftWinderModel", "brake", "I", false)
  | 18 => ("ShaftWinderModel", "ticks", "I", false)
  | 19 => ("ShaftWinderModel", "ended", "I", false)
  | 20 => ("ShaftWinderModel", "braked", "I", false)
  | 21 => ("ShaftWinderModel", "ride", "[I", true)
  | 22 => ("ShaftWinderModel", "rideMany", "I", false)
  | 23 => ("ShaftWinderModel", "rideAt", "I", false)
  | 24 => ("ShaftWinderModel", "limits", "[I", true)
  | 25 => ("ShaftWinderModel", "left", "[I", true)
  | 26 => ("ShaftWinderModel", "queue", "[I", true)
  | 27 => ("ShaftWinderModel", "plan", "[I", true)
  | 28 => ("ShaftWinderModel", "logRows", "[I", true)
  | 29 => ("ShaftWinderModel", "load0", "I", false)
  | 30 => ("ShaftWinderModel", "load1", "I", false)
  | 31 => ("ShaftWinderModel", "weight", "I", false)
  | 32 => ("ShaftWinderModel", "ratio", "I", false)
  | 33 => ("ShaftWinderModel", "lays", "[I", true)
  | 34 => ("ShaftWinderModel", "isThere", "[Z", true)
  | 35 => ("ShaftWinderModel", "forms", "[I", true)
  | 36 => ("ShaftWinderModel", "sizes", "[I", true)
  | 37 => ("ShaftWinderModel", "items", "[I", true)
  | 38 => ("ShaftWinderModel", "moved", "[I", true)
  | _ => ("ShaftWinderModel", "finding", "I", false)
def tyX8 : Nat → FieldType := fun k => match k with
  | 0 => .int
  | 1 => .int
  | 2 => .int
  | 3 => .int
  | 4 => .array .int
  | 5 => .array .int
  | 6 => .array .int
  | 7 => .int
  | 8 => .array .int
  | 9 => .array .int
  | 10 => .int
  | 11 => .int
  | 12 => .int
  | 13 => .int
  | 14 => .array .boolean
  | 15 => .array .int
  | 16 => .int
  | 17 => .int
  | 18 => .int
  | 19 => .int
  | 20 => .int
  | 21 => .array .int
  | 22 => .int
  | 23 => .int
  | 24 => .array .int
  | 25 => .array .int
  | 26 => .array .int
  | 27 => .array .int
  | 28 => .array .int
  | 29 => .int
  | 30 => .int
  | 31 => .int
  | 32 => .int
  | 33 => .array .int
  | 34 => .array .boolean
  | 35 => .array .int
  | 36 => .array .int
  | 37 => .array .int
  | 38 => .array .int
  | _ => .int
theorem nmX8 : ∀ a, a < 40 → ∀ b, b < 40 → a ≠ b → (TX8 a).2.1 ≠ (TX8 b).2.1 := by decide +kernel
theorem tyX8_ok : ∀ k, k < 40 → parseFieldDescriptor (TX8 k).2.2.1 = some (tyX8 k) := by decide +kernel
abbrev cX8_init : ByteArray := prog_10_method_1_code
def yX8_init : MethodName := ⟨RX8, "<init>", "()V"⟩
abbrev cX8_in : ByteArray := prog_10_method_3_code
def yX8_in : MethodName := ⟨RX8, "in", "(III)Z"⟩
abbrev cX8_shaft : ByteArray := prog_10_method_4_code
def yX8_shaft : MethodName := ⟨RX8, "shaft", "(III)I"⟩
abbrev cX8_isPlace : ByteArray := prog_10_method_5_code
def yX8_isPlace : MethodName := ⟨RX8, "isPlace", "(I)Z"⟩
abbrev cX8_zone : ByteArray := prog_10_method_6_code
def yX8_zone : MethodName := ⟨RX8, "zone", "(III)I"⟩
abbrev cX8_stop : ByteArray := prog_10_method_7_code
def yX8_stop : MethodName := ⟨RX8, "stop", "(II)I"⟩
abbrev cX8_allowed : ByteArray := prog_10_method_8_code
def yX8_allowed : MethodName := ⟨RX8, "allowed", "(I)I"⟩
abbrev cX8_lookAtZones : ByteArray := prog_10_method_9_code
def yX8_lookAtZones : MethodName := ⟨RX8, "lookAtZones", "()V"⟩
abbrev cX8_isTick : ByteArray := prog_10_method_10_code
def yX8_isTick : MethodName := ⟨RX8, "isTick", "(II)Z"⟩
abbrev cX8_most : ByteArray := prog_10_method_11_code
def yX8_most : MethodName := ⟨RX8, "most", "(II)I"⟩
abbrev cX8_workBack : ByteArray := prog_10_method_12_code
def yX8_workBack : MethodName := ⟨RX8, "workBack", "(I)V"⟩
abbrev cX8_plans : ByteArray := prog_10_method_13_code
def yX8_plans : MethodName := ⟨RX8, "plans", "(II)I"⟩
abbrev cX8_goes : ByteArray := prog_10_method_14_code
def yX8_goes : MethodName := ⟨RX8, "goes", "(III)Z"⟩
abbrev cX8_ticks : ByteArray := prog_10_method_15_code
def yX8_ticks : MethodName := ⟨RX8, "ticks", "(I)I"⟩
abbrev cX8_speed : ByteArray := prog_10_method_16_code
def yX8_speed : MethodName := ⟨RX8, "speed", "(II)I"⟩
abbrev cX8_ring : ByteArray := prog_10_method_17_code
def yX8_ring : MethodName := ⟨RX8, "ring", "(I)I"⟩
abbrev cX8_link : ByteArray := prog_10_method_18_code
def yX8_link : MethodName := ⟨RX8, "link", "(IZ)I"⟩
abbrev cX8_error : ByteArray := prog_10_method_19_code
def yX8_error : MethodName := ⟨RX8, "error", "(II)I"⟩
abbrev cX8_guard : ByteArray := prog_10_method_20_code
def yX8_guard : MethodName := ⟨RX8, "guard", "(II)I"⟩
abbrev cX8_opens : ByteArray := prog_10_method_21_code
def yX8_opens : MethodName := ⟨RX8, "opens", "()I"⟩
abbrev cX8_told : ByteArray := prog_10_method_22_code
def yX8_told : MethodName := ⟨RX8, "told", "()I"⟩
abbrev cX8_begin : ByteArray := prog_10_method_23_code
def yX8_begin : MethodName := ⟨RX8, "begin", "(I)I"⟩
abbrev cX8_brakes : ByteArray := prog_10_method_24_code
def yX8_brakes : MethodName := ⟨RX8, "brakes", "()V"⟩
abbrev cX8_rides : ByteArray := prog_10_method_25_code
def yX8_rides : MethodName := ⟨RX8, "rides", "()V"⟩
abbrev cX8_pass : ByteArray := prog_10_method_26_code
def yX8_pass : MethodName := ⟨RX8, "pass", "(I)I"⟩
abbrev cX8_state : ByteArray := prog_10_method_27_code
def yX8_state : MethodName := ⟨RX8, "state", "(I)I"⟩
abbrev cX8_loads : ByteArray := prog_10_method_28_code
def yX8_loads : MethodName := ⟨RX8, "loads", "(III)I"⟩
abbrev cX8_ratio : ByteArray := prog_10_method_29_code
def yX8_ratio : MethodName := ⟨RX8, "ratio", "(I)I"⟩
abbrev cX8_isSlipping : ByteArray := prog_10_method_30_code
def yX8_isSlipping : MethodName := ⟨RX8, "isSlipping", "(III)Z"⟩
abbrev cX8_slips : ByteArray := prog_10_method_31_code
def yX8_slips : MethodName := ⟨RX8, "slips", "(II)I"⟩
abbrev cX8_firstSlip : ByteArray := prog_10_method_32_code
def yX8_firstSlip : MethodName := ⟨RX8, "firstSlip", "(III)I"⟩
abbrev cX8_slipAt : ByteArray := prog_10_method_33_code
def yX8_slipAt : MethodName := ⟨RX8, "slipAt", "(I)I"⟩
abbrev cX8_hold : ByteArray := prog_10_method_34_code
def yX8_hold : MethodName := ⟨RX8, "hold", "(I)I"⟩
abbrev cX8_broken : ByteArray := prog_10_method_35_code
def yX8_broken : MethodName := ⟨RX8, "broken", "(II)I"⟩
abbrev cX8_worstFrom : ByteArray := prog_10_method_36_code
def yX8_worstFrom : MethodName := ⟨RX8, "worstFrom", "(II)I"⟩
abbrev cX8_sumOf : ByteArray := prog_10_method_37_code
def yX8_sumOf : MethodName := ⟨RX8, "sumOf", "(II)I"⟩
abbrev cX8_worst : ByteArray := prog_10_method_38_code
def yX8_worst : MethodName := ⟨RX8, "worst", "(I)I"⟩
abbrev cX8_worstAt : ByteArray := prog_10_method_39_code
def yX8_worstAt : MethodName := ⟨RX8, "worstAt", "(I)I"⟩
abbrev cX8_cut : ByteArray := prog_10_method_40_code
def yX8_cut : MethodName := ⟨RX8, "cut", "(I)I"⟩
abbrev cX8_mend : ByteArray := prog_10_method_41_code
def yX8_mend : MethodName := ⟨RX8, "mend", "(II)I"⟩
abbrev cX8_areMen : ByteArray := prog_10_method_42_code
def yX8_areMen : MethodName := ⟨RX8, "areMen", "(III)Z"⟩
abbrev cX8_shift : ByteArray := prog_10_method_43_code
def yX8_shift : MethodName := ⟨RX8, "shift", "(IIII)I"⟩
abbrev cX8_both : ByteArray := prog_10_method_44_code
def yX8_both : MethodName := ⟨RX8, "both", "(III)I"⟩
abbrev cX8_logged : ByteArray := prog_10_method_45_code
def yX8_logged : MethodName := ⟨RX8, "logged", "()I"⟩
abbrev cX8_log : ByteArray := prog_10_method_46_code
def yX8_log : MethodName := ⟨RX8, "log", "(II)I"⟩
abbrev cX8_meets : ByteArray := prog_10_method_47_code
def yX8_meets : MethodName := ⟨RX8, "meets", "(I)I"⟩
abbrev cX8_isSheet : ByteArray := prog_10_method_48_code
def yX8_isSheet : MethodName := ⟨RX8, "isSheet", "(I)Z"⟩
abbrev cX8_sheet : ByteArray := prog_10_method_49_code
def yX8_sheet : MethodName := ⟨RX8, "sheet", "(III)I"⟩
abbrev cX8_lose : ByteArray := prog_10_method_50_code
def yX8_lose : MethodName := ⟨RX8, "lose", "(I)I"⟩
abbrev cX8_lacks : ByteArray := prog_10_method_51_code
def yX8_lacks : MethodName := ⟨RX8, "lacks", "(III)I"⟩
abbrev cX8_lay : ByteArray := prog_10_method_52_code
def yX8_lay : MethodName := ⟨RX8, "lay", "(III)V"⟩
abbrev cX8_put : ByteArray := prog_10_method_53_code
def yX8_put : MethodName := ⟨RX8, "put", "(IIII)I"⟩
abbrev cX8_get : ByteArray := prog_10_method_54_code
def yX8_get : MethodName := ⟨RX8, "get", "(III)I"⟩
abbrev cX8_copy : ByteArray := prog_10_method_55_code
def yX8_copy : MethodName := ⟨RX8, "copy", "(IIIII)I"⟩
abbrev cX8_read : ByteArray := prog_10_method_56_code
def yX8_read : MethodName := ⟨RX8, "read", "(I)I"⟩
abbrev cX8_write : ByteArray := prog_10_method_57_code
def yX8_write : MethodName := ⟨RX8, "write", "(II)I"⟩
abbrev cX8_plan : ByteArray := prog_10_method_58_code
def yX8_plan : MethodName := ⟨RX8, "plan", "(II)I"⟩
abbrev cX8_check : ByteArray := prog_10_method_59_code
def yX8_check : MethodName := ⟨RX8, "check", "(I)I"⟩
abbrev cX8_fits : ByteArray := prog_10_method_60_code
def yX8_fits : MethodName := ⟨RX8, "fits", "(III)Z"⟩
abbrev cX8_digest : ByteArray := prog_10_method_61_code
def yX8_digest : MethodName := ⟨RX8, "digest", "()J"⟩
def RJ9 : String := "java/lang/Math"
def TJ9 : u_T := fun k => match k with
  | _ => ("", "", "", false)
def tyJ9 : Nat → FieldType := fun k => match k with
  | _ => .int
abbrev wsJ90 : List Cond := u_ws RJ9 TJ9 0
theorem nmJ9 : ∀ a, a < 0 → ∀ b, b < 0 → a ≠ b → (TJ9 a).2.1 ≠ (TJ9 b).2.1 := by decide +kernel
theorem tyJ9_ok : ∀ k, k < 0 → parseFieldDescriptor (TJ9 k).2.2.1 = some (tyJ9 k) := by decide +kernel
abbrev cJ9_floorMod_7cf53 : ByteArray := prog_11_method_50_code
def yJ9_floorMod_7cf53 : MethodName := ⟨RJ9, "floorMod", "(II)I"⟩
abbrev cJ9_abs_0f7a4 : ByteArray := prog_11_method_59_code
def yJ9_abs_0f7a4 : MethodName := ⟨RJ9, "abs", "(I)I"⟩
abbrev cJ9_max_7cf53 : ByteArray := prog_11_method_65_code
def yJ9_max_7cf53 : MethodName := ⟨RJ9, "max", "(II)I"⟩
abbrev cJ9_min_7cf53 : ByteArray := prog_11_method_69_code
def yJ9_min_7cf53 : MethodName := ⟨RJ9, "min", "(II)I"⟩
def RJ10 : String := "java/lang/System"
def TJ10 : u_T := fun k => match k with
  | _ => ("", "", "", false)
def tyJ10 : Nat → FieldType := fun k => match k with
  | _ => .int
abbrev wsJ100 : List Cond := u_ws RJ10 TJ10 0
theorem nmJ10 : ∀ a, a < 0 → ∀ b, b < 0 → a ≠ b → (TJ10 a).2.1 ≠ (TJ10 b).2.1 := by decide +kernel
theorem tyJ10_ok : ∀ k, k < 0 → parseFieldDescriptor (TJ10 k).2.2.1 = some (tyJ10 k) := by decide +kernel
def RJ7 : String := "java/util/Arrays"
def TJ7 : u_T := fun k => match k with
  | _ => ("", "", "", false)
def tyJ7 : Nat → FieldType := fun k => match k with
  | _ => .int
abbrev wsJ70 : List Cond := u_ws RJ7 TJ7 0
theorem nmJ7 : ∀ a, a < 0 → ∀ b, b < 0 → a ≠ b → (TJ7 a).2.1 ≠ (TJ7 b).2.1 := by decide +kernel
theorem tyJ7_ok : ∀ k, k < 0 → parseFieldDescriptor (TJ7 k).2.2.1 = some (tyJ7 k) := by decide +kernel
abbrev cJ7_fill_53178 : ByteArray := prog_13_method_103_code
def yJ7_fill_53178 : MethodName := ⟨RJ7, "fill", "([II)V"⟩
def RL : String := "ShaftWinderLaw"
abbrev cL_law : ByteArray := code
def yL_law : MethodName := ⟨RL, "law", "([I)Z"⟩
end
section
/-! THE PLAIN MACHINE: values are whole numbers (Int), longs (Int) and places of cells (Nat); the cells and where they refer to are fixed; a state of the heap is a table of numbers. -/
abbrev sw_Vl : Type := Int ⊕ Int ⊕ Nat
abbrev sw_L : Type := List (Nat × sw_Vl)
abbrev sw_S : Type := Nat → Nat → Int
abbrev sw_Rf : Type := Nat → Nat → Option Nat
abbrev sw_I : Type := Instr × Nat × Nat × Int
abbrev sw_M : Type := MethodName × ByteArray × Nat × Option FieldType × Nat × Nat
abbrev sw_C3 : Type := ClassId × ClassId × ClassId
abbrev sw_Ly : Type := List (Nat × Nat)
abbrev sw_cl : List vw_C := [(RX0, TX0, 1), (RX1, TX1, 5), (RX2, TX2, 5), (RX3, TX3, 5), (RX4, TX4, 4), (RX5, TX5, 2), (RX6, TX6, 15), (RX7, TX7, 11), (RX8, TX8, 40)]
def sw_tv (ad : Nat → Nat) : sw_Vl → Value
  | .inl x => .int (Int32.ofInt x)
  | .inr (.inl x) => .long (Int64.ofInt x)
  | .inr (.inr a) => .ref (ad a)
def sw_cat : sw_Vl → Nat
  | .inl _ => 1
  | .inr (.inl _) => 2
  | .inr (.inr _) => 1
theorem sw_tv_cat (ad : Nat → Nat) (v : sw_Vl) : (sw_tv ad v).category = sw_cat v := by rcases v with x | x | a <;> rfl
def sw_tl (ad : Nat → Nat) (L : sw_L) : List (Nat × Value) := L.map fun q => (q.1, sw_tv ad q.2)
def sw_N (a : Nat) : Nat := match sw_cl[a]? with
  | some r => r.2.2
  | none => 0
def sw_fv (ad : Nat → Nat) (r : Option Nat) (x : Int) : Value := match r with
  | some a => .ref (ad a)
  | none => .int (Int32.ofInt x)
def sw_ce (c3 : sw_C3) (ad : Nat → Nat) (ρ : sw_Rf) (σ : sw_S) (i : Nat) (k : Nat × Nat) : va_E :=
  if k.1 = 100 then .inl (c3.1, k.2, .inl fun j => Int32.ofInt (σ i j))
  else if k.1 = 101 then .inl (c3.2.1, k.2, .inl fun j => Int32.ofInt (σ i j))
  else if k.1 = 102 then .inl (c3.2.2, k.2, .inr (.inr (.inr (.inr fun j => (ρ i j).map ad))))
  else .inr (k.1, (List.range (sw_N k.1)).map fun j => sw_fv ad (ρ i j) (σ i j))
def sw_wl (c3 : sw_C3) (ad : Nat → Nat) (ly : sw_Ly) (ρ : sw_Rf) (σ : sw_S) : va_W := ly.mapIdx fun i k => (ad i, sw_ce c3 ad ρ σ i k)
theorem sw_wl_at {c3 : sw_C3} {ad : Nat → Nat} {ly : sw_Ly} {ρ : sw_Rf} {σ : sw_S} {i : Nat} {k : Nat × Nat} (h : ly[i]? = some k) : (sw_wl c3 ad ly ρ σ)[i]? = some (ad i, sw_ce c3 ad ρ σ i k) := by
  simp [sw_wl, h]
theorem sw_ce_cong {c3 : sw_C3} {ad : Nat → Nat} {ρ : sw_Rf} {σ σ' : sw_S} {i : Nat} {k : Nat × Nat} (h : ∀ j, σ' i j = σ i j) : sw_ce c3 ad ρ σ' i k = sw_ce c3 ad ρ σ i k := by
  unfold sw_ce
  simp only [h]
def sw_u (σ : sw_S) (i j : Nat) (v : Int) : sw_S := fun a b => if a = i ∧ b = j then v else σ a b
theorem sw_u_same (σ : sw_S) (i j : Nat) (v : Int) : sw_u σ i j v i j = v := by simp [sw_u]
theorem sw_u_ne (σ : sw_S) {i j a b : Nat} (v : Int) (h : ¬ (a = i ∧ b = j)) : sw_u σ i j v a b = σ a b := by simp [sw_u, h]
theorem sw_u_row (σ : sw_S) {i j a b : Nat} (v : Int) (h : a ≠ i) : sw_u σ i j v a b = σ a b := sw_u_ne σ v (fun q => h q.1)
theorem sw_wl_set {c3 : sw_C3} {ad : Nat → Nat} {ly : sw_Ly} {ρ : sw_Rf} {σ σ' : sw_S} {i : Nat} {k : Nat × Nat} (h : ly[i]? = some k) (ho : ∀ a b, a ≠ i → σ' a b = σ a b) : (sw_wl c3 ad ly ρ σ).set i (ad i, sw_ce c3 ad ρ σ' i k) = sw_wl c3 ad ly ρ σ' := by
  apply List.ext_getElem?
  intro n
  have hi : i < ly.length := (List.getElem?_eq_some_iff.mp h).1
  by_cases hn : n = i
  · subst hn
    rw [List.getElem?_set_self (by simpa [sw_wl] using hi), sw_wl_at h]
  · rw [List.getElem?_set_ne (Ne.symm hn)]
    cases hk : ly[n]? with
    | none => simp [sw_wl, hk]
    | some k' => rw [sw_wl_at hk, sw_wl_at hk, sw_ce_cong (fun j => ho n j hn)]
def sw_A (ad : Nat → Nat) (n sz : Nat) : Nat → Prop := fun q => (∃ i, i < n ∧ q = ad i) ∨ sz ≤ q
def sw_inj (ad : Nat → Nat) (n : Nat) : Prop := ∀ i j, i < n → j < n → ad i = ad j → i = j
theorem sw_D {c3 : sw_C3} {ad : Nat → Nat} {ly : sw_Ly} {ρ : sw_Rf} {σ : sw_S} {sz : Nat} (hj : sw_inj ad ly.length) : va_D (sw_A ad ly.length sz) (sw_wl c3 ad ly ρ σ) := by
  have key : ∀ (k : Nat) (q : Nat × va_E), (sw_wl c3 ad ly ρ σ)[k]? = some q → k < ly.length ∧ q.1 = ad k := by
    intro k q hk
    cases h : ly[k]? with
    | none => simp [sw_wl, h] at hk
    | some kd =>
      rw [sw_wl_at h] at hk
      cases hk
      exact ⟨(List.getElem?_eq_some_iff.mp h).1, rfl⟩
  refine ⟨fun i j x y hx hy hxy => ?_, fun k q hk => ?_⟩
  · obtain ⟨h1, e1⟩ := key i x hx
    obtain ⟨h2, e2⟩ := key j y hy
    exact hj i j h1 h2 (by rw [← e1, ← e2, hxy])
  · obtain ⟨h1, e1⟩ := key k q hk
    exact Or.inl ⟨k, h1, e1⟩
abbrev sw_tys (c3 : sw_C3) : List (ClassId × FieldType) := [(c3.1, .int), (c3.2.1, .boolean), (c3.2.2, .object "ShaftWinder$Sheet")]
def sw_ws (M : sw_M) : List Cond := Cond.code M.1 M.2.1 M.2.2.1 M.2.2.2.1 :: lw_tbl
def sw_rm (M : sw_M) : Room := { frames := M.2.2.2.2.1, cells := 0, slots := 0, locals := M.2.2.2.2.2 }
def sw_Qc (D : va_G) (c3 : sw_C3) (ad : Nat → Nat) (ly : sw_Ly) (ρ : sw_Rf) (Q : Option sw_Vl → sw_S → Prop) (A : Nat → Prop) : Array Value → State → Outcome → State → Prop := fun _ st oc t =>
  (∃ (r : Option sw_Vl) (σ' : sw_S), oc = .returned (r.map (sw_tv ad)) ∧ Q r σ' ∧ va_P D sw_cl (sw_wl c3 ad ly ρ σ') t.heap ∧ va_K D sw_cl (sw_tys c3) t) ∧ va_F A st t
def sw_Pc (D : va_G) (c3 : sw_C3) (ad : Nat → Nat) (ly : sw_Ly) (ρ : sw_Rf) (σ : sw_S) (args : List sw_Vl) (sz : Nat) : Array Value → State → Prop := va_Pc (args.map (sw_tv ad)) (fun U => U.heap.size = sz ∧ va_P D sw_cl (sw_wl c3 ad ly ρ σ) U.heap ∧ va_K D sw_cl (sw_tys c3) U)
/-- THE CONTRACT of a method over the plain machine: from these numbers it returns, and Q holds of its answer and the numbers behind it -/
def sw_Con (ly : sw_Ly) (ρ : sw_Rf) (M : sw_M) (args : List sw_Vl) (σ : sw_S) (Q : Option sw_Vl → sw_S → Prop) : Prop :=
  ∀ (l : Launch) (D : va_G) (c3 : sw_C3) (ad : Nat → Nat) (sz : Nat), sw_inj ad ly.length → Met l M.1 (sw_ws M) (sw_rm M) (sw_Pc D c3 ad ly ρ σ args sz) (sw_Qc D c3 ad ly ρ Q (sw_A ad ly.length sz)) 0 0 (sw_A ad ly.length sz)
def sw_CX (M : sw_M) (D : va_G) (c3 : sw_C3) (ad : Nat → Nat) (n : Nat) (p : Program) (s : State) (m : MethodId) (args : Array Value) (meth : Method) (c : Code) : Prop :=
  p.tables.exec = Jvm.exec ∧ c.code = M.2.1 ∧ meth.sig.returnType = M.2.2.2.1 ∧ c.maxLocals = M.2.2.1 ∧ s.vm.findClass M.1.cls = some m.cls ∧ (∀ w ∈ lw_tbl, w.before args s = true) ∧ meth.locks = false ∧ va_K D sw_cl (sw_tys c3) s ∧ sw_inj ad n
/-- within a method: from this place, with these locals, this stack and these numbers, it comes to its end with Q -/
def sw_E (ly : sw_Ly) (ρ : sw_Rf) (M : sw_M) (pc : Nat) (L : sw_L) (st : List sw_Vl) (σ : sw_S) (Q : Option sw_Vl → sw_S → Prop) : Prop :=
  ∀ (l : Launch) (D : va_G) (c3 : sw_C3) (ad : Nat → Nat) (p : Program) (e : Env) (s : State) (m : MethodId) (args : Array Value) (below : List Frame) (meth : Method) (c : Code) (H : Heap) (locs : List Loc) (ls : Array Slot),
    sw_CX M D c3 ad ly.length p s m args meth c → va_P D sw_cl (sw_wl c3 ad ly ρ σ) H → va_S (sw_A ad ly.length s.heap.size) s.heap H locs → lv_has ls M.2.2.1 (sw_tl ad L) →
    W p l e (sw_rm M) s m args below meth c H locs 0 0 (MQ below (sw_Qc D c3 ad ly ρ Q (sw_A ad ly.length s.heap.size)) args s 0 0 (sw_A ad ly.length s.heap.size)) (F0 m pc ls (st.map (sw_tv ad)))
def sw_L0 : Nat → List sw_Vl → sw_L
  | _, [] => []
  | i, v :: vs => (i, v) :: sw_L0 (if sw_cat v = 2 then i + 2 else i + 1) vs
theorem sw_L0_tl (ad : Nat → Nat) : ∀ (vs : List sw_Vl) (i : Nat), lv_args i (vs.map (sw_tv ad)) = sw_tl ad (sw_L0 i vs)
  | [], _ => rfl
  | v :: vs, i => by
    have h := sw_L0_tl ad vs (if sw_cat v = 2 then i + 2 else i + 1)
    simp only [List.map_cons, lv_args, sw_L0, sw_tl, sw_tv_cat] at h ⊢
    rw [h]
def sw_wd : List sw_Vl → Nat
  | [] => 0
  | v :: vs => sw_cat v + sw_wd vs
theorem sw_wd_sl (ad : Nat → Nat) : ∀ (vs : List sw_Vl), (lg_sl (vs.map (sw_tv ad))).length = sw_wd vs
  | [] => rfl
  | v :: vs => by
    have h := sw_wd_sl ad vs
    have hc := sw_tv_cat ad v
    simp only [lg_sl, List.map_cons, List.flatMap_cons, List.length_append, sw_wd] at h ⊢
    rw [h]
    rcases v with x | x | a <;> simp [sw_tv, sw_cat, Value.category]
theorem sw_con {ly : sw_Ly} {ρ : sw_Rf} {M : sw_M} {args : List sw_Vl} {σ : sw_S} {Q : Option sw_Vl → sw_S → Prop} (hy : plainName M.1.cls = true) (hw : sw_wd args ≤ M.2.2.1) (hE : sw_E ly ρ M 0 (sw_L0 0 args) [] σ Q) : sw_Con ly ρ M args σ Q := by
  intro l D c3 ad sz hj
  refine Met.ofW (cc := M.2.1) (maxL := M.2.2.1) (ret := M.2.2.2.1) hy rfl ?_
  intro p e s m args' below meth c s₁ B hml hv
  obtain ⟨rfl, hsz, hP, hK⟩ := hv
  subst hsz
  have hts := atoms_spec (ws := sw_ws M) B.pre
  rw [lg_entry_eq]
  have hl := lv_entry (args.map (sw_tv ad)) (n := M.2.2.1) (by rw [sw_wd_sl]; exact hw)
  rw [sw_L0_tl] at hl
  exact hE l D c3 ad p e s m _ below meth c s.heap [] _ ⟨B.exec, B.bytes, B.returns, hml, findClass_of_methodNamed B.named, fun w hw => hts w (List.mem_cons_of_mem _ hw), B.notSynchronized, hK, hj⟩ hP va_S.rf hl
/-- numbers within the ints -/
def sw_g (x : Int) : Prop := -2147483648 ≤ x ∧ x < 2147483648
theorem sw_ti {x : Int} (h : sw_g x) : (Int32.ofInt x).toInt = x := Int32.toInt_ofInt_of_le (by have := h.1; omega) (by have := h.2; omega)
theorem sw_lt {x y : Int} (hx : sw_g x) (hy : sw_g y) : Int32.ofInt x < Int32.ofInt y ↔ x < y := by rw [Int32.lt_iff_toInt_lt, sw_ti hx, sw_ti hy]
theorem sw_le {x y : Int} (hx : sw_g x) (hy : sw_g y) : Int32.ofInt x ≤ Int32.ofInt y ↔ x ≤ y := by rw [Int32.le_iff_toInt_le, sw_ti hx, sw_ti hy]
theorem sw_eq {x y : Int} (hx : sw_g x) (hy : sw_g y) : Int32.ofInt x = Int32.ofInt y ↔ x = y := by rw [← Int32.toInt_inj, sw_ti hx, sw_ti hy]
theorem sw_g0 : sw_g 0 := ⟨by decide, by decide⟩
theorem sw_of0 : Int32.ofInt 0 = 0 := rfl
theorem sw_ix {x : Int} {n : Nat} (h0 : 0 ≤ x) (hn : x < n) (hg : (n : Int) ≤ 2147483648) : vp_in (Int32.ofInt x) n ∧ (Int32.ofInt x).toNatClampNeg = x.toNat := by
  have hx : sw_g x := ⟨by omega, by omega⟩
  have e : (Int32.ofInt x).toNatClampNeg = x.toNat := by
    show (Int32.ofInt x).toInt.toNat = _
    rw [sw_ti hx]
  refine ⟨?_, e⟩
  rw [vp_in_iff, sw_ti hx]
  exact ⟨h0, hn⟩
end
